/-! THE START'S HEAP is as the walk wants it -/
def sx_gi : List Int := [0, 0, 0, 0, 0, 0, 0, 0, 0, 0, 0, 0, 0, 0, 0, 0, 0, 0, 0, 0, 0, 0, 0, 0, 0, 8, 0, (-1), 0, (-1), 0, 0, 0, (-1), 0, 0, 0, (-1), (-1), (-1), 0, 0, 2560, 2560, 0, 0, 2560, 1280, 0, 2560, 2560, 1280, 96, 2560, 1280, 0, 0, 0, 0, 0, 0, 0, 0, 0, (-1), 0, 0, 0, 0, 0, 0, 0, 0, (-1), (-1), (-1), (-1), 0, 0, 0, 0, 1, 0, 0, (-1), 0, 0, (-1), 0, 0, 0, 0, 0, 0, 0, 0, 0, 0, 0, 0, 0, 0, 0, 0]
noncomputable def sx_s0 (c : Nat) : Int := Bool.rec (motive := fun _ => Int) (Bool.rec (motive := fun _ => Int) 0 (match rv_nth sx_gi (c - 18432) with
  | some x => x
  | none => (sx_sr c).1) (Nat.blt c 19000)) (match sx_fv rh_2 (c / 128) (c % 128) with
  | some x => x
  | none => (sx_sr c).1) (Nat.blt c 18432)
noncomputable def sx_fokb (fd : sx_Fd) (v : rv_A) : Bool := match fd, v with
  | (0, lo, hi, _), .inl x => sx_p (x.toInt - lo) && sx_p (hi - x.toInt)
  | (1, lo, hi, _), .inl x => sx_p (x.toInt - lo) && sx_p (hi - x.toInt)
  | (2, lo, hi, _), .inr (.inr (.inl x)) => sx_p (x.toInt - lo) && sx_p (hi - x.toInt)
  | (3, _, _, qs), .inr (.inr (.inr (.inr (some q)))) => qs.any (fun y => y.beq q)
  | _, _ => false
theorem sx_fokb_s {fd : sx_Fd} {v : rv_A} (h : sx_fokb fd v = true) : sx_fok fd v := by
  unfold sx_fokb at h
  split at h
  · rw [Bool.and_eq_true] at h
    have h1 := sx_p_t h.1
    have h2 := sx_p_t h.2
    exact ⟨_, rfl, by omega, by omega⟩
  · rw [Bool.and_eq_true] at h
    have h1 := sx_p_t h.1
    have h2 := sx_p_t h.2
    exact ⟨_, rfl, by omega, by omega⟩
  · rw [Bool.and_eq_true] at h
    have h1 := sx_p_t h.1
    have h2 := sx_p_t h.2
    exact ⟨_, rfl, by omega, by omega⟩
  · obtain ⟨y, h1, h2⟩ := List.any_eq_true.mp h
    have h3 := Nat.eq_of_beq_eq_true h2
    subst h3
    exact ⟨_, h1, rfl⟩
  · cases h
noncomputable def sx_eokb (t : Nat) (lo hi : Int) (qs : List Nat) (v : rv_A) : Bool := match t with
  | 0 => sx_fokb (0, lo, hi, qs) v
  | 1 => sx_fokb (2, lo, hi, qs) v
  | 2 => sx_fokb (0, lo, hi, qs) v
  | 3 => sx_fokb (0, lo, hi, qs) v
  | 4 => sx_fokb (3, lo, hi, qs) v
  | 5 => sx_fokb (3, lo, hi, qs) v
  | _ => false
theorem sx_eokb_s {t : Nat} {lo hi : Int} {qs : List Nat} {v : rv_A} (h : sx_eokb t lo hi qs v = true) : sx_eok t lo hi qs v := by
  unfold sx_eokb at h
  split at h
  · exact sx_fokb_s h
  · exact sx_fokb_s h
  · exact sx_fokb_s h
  · exact sx_fokb_s h
  · exact sx_fokb_s h
  · exact sx_fokb_s h
  · cases h
noncomputable def sx_okfs (k : Nat) : List rv_A → Nat → Bool := fun fs => List.rec (motive := fun _ => Nat → Bool) (fun _ => true) (fun v _ ih j => sx_fokb (sx_fld.get (k * 128 + j)) v && ih (j + 1)) fs
theorem sx_okfs_s {k : Nat} : ∀ {fs : List rv_A} {j0 : Nat}, sx_okfs k fs j0 = true → ∀ j v, fs[j]? = some v → sx_fok (sx_fld.get (k * 128 + (j0 + j))) v := by
  intro fs
  induction fs with
  | nil => intro j0 _ j v h; simp at h
  | cons a t ih =>
    intro j0 h j v hj
    replace h : (sx_fokb (sx_fld.get (k * 128 + j0)) a && sx_okfs k t (j0 + 1)) = true := h
    rw [Bool.and_eq_true] at h
    cases j with
    | zero =>
      simp at hj
      subst hj
      exact sx_fokb_s h.1
    | succ j =>
      have := ih h.2 j v (by simpa using hj)
      rw [show j0 + 1 + j = j0 + (j + 1) by omega] at this
      exact this
noncomputable def sx_okb (k : Nat) (c : rv_C) : Bool := match c with
  | .inl (ci, fs) => (sx_cell.get k).1.beq ci && Nat.blt ci 100 && fs.length.beq (sx_nfl.get ci) && Nat.ble fs.length 100 && sx_okfs k fs 0
  | .inr (t, n, d, ups) => (sx_cell.get k).1.beq (100 + t) && (sx_cell.get k).2.2.1.beq n && Nat.ble n 10000 && (sx_eokb t (sx_cell.get k).2.2.2.1 (sx_cell.get k).2.2.2.2.1 (sx_cell.get k).2.2.2.2.2 d || (List.range n).all (fun j => ups.any (fun q => q.1.beq j))) && ups.all (fun q => sx_eokb t (sx_cell.get k).2.2.2.1 (sx_cell.get k).2.2.2.2.1 (sx_cell.get k).2.2.2.2.2 q.2)
theorem sx_el_i {d : rv_A} {j : Nat} : ∀ {ups : List (Nat × rv_A)}, (rv_el d ups j = d ∧ ∀ q ∈ ups, q.1 ≠ j) ∨ ∃ q ∈ ups, rv_el d ups j = q.2 := by
  intro ups
  induction ups with
  | nil => exact Or.inl ⟨rfl, fun q hq => by cases hq⟩
  | cons q t ih =>
    have e : rv_el d (q :: t) j = Bool.rec (motive := fun _ => rv_A) (rv_el d t j) q.2 (q.1.beq j) := rfl
    rw [e]
    cases hb : q.1.beq j with
    | true => exact Or.inr ⟨q, List.mem_cons_self, rfl⟩
    | false =>
      rcases ih with ⟨h1, h2⟩ | ⟨q2, h1, h2⟩
      · refine Or.inl ⟨h1, fun q3 hq3 => ?_⟩
        rcases List.mem_cons.mp hq3 with rfl | hq3
        · intro e2
          rw [e2, Nat.beq_refl] at hb
          cases hb
        · exact h2 q3 hq3
      · exact Or.inr ⟨q2, List.mem_cons_of_mem _ h1, h2⟩
theorem sx_okb_s {k : Nat} {c : rv_C} (h : sx_okb k c = true) : sx_ok k c := by
  rcases c with ⟨ci, fs⟩ | ⟨t, n, d, ups⟩
  · replace h : ((sx_cell.get k).1.beq ci && Nat.blt ci 100 && fs.length.beq (sx_nfl.get ci) && Nat.ble fs.length 100 && sx_okfs k fs 0) = true := h
    simp only [Bool.and_eq_true] at h
    obtain ⟨⟨⟨⟨h1, h2⟩, h3⟩, h4⟩, h5⟩ := h
    refine ⟨Nat.eq_of_beq_eq_true h1, sx_blt h2, Nat.eq_of_beq_eq_true h3, Nat.le_of_ble_eq_true h4, fun j v hj => ?_⟩
    have := sx_okfs_s h5 j v hj
    rw [Nat.zero_add] at this
    exact this
  · replace h : ((sx_cell.get k).1.beq (100 + t) && (sx_cell.get k).2.2.1.beq n && Nat.ble n 10000 && (sx_eokb t (sx_cell.get k).2.2.2.1 (sx_cell.get k).2.2.2.2.1 (sx_cell.get k).2.2.2.2.2 d || (List.range n).all (fun j => ups.any (fun q => q.1.beq j))) && ups.all (fun q => sx_eokb t (sx_cell.get k).2.2.2.1 (sx_cell.get k).2.2.2.2.1 (sx_cell.get k).2.2.2.2.2 q.2)) = true := h
    simp only [Bool.and_eq_true, Bool.or_eq_true] at h
    obtain ⟨⟨⟨⟨h1, h2⟩, h3⟩, h4⟩, h5⟩ := h
    refine ⟨Nat.eq_of_beq_eq_true h1, Nat.eq_of_beq_eq_true h2, Nat.le_of_ble_eq_true h3, fun j hj => ?_⟩
    rcases sx_el_i (d := d) (j := j) (ups := ups) with ⟨e1, e2⟩ | ⟨q, e1, e2⟩
    · rw [e1]
      rcases h4 with h4 | h4
      · exact sx_eokb_s h4
      · obtain ⟨q, hq1, hq2⟩ := List.any_eq_true.mp (List.all_eq_true.mp h4 j (List.mem_range.mpr hj))
        exact absurd (Nat.eq_of_beq_eq_true hq2) (e2 q hq1)
    · rw [e2]
      exact sx_eokb_s (List.all_eq_true.mp h5 q e1)
noncomputable def sx_okl : List rv_C → Nat → Bool := fun l => List.rec (motive := fun _ => Nat → Bool) (fun _ => true) (fun c _ ih k => sx_okb k c && ih (k + 1)) l
theorem sx_okl_s : ∀ {l : List rv_C} {k0 : Nat}, sx_okl l k0 = true → ∀ k c, l[k]? = some c → sx_ok (k0 + k) c := by
  intro l
  induction l with
  | nil => intro k0 _ k c h; simp at h
  | cons a t ih =>
    intro k0 h k c hk
    replace h : (sx_okb k0 a && sx_okl t (k0 + 1)) = true := h
    rw [Bool.and_eq_true] at h
    cases k with
    | zero =>
      simp at hk
      subst hk
      exact sx_okb_s h.1
    | succ k =>
      have := ih h.2 k c (by simpa using hk)
      rw [show k0 + 1 + k = k0 + (k + 1) by omega] at this
      exact this
theorem sx_I0 : sx_I rh_2 := ⟨by decide +kernel, fun k c hk => by
  have := sx_okl_s (l := rh_2) (k0 := 0) (by decide +kernel) k c hk
  rw [Nat.zero_add] at this
  exact this⟩
theorem sx_s0_lo : (List.range 19000).all (fun c => sx_p (sx_s0 c - (sx_sr c).1) && sx_p ((sx_sr c).2 - sx_s0 c)) = true := by decide +kernel
theorem sx_s0_sr (s : Nat) : (sx_sr s).1 ≤ sx_s0 s ∧ sx_s0 s ≤ (sx_sr s).2 := by
  by_cases h : s < 19000
  · have h1 := List.all_eq_true.mp sx_s0_lo s (List.mem_range.mpr h)
    rw [Bool.and_eq_true] at h1
    have h2 := sx_p_t h1.1
    have h3 := sx_p_t h1.2
    omega
  · have e1 : sx_sr s = (-9223372036854775808, 9223372036854775807) := by
      unfold sx_sr
      rw [sx_blt_f (show 19000 ≤ s by omega)]
    have e2 : sx_s0 s = 0 := by
      unfold sx_s0
      rw [sx_blt_f (show 18432 ≤ s by omega), sx_blt_f (show 19000 ≤ s by omega)]
    rw [e1, e2]
    exact ⟨by decide, by decide⟩
theorem sx_ga8 : ∀ p, p < 8 → sx_ga rh_2 111 p = 0 := by decide +kernel
theorem sx_GG0 : sx_GG sx_s0 (sx_ga rh_2) := by
  refine ⟨?_, ?_, ?_, ?_, ?_, ?_, ?_, ?_, ?_, ?_, ?_, ?_, ?_, ?_, ?_, ?_, ?_, ?_, ?_, ?_, ?_, ?_, ?_, ?_, ?_⟩
  · show sx_ga rh_2 135 0 = sx_s0 18432; decide +kernel
  · show sx_ga rh_2 136 0 = sx_s0 18433; decide +kernel
  · exact ⟨by decide +kernel, by decide +kernel, by decide +kernel, by decide +kernel, by decide +kernel⟩
  · exact ⟨Or.inl ⟨by decide +kernel, by decide +kernel⟩, Or.inl ⟨by decide +kernel, by decide +kernel⟩, Or.inl ⟨by decide +kernel, by decide +kernel⟩, Or.inl ⟨by decide +kernel, by decide +kernel⟩, Or.inl ⟨by decide +kernel, by decide +kernel⟩, Or.inl ⟨by decide +kernel, by decide +kernel⟩, Or.inl ⟨by decide +kernel, by decide +kernel⟩⟩
  · exact ⟨Or.inl ⟨by decide +kernel, by decide +kernel⟩, Or.inl ⟨by decide +kernel, by decide +kernel⟩, Or.inl ⟨by decide +kernel, by decide +kernel⟩, Or.inl ⟨by decide +kernel, by decide +kernel⟩, Or.inl ⟨by decide +kernel, by decide +kernel⟩, Or.inl ⟨by decide +kernel, by decide +kernel⟩, Or.inl ⟨by decide +kernel, by decide +kernel⟩⟩
  · intro j hj
    rw [show sx_s0 18453 = 0 from by decide +kernel] at hj
    omega
  · intro j hj
    rw [show sx_s0 18454 = 0 from by decide +kernel] at hj
    omega
  · rw [show sx_s0 18455 = 0 from by decide +kernel, show sx_s0 18456 = 0 from by decide +kernel, show sx_s0 18457 = 8 from by decide +kernel, show sx_s0 18459 = -1 from by decide +kernel]
    exact ⟨fun j hj => (by omega), sx_cnt_0 _, Or.inl rfl, Or.inl (by decide)⟩
  · rw [show sx_s0 18496 = -1 from by decide +kernel]
    intro h
    omega
  · show sx_s0 18492 = (((sx_s0 18490).toNat &&& (sx_s0 18491).toNat : Nat) : Int); decide +kernel
  · show sx_s0 18495 = (((sx_s0 18493).toNat &&& (sx_s0 18494).toNat : Nat) : Int); decide +kernel
  · intro p hp _
    rw [sx_ga8 p hp]
    exact ⟨by decide, fun s a b => (by omega)⟩
  · exact sx_x2_z (by decide +kernel) (by decide +kernel) (by decide +kernel) (by decide +kernel) (by decide +kernel) (by decide +kernel)
  · rw [show sx_s0 18474 = 2560 from by decide +kernel, show sx_s0 18475 = 2560 from by decide +kernel, show sx_s0 18476 = 0 from by decide +kernel, show sx_s0 18477 = 0 from by decide +kernel, show sx_s0 18479 = 1280 from by decide +kernel, show sx_s0 18480 = 0 from by decide +kernel, show sx_s0 18484 = 96 from by decide +kernel]
    exact ⟨Int.le_refl _, sx_ho_0 (Int.le_refl _), rfl, fun e => (by omega), fun e => (by omega), fun q a b => (by omega), fun e => (by omega), fun e => (by omega), fun e => (by omega), fun s a b => (by omega)⟩
  · exact sx_x4_n (by decide +kernel)
  · exact sx_x5_0 (by decide +kernel)
  · exact ⟨by decide +kernel, by decide +kernel, by decide +kernel, by decide +kernel⟩
  · exact ⟨by decide +kernel, by decide +kernel, by decide +kernel, by decide +kernel⟩
  · exact ⟨by decide +kernel, by decide +kernel, by decide +kernel, by decide +kernel⟩
  · show sx_s0 18510 = sx_s0 18509 / 32; decide +kernel
  · rw [show sx_s0 18511 = 0 from by decide +kernel, show sx_s0 18512 = 0 from by decide +kernel, show sx_s0 18513 = 1 from by decide +kernel]
    exact ⟨fun _ => Iff.rfl, fun h => (by omega)⟩
  · rw [show sx_s0 18515 = 0 from by decide +kernel, show sx_s0 18516 = -1 from by decide +kernel]
    exact ⟨fun j hj => (by omega), fun h => (by omega)⟩
  · rw [show sx_s0 18518 = 0 from by decide +kernel, show sx_s0 18519 = -1 from by decide +kernel]
    exact ⟨fun j hj => (by omega), fun h => (by omega)⟩
  · exact ⟨by decide +kernel, by decide +kernel, by decide +kernel, by decide +kernel, by decide +kernel, by decide +kernel, by decide +kernel, by decide +kernel⟩
  · exact ⟨by decide +kernel, by decide +kernel, by decide +kernel, by decide +kernel, by decide +kernel, by decide +kernel, by decide +kernel, by decide +kernel⟩
theorem sx_fv0 {k j : Nat} {x : Int} (h : sx_fv rh_2 k j = some x) : x = sx_s0 (k * 128 + j) := by
  have hl := sx_fv_lt sx_I0 h
  unfold sx_s0
  rw [show Nat.blt (k * 128 + j) 18432 = true from Nat.ble_eq_true_of_le (by show k * 128 + j + 1 ≤ 18432; omega), show (k * 128 + j) / 128 = k by omega, show (k * 128 + j) % 128 = j by omega, h]
/-- both sides' trays are alike: a, b the class's sort and length, s, m the reference's -/
def lw_Rj (a b s m : Int) : Prop := (a = -1 ∧ m = -1) ∨ (0 ≤ a ∧ a = s ∧ b = m ∧ 0 ≤ m)
def lw_RC : List Nat := [133, 12804, 134, 12805, 10250, 12814, 18520, 18528, 18521, 18529, 18522, 18530, 18523, 18531, 18524, 18532, 18525, 18533, 18526, 18534, 18527, 18535]
def lw_R (σ : Nat → Int) : Prop := σ 133 = σ 12804 ∧ σ 134 = σ 12805 ∧ σ 10250 = σ 12814 ∧ (0 < σ 133 → σ 18520 = σ 18528) ∧ (1 < σ 133 → σ 18521 = σ 18529) ∧ (2 < σ 133 → σ 18522 = σ 18530) ∧ (3 < σ 133 → σ 18523 = σ 18531) ∧ (4 < σ 133 → σ 18524 = σ 18532) ∧ (5 < σ 133 → σ 18525 = σ 18533) ∧ (6 < σ 133 → σ 18526 = σ 18534) ∧ (7 < σ 133 → σ 18527 = σ 18535)
theorem lw_R_cg {σ τ : Nat → Int} (h : ∀ c ∈ lw_RC, τ c = σ c) (hR : lw_R σ) : lw_R τ := by
  unfold lw_R at hR ⊢
  rw [h 133 (by decide), h 12804 (by decide), h 134 (by decide), h 12805 (by decide), h 10250 (by decide), h 12814 (by decide), h 18520 (by decide), h 18528 (by decide), h 18521 (by decide), h 18529 (by decide), h 18522 (by decide), h 18530 (by decide), h 18523 (by decide), h 18531 (by decide), h 18524 (by decide), h 18532 (by decide), h 18525 (by decide), h 18533 (by decide), h 18526 (by decide), h 18534 (by decide), h 18527 (by decide), h 18535 (by decide)]
  exact hR
def lw_Js (σ : Nat → Int) (h : List rv_C) : Prop := sx_H 20000 σ [] h ∧ (∀ s, (sx_sr s).1 ≤ σ s ∧ σ s ≤ (sx_sr s).2) ∧ σ 18461 = -1
/-- what stands between two calls of the law -/
def lw_J (h : List rv_C) : Prop := ∃ σ : Nat → Int, lw_Js σ h ∧ lw_R σ
theorem lw_J0 : lw_J rh_2 := by
  refine ⟨sx_s0, ⟨⟨sx_I0, fun q hq => (by cases hq), fun k j x _ hx => ?_, fun s _ => ?_, sx_GG_cg (fun c _ _ => ?_) sx_GG0⟩, sx_s0_sr, by decide +kernel⟩, ⟨(by decide +kernel), (by decide +kernel), (by decide +kernel), (fun h => by decide +kernel), (fun h => by decide +kernel), (fun h => by decide +kernel), (fun h => by decide +kernel), (fun h => by decide +kernel), (fun h => by decide +kernel), (fun h => by decide +kernel), (fun h => by decide +kernel)⟩⟩
  · show x = sx_d sx_s0 (sx_s (k * 128 + j))
    rw [sx_d_s]
    exact sx_fv0 hx
  · show (sx_sr s).1 ≤ sx_d sx_s0 (sx_s s) ∧ sx_d sx_s0 (sx_s s) ≤ (sx_sr s).2
    rw [sx_d_s]
    exact sx_s0_sr s
  · show sx_s0 c = sx_d sx_s0 (sx_s c)
    rw [sx_d_s]
