/-! WHAT THE WALK SPEAKS OF -/
def sx_fok (fd : sx_Fd) (v : rv_A) : Prop := match fd with
  | (0, lo, hi, _) => ∃ x : Int32, v = .inl x ∧ lo ≤ x.toInt ∧ x.toInt ≤ hi
  | (1, lo, hi, _) => ∃ x : Int32, v = .inl x ∧ lo ≤ x.toInt ∧ x.toInt ≤ hi
  | (2, lo, hi, _) => ∃ x : Int64, v = rv_lng x ∧ lo ≤ x.toInt ∧ x.toInt ≤ hi
  | (_, _, _, qs) => ∃ q ∈ qs, v = rv_ref q
def sx_eok (t : Nat) (lo hi : Int) (qs : List Nat) (v : rv_A) : Prop := match t with
  | 1 => ∃ x : Int64, v = rv_lng x ∧ lo ≤ x.toInt ∧ x.toInt ≤ hi
  | 4 => ∃ q ∈ qs, v = rv_ref q
  | 5 => ∃ q ∈ qs, v = rv_ref q
  | _ => ∃ x : Int32, v = .inl x ∧ lo ≤ x.toInt ∧ x.toInt ≤ hi
def sx_ok (k : Nat) (c : rv_C) : Prop := match c with
  | .inl (ci, fs) => (sx_cell.get k).1 = ci ∧ ci < 100 ∧ fs.length = sx_nfl.get ci ∧ fs.length ≤ 100 ∧ ∀ j v, fs[j]? = some v → sx_fok (sx_fld.get (k * 128 + j)) v
  | .inr (t, n, d, ups) => (sx_cell.get k).1 = 100 + t ∧ (sx_cell.get k).2.2.1 = n ∧ n ≤ 10000 ∧ ∀ j, j < n → sx_eok t (sx_cell.get k).2.2.2.1 (sx_cell.get k).2.2.2.2.1 (sx_cell.get k).2.2.2.2.2 (rv_el d ups j)
/-- THE HEAP AT EVERY MOMENT -/
def sx_I (h : List rv_C) : Prop := h.length = 143 ∧ ∀ k c, h[k]? = some c → sx_ok k c
def sx_num (v : rv_A) : Option Int := match v with
  | .inl x => some x.toInt
  | .inr (.inr (.inl x)) => some x.toInt
  | _ => none
def sx_fv (h : List rv_C) (k j : Nat) : Option Int := match h[k]? with
  | some (.inl (_, fs)) => match fs[j]? with
    | some v => sx_num v
    | none => none
  | _ => none
/-- what stands at a place of an array, as a number; of a reference its cell -/
def sx_nua (v : rv_A) : Option Int := match v with
  | .inl x => some x.toInt
  | .inr (.inr (.inl x)) => some x.toInt
  | .inr (.inr (.inr (.inr (some q)))) => some (q : Int)
  | _ => none
noncomputable def sx_ga (h : List rv_C) (q j : Nat) : Int := match h[q]? with
  | some (.inr (_, _, d, ups)) => (sx_nua (rv_el d ups j)).getD 0
  | _ => 0
def sx_H (n : Nat) (σ : Nat → Int) (hp : sx_Hp) (h : List rv_C) : Prop := sx_I h ∧ (∀ q ∈ hp, sx_b n q.2) ∧ (∀ k j x, (sx_cell.get k).2.1 = true → sx_fv h k j = some x → x = sx_d σ (sx_hg hp (k * 128 + j))) ∧ (∀ s, s < 19000 → (sx_sr s).1 ≤ sx_d σ (sx_hg hp s) ∧ sx_d σ (sx_hg hp s) ≤ (sx_sr s).2) ∧ sx_GG (fun c => sx_d σ (sx_hg hp c)) (sx_ga h)
def sx_St (n : Nat) (tb : sx_T) (cs : List sx_F) (hp : sx_Hp) (σ : Nat → Int) (h : List rv_C) : Prop := 20000 ≤ n ∧ sx_S sx_sr n tb cs σ ∧ sx_H n σ hp h
def sx_vm (n : Nat) (σ : Nat → Int) (v : sx_V) (a : rv_A) : Prop := match v with
  | .inl f => sx_b n f ∧ ∃ x : Int32, a = .inl x ∧ x.toInt = sx_d σ f
  | .inr (.inl f) => sx_b n f ∧ ∃ x : Int64, a = rv_lng x ∧ x.toInt = sx_d σ f
  | .inr (.inr (.inl f)) => sx_b n f ∧ ∃ x : Int32, a = .inl x ∧ ((x = 1 ∧ 0 < sx_d σ f) ∨ (x = 0 ∧ sx_d σ f = 0) ∨ (x = -1 ∧ sx_d σ f < 0))
  | .inr (.inr (.inr ks)) => ∃ k ∈ ks, a = rv_ref k
def sx_vs (n : Nat) (σ : Nat → Int) : List sx_V → List rv_A → Prop
  | [], [] => True
  | v :: t, a :: s => sx_vm n σ v a ∧ sx_vs n σ t s
  | _, _ => False
def sx_lm (n : Nat) (σ : Nat → Int) (ls : sx_Ls) (lc : rv_L) : Prop := ∀ q ∈ ls, ∃ a, rv_lget lc q.1 = some a ∧ sx_vm n σ q.2 a
def sx_om (n : Nat) (σ : Nat → Int) (v : Option sx_V) (o : Option rv_A) : Prop := match v, o with
  | none, none => True
  | some v, some a => sx_vm n σ v a
  | _, _ => False
section SXC
variable {n m : Nat} {σ τ : Nat → Int}
theorem sx_vs_c {v : sx_V} {t : List sx_V} {sc : List rv_A} (h : sx_vs n σ (v :: t) sc) : ∃ a s, sc = a :: s ∧ sx_vm n σ v a ∧ sx_vs n σ t s := by
  cases sc with
  | nil => cases h
  | cons a s => exact ⟨a, s, rfl, h.1, h.2⟩
theorem sx_vs_n {sc : List rv_A} (h : sx_vs n σ [] sc) : sc = [] := by
  cases sc with
  | nil => rfl
  | cons a s => cases h
theorem sx_vm_m (hm : n ≤ m) (ha : sx_al n σ τ) {v : sx_V} {a : rv_A} (h : sx_vm n σ v a) : sx_vm m τ v a := by
  rcases v with f | f | f | ks
  · obtain ⟨h1, x, h2, h3⟩ := h
    exact ⟨sx_b_m h1 hm, x, h2, by rw [h3]; exact sx_d_al ha h1⟩
  · obtain ⟨h1, x, h2, h3⟩ := h
    exact ⟨sx_b_m h1 hm, x, h2, by rw [h3]; exact sx_d_al ha h1⟩
  · obtain ⟨h1, x, h2, h3⟩ := h
    refine ⟨sx_b_m h1 hm, x, h2, ?_⟩
    rw [← sx_d_al ha h1]
    exact h3
  · exact h
theorem sx_vs_m (hm : n ≤ m) (ha : sx_al n σ τ) : ∀ {t : List sx_V} {s : List rv_A}, sx_vs n σ t s → sx_vs m τ t s := by
  intro t
  induction t with
  | nil => intro s h; rw [sx_vs_n h]; exact True.intro
  | cons v t ih =>
    intro s h
    obtain ⟨a, s, rfl, h1, h2⟩ := sx_vs_c h
    exact ⟨sx_vm_m hm ha h1, ih h2⟩
theorem sx_lm_m (hm : n ≤ m) (ha : sx_al n σ τ) {ls : sx_Ls} {lc : rv_L} (h : sx_lm n σ ls lc) : sx_lm m τ ls lc := fun q hq => by
  obtain ⟨a, h1, h2⟩ := h q hq
  exact ⟨a, h1, sx_vm_m hm ha h2⟩
theorem sx_hg_b {hp : sx_Hp} {c : Nat} (hc : c < n) : (∀ q ∈ hp, sx_b n q.2) → sx_b n (sx_hg hp c) := by
  induction hp with
  | nil => intro _; exact sx_b_s hc
  | cons q t ih =>
    intro h
    have e : sx_hg (q :: t) c = Bool.rec (motive := fun _ => sx_F) (sx_hg t c) q.2 (q.1.beq c) := rfl
    rw [e]
    cases q.1.beq c with
    | false => exact ih (fun q hq => h q (List.mem_cons_of_mem _ hq))
    | true => exact h q List.mem_cons_self
theorem sx_fv_lt {h : List rv_C} (hI : sx_I h) {k j : Nat} {x : Int} (hx : sx_fv h k j = some x) : k < 143 ∧ j < 100 := by
  unfold sx_fv at hx
  split at hx
  · rename_i ci fs hc
    have hk := (List.getElem?_eq_some_iff.mp hc).1
    have ho := hI.2 _ _ hc
    split at hx
    · rename_i v hv
      have hj := (List.getElem?_eq_some_iff.mp hv).1
      have := ho.2.2.2.1
      rw [hI.1] at hk
      exact ⟨hk, by omega⟩
    · cases hx
  · cases hx
theorem sx_H_m (hn : 20000 ≤ n) (hm : n ≤ m) (ha : sx_al n σ τ) {hp : sx_Hp} {h : List rv_C} (hH : sx_H n σ hp h) : sx_H m τ hp h := by
  obtain ⟨h1, h2, h3, h5, h4⟩ := hH
  refine ⟨h1, fun q hq => sx_b_m (h2 q hq) hm, fun k j x ht hx => ?_, fun s hs => ?_, ?_⟩
  · have hl := sx_fv_lt h1 hx
    rw [← sx_d_al ha (sx_hg_b (by omega) h2)]
    exact h3 k j x ht hx
  · rw [← sx_d_al ha (sx_hg_b (by omega) h2)]
    exact h5 s hs
  · exact sx_GG_cg (fun c h1 h2 => sx_d_al ha (sx_hg_b (by omega) ‹∀ q ∈ hp, sx_b n q.2›)) h4
theorem sx_I_at {h : List rv_C} (hI : sx_I h) {k : Nat} (hk : k < 143) : ∃ c, rv_hget h k = some c ∧ h[k]? = some c ∧ sx_ok k c := by
  have hl : k < h.length := by rw [hI.1]; exact hk
  refine ⟨h[k], ?_, List.getElem?_eq_getElem hl, hI.2 _ _ (List.getElem?_eq_getElem hl)⟩
  unfold rv_hget
  rw [if_pos (by omega)]
  exact List.getElem?_eq_getElem hl
-- locals
theorem sx_lg_i {ls : sx_Ls} {i : Nat} {v : sx_V} (h : sx_lg ls i = some v) : (i, v) ∈ ls := by
  induction ls with
  | nil => cases h
  | cons q t ih =>
    have e : sx_lg (q :: t) i = Bool.rec (motive := fun _ => Option sx_V) (sx_lg t i) (some q.2) (q.1.beq i) := rfl
    rw [e] at h
    cases hb : q.1.beq i with
    | false => rw [hb] at h; exact List.mem_cons_of_mem _ (ih h)
    | true =>
      rw [hb] at h
      cases h
      rw [← Nat.eq_of_beq_eq_true hb]
      exact List.mem_cons_self
theorem sx_lget_f {f : Nat × rv_A → Bool} {j : Nat} {a : rv_A} (hf : f (j, a) = true) : ∀ {lc : rv_L}, rv_lget lc j = some a → rv_lget (lc.filter f) j = some a := by
  intro lc
  induction lc with
  | nil => intro h; cases h
  | cons q t ih =>
    intro h
    have e : rv_lget (q :: t) j = Bool.rec (motive := fun _ => Option rv_A) (rv_lget t j) (some q.2) (q.1.beq j) := rfl
    rw [e] at h
    cases hb : q.1.beq j with
    | false =>
      rw [hb] at h
      have ih := ih h
      cases hq : f q with
      | false => rw [List.filter_cons_of_neg (by simp [hq])]; exact ih
      | true =>
        rw [List.filter_cons_of_pos hq]
        show Bool.rec (motive := fun _ => Option rv_A) (rv_lget (t.filter f) j) (some q.2) (q.1.beq j) = some a
        rw [hb]
        exact ih
    | true =>
      rw [hb] at h
      cases h
      have hq : q = (j, q.2) := by rw [← Nat.eq_of_beq_eq_true hb]
      rw [List.filter_cons_of_pos (by rw [hq]; exact hf)]
      show Bool.rec (motive := fun _ => Option rv_A) (rv_lget (t.filter f) j) (some q.2) (q.1.beq j) = some q.2
      rw [hb]
theorem sx_isL_v {v : sx_V} {a : rv_A} (h : sx_vm n σ v a) : rv_isL a = sx_isL v := by
  rcases v with f | f | f | ks
  · obtain ⟨-, x, rfl, -⟩ := h; rfl
  · obtain ⟨-, x, rfl, -⟩ := h; rfl
  · obtain ⟨-, x, rfl, -⟩ := h; rfl
  · obtain ⟨k, -, rfl⟩ := h; rfl
theorem sx_beq (a b : Nat) : (a == b) = a.beq b := by
  cases hb : a.beq b with
  | true => rw [Nat.eq_of_beq_eq_true hb]; simp
  | false =>
    have : a ≠ b := fun e => by
      rw [e, Nat.beq_refl] at hb
      cases hb
    simp [this]
theorem sx_lm_1 {ls : sx_Ls} {lc : rv_L} {i : Nat} {v : sx_V} {a : rv_A} (h : sx_lm n σ ls lc) (hv : sx_vm n σ v a) : sx_lm n σ ((i, v) :: ls.filter (sx_k1 i)) ((i, a) :: lc.filter (rv_keep1 i)) := by
  intro q hq
  rcases List.mem_cons.mp hq with rfl | hq
  · refine ⟨a, ?_, hv⟩
    show Bool.rec (motive := fun _ => Option rv_A) (rv_lget (lc.filter (rv_keep1 i)) i) (some a) (i.beq i) = some a
    rw [Nat.beq_refl]
  · obtain ⟨h1, h2⟩ := List.mem_filter.mp hq
    obtain ⟨a1, h3, h4⟩ := h q h1
    refine ⟨a1, ?_, h4⟩
    have hne : i.beq q.1 = false := by
      cases hb : i.beq q.1 with
      | false => rfl
      | true =>
        unfold sx_k1 at h2
        rw [Nat.eq_of_beq_eq_true hb, Nat.beq_refl] at h2
        cases h2
    show Bool.rec (motive := fun _ => Option rv_A) (rv_lget (lc.filter (rv_keep1 i)) q.1) (some a) (i.beq q.1) = some a1
    rw [hne]
    refine sx_lget_f ?_ h3
    unfold rv_keep1
    rw [sx_isL_v h4]
    simp only [sx_beq]
    exact h2
theorem sx_lm_2 {ls : sx_Ls} {lc : rv_L} {i : Nat} {v : sx_V} {a : rv_A} (h : sx_lm n σ ls lc) (hv : sx_vm n σ v a) : sx_lm n σ ((i, v) :: ls.filter (sx_k2 i)) ((i, a) :: lc.filter (rv_keep2 i)) := by
  intro q hq
  rcases List.mem_cons.mp hq with rfl | hq
  · refine ⟨a, ?_, hv⟩
    show Bool.rec (motive := fun _ => Option rv_A) (rv_lget (lc.filter (rv_keep2 i)) i) (some a) (i.beq i) = some a
    rw [Nat.beq_refl]
  · obtain ⟨h1, h2⟩ := List.mem_filter.mp hq
    obtain ⟨a1, h3, h4⟩ := h q h1
    refine ⟨a1, ?_, h4⟩
    have hne : i.beq q.1 = false := by
      cases hb : i.beq q.1 with
      | false => rfl
      | true =>
        unfold sx_k2 at h2
        rw [Nat.eq_of_beq_eq_true hb, Nat.beq_refl] at h2
        cases h2
    show Bool.rec (motive := fun _ => Option rv_A) (rv_lget (lc.filter (rv_keep2 i)) q.1) (some a) (i.beq q.1) = some a1
    rw [hne]
    refine sx_lget_f ?_ h3
    unfold rv_keep2
    rw [sx_isL_v h4]
    simp only [sx_beq]
    exact h2
theorem sx_wd_v : ∀ {t : List sx_V} {s : List rv_A}, sx_vs n σ t s → rv_wd s = sx_wd t := by
  intro t
  induction t with
  | nil => intro s h; rw [sx_vs_n h]; rfl
  | cons v t ih =>
    intro s h
    obtain ⟨a, s, rfl, h1, h2⟩ := sx_vs_c h
    show rv_cat a + rv_wd s = (if sx_isL v then 2 else 1) + sx_wd t
    rw [ih h2]
    unfold rv_cat
    rw [sx_isL_v h1]
-- the fields that are followed
theorem sx_hs_eq {c : Nat} {f : sx_F} : ∀ (hp : sx_Hp), ∃ hp', (∀ {β : Type} (k : sx_Hp → β), sx_hs hp c f k = k hp') ∧ (∀ c2, sx_hg hp' c2 = if c2 = c then f else sx_hg hp c2) ∧ ∀ n, sx_b n f → (∀ q ∈ hp, sx_b n q.2) → ∀ q ∈ hp', sx_b n q.2 := by
  intro hp
  induction hp with
  | nil =>
    refine ⟨[(c, f)], fun _ => rfl, fun c2 => ?_, fun n hf _ q hq => ?_⟩
    · show Bool.rec (motive := fun _ => sx_F) (sx_hg [] c2) f (c.beq c2) = _
      by_cases e : c2 = c
      · rw [if_pos e, e, Nat.beq_refl]
      · rw [if_neg e, show c.beq c2 = false from by
          cases hb : c.beq c2 with
          | false => rfl
          | true => exact absurd (Nat.eq_of_beq_eq_true hb).symm e]
    · rcases List.mem_cons.mp hq with rfl | hq
      · exact hf
      · cases hq
  | cons q t ih =>
    obtain ⟨t', h1, h2, h3⟩ := ih
    cases hb : q.1.beq c with
    | false =>
      refine ⟨q :: t', fun k => ?_, fun c2 => ?_, fun n hf hq q2 hq2 => ?_⟩
      · show Bool.rec (motive := fun _ => _) (sx_hs t c f (fun t' => k (q :: t'))) (k ((c, f) :: t)) (q.1.beq c) = _
        rw [hb]
        exact h1 _
      · show Bool.rec (motive := fun _ => sx_F) (sx_hg t' c2) q.2 (q.1.beq c2) = if c2 = c then f else Bool.rec (motive := fun _ => sx_F) (sx_hg t c2) q.2 (q.1.beq c2)
        cases hb2 : q.1.beq c2 with
        | false => exact h2 c2
        | true =>
          have : c2 ≠ c := fun e => by
            rw [← e, hb2] at hb
            cases hb
          rw [if_neg this]
      · rcases List.mem_cons.mp hq2 with rfl | hq2
        · exact hq _ List.mem_cons_self
        · exact h3 n hf (fun q hq1 => hq q (List.mem_cons_of_mem _ hq1)) q2 hq2
    | true =>
      have hqc := Nat.eq_of_beq_eq_true hb
      refine ⟨(c, f) :: t, fun k => ?_, fun c2 => ?_, fun n hf hq q2 hq2 => ?_⟩
      · show Bool.rec (motive := fun _ => _) (sx_hs t c f (fun t' => k (q :: t'))) (k ((c, f) :: t)) (q.1.beq c) = _
        rw [hb]
      · show Bool.rec (motive := fun _ => sx_F) (sx_hg t c2) f (c.beq c2) = if c2 = c then f else Bool.rec (motive := fun _ => sx_F) (sx_hg t c2) q.2 (q.1.beq c2)
        rw [hqc]
        cases hb2 : c.beq c2 with
        | false =>
          have : c2 ≠ c := fun e => by
            rw [e, Nat.beq_refl] at hb2
            cases hb2
          rw [if_neg this]
        | true => rw [if_pos (Nat.eq_of_beq_eq_true hb2).symm]
      · rcases List.mem_cons.mp hq2 with rfl | hq2
        · exact hf
        · exact hq q2 (List.mem_cons_of_mem _ hq2)
end SXC
