/-! THE RULES ARE RIGHT -/
noncomputable def sx_wfl (m : Nat) (f : sx_F) : Bool := f.2.all (fun q => Nat.blt q.1 (19002 + m))
noncomputable def sx_wfa (a : sx_Al) : Bool := a.1.all (fun q => sx_p (q.2.1 + 9223372036854775808) && sx_p (9223372036854775807 - q.2.2)) && a.2.1.all (sx_wfl a.1.length) && a.2.2.1.all (fun q => sx_wfl a.1.length q.2) && a.2.2.2.all (sx_wfl a.1.length)
noncomputable def sx_wfr (r : sx_Ru) : Bool := r.1.all (sx_wfl 0) && r.2.all sx_wfa
noncomputable def sx_ral {α : Type} (p : α → Bool) (r : Lean.RArray α) : Bool := match r with
  | .leaf a => p a
  | .branch _ l r => sx_ral p l && sx_ral p r
theorem sx_ral_i {α : Type} {p : α → Bool} (r : Lean.RArray α) (h : sx_ral p r = true) (q : Nat) : p (r.get q) = true := by
  rw [Lean.RArray.get_eq_getImpl]
  induction r with
  | leaf a => exact h
  | branch m l r ih1 ih2 =>
    replace h : (sx_ral p l && sx_ral p r) = true := h
    rw [Bool.and_eq_true] at h
    show p (if q < m then l.getImpl q else r.getImpl q) = true
    by_cases e : q < m
    · rw [if_pos e]; exact ih1 h.1
    · rw [if_neg e]; exact ih2 h.2
theorem sx_rl_wf : sx_ral (fun rs => rs.all sx_wfr) sx_rl = true := by decide +kernel
theorem sx_rs_wf : sx_ral (fun rs => rs.all sx_wfr) sx_rs = true := by decide +kernel
theorem sx_gu_eq (γ θ : Nat → Int) (c : Nat) : ∀ (l : List (Nat × sx_F)), (if (∃ q ∈ l, q.1 = c) then sx_d θ (sx_hg l c) else γ c) = sx_gu γ θ l c := by
  intro l
  induction l with
  | nil =>
    rw [if_neg (fun ⟨q, hq, _⟩ => by cases hq)]
    rfl
  | cons q t ih =>
    have eh : sx_hg (q :: t) c = Bool.rec (motive := fun _ => sx_F) (sx_hg t c) q.2 (q.1.beq c) := rfl
    have eg : sx_gu γ θ (q :: t) c = if c = q.1 then sx_d θ q.2 else sx_gu γ θ t c := rfl
    rw [eg]
    by_cases e : c = q.1
    · rw [if_pos e, if_pos ⟨q, List.mem_cons_self, e.symm⟩, eh, e, Nat.beq_refl]
    · rw [if_neg e, ← ih, eh, show q.1.beq c = false from by
        cases hb : q.1.beq c with
        | false => rfl
        | true => exact absurd (Nat.eq_of_beq_eq_true hb).symm e]
      by_cases e2 : ∃ q2 ∈ t, q2.1 = c
      · obtain ⟨q2, h1, h2⟩ := e2
        rw [if_pos ⟨q2, List.mem_cons_of_mem _ h1, h2⟩, if_pos ⟨q2, h1, h2⟩]
      · rw [if_neg e2, if_neg (fun ⟨q2, h1, h2⟩ => by
          rcases List.mem_cons.mp h1 with rfl | h1
          · exact e h2.symm
          · exact e2 ⟨q2, h1, h2⟩)]
theorem sx_gu_n {γ θ : Nat → Int} {c : Nat} : ∀ {l : List (Nat × sx_F)}, (∀ q ∈ l, q.1 ≠ c) → sx_gu γ θ l c = γ c := by
  intro l
  induction l with
  | nil => intro _; rfl
  | cons q t ih =>
    intro h
    show (if c = q.1 then sx_d θ q.2 else sx_gu γ θ t c) = γ c
    rw [if_neg (fun e => h q List.mem_cons_self e.symm)]
    exact ih (fun q hq => h q (List.mem_cons_of_mem _ hq))
section SXGH
variable {lv n : Nat} {tb : sx_T} {cs : List sx_F} {hp : sx_Hp} {σ : Nat → Int} {h : List rv_C} {i v : sx_F} {k : sx_Kg}
theorem sx_gt_ok {m : Nat} {σ' w : Nat → Int} (hn : 20000 ≤ n) (hb : ∀ q ∈ hp, sx_b n q.2) (hi : sx_b n i) (hv : sx_b n v) (hal : sx_al n σ σ') (hw : ∀ j, j < m → σ' (n + j) = w j) {s : Nat} (hs : s < 19002 + m) : sx_d σ' (sx_gt hp i v n s) = sx_th (fun c => sx_d σ (sx_hg hp c)) (sx_d σ i) (sx_d σ v) w s ∧ sx_b (n + m) (sx_gt hp i v n s) := by
  unfold sx_gt sx_th
  by_cases h1 : s < 19000
  · rw [show Nat.blt s 19000 = true from Nat.ble_eq_true_of_le h1, if_pos h1]
    have hb1 := sx_hg_b (c := s) (show s < n by omega) hb
    exact ⟨(sx_d_al hal hb1).symm, sx_b_m hb1 (Nat.le_add_right _ _)⟩
  · rw [sx_blt_f (show 19000 ≤ s by omega), if_neg h1]
    by_cases h2 : s = 19000
    · rw [h2, if_pos rfl]
      exact ⟨(sx_d_al hal hi).symm, sx_b_m hi (Nat.le_add_right _ _)⟩
    · rw [if_neg h2, show s.beq 19000 = false from by
        cases hb : s.beq 19000 with
        | false => rfl
        | true => exact absurd (Nat.eq_of_beq_eq_true hb) h2]
      by_cases h3 : s = 19001
      · rw [h3, if_pos rfl]
        exact ⟨(sx_d_al hal hv).symm, sx_b_m hv (Nat.le_add_right _ _)⟩
      · rw [if_neg h3, show s.beq 19001 = false from by
          cases hb : s.beq 19001 with
          | false => rfl
          | true => exact absurd (Nat.eq_of_beq_eq_true hb) h3]
        show sx_d σ' (sx_s (n + (s - 19002))) = w (s - 19002) ∧ sx_b (n + m) (sx_s (n + (s - 19002)))
        rw [sx_d_s]
        exact ⟨hw _ (by omega), sx_b_s (by omega)⟩
theorem sx_wfl_i {m : Nat} {f : sx_F} (hf : sx_wfl m f = true) : ∀ q ∈ f.2, q.1 < 19002 + m := fun q hq => sx_blt (List.all_eq_true.mp hf q hq)
theorem sx_alt_ok {a : sx_Al} {h2 : List rv_C} {w : Nat → Int} (hS : sx_St n tb cs hp σ h) (hi : sx_b n i) (hv : sx_b n v) (hwf : sx_wfa a = true) (hwr : ∀ (j : Nat) p, a.1[j]? = some p → p.2.1 ≤ w j ∧ w j ≤ p.2.2) (hf : ∀ f ∈ a.2.1, 0 ≤ sx_d (sx_th (fun c => sx_d σ (sx_hg hp c)) (sx_d σ i) (sx_d σ v) w) f) (hI : sx_I h2) (hfv : ∀ k j, sx_fv h2 k j = sx_fv h k j) (hG : sx_GG (sx_gu (fun c => sx_d σ (sx_hg hp c)) (sx_th (fun c => sx_d σ (sx_hg hp c)) (sx_d σ i) (sx_d σ v) w) a.2.2.1) (sx_ga h2)) (hh : sx_alt lv i v n tb cs hp k a = true) : ∃ g n' tb' cs' hp' σ', k g n' tb' cs' hp' = true ∧ n ≤ n' ∧ sx_al n σ σ' ∧ sx_St n' tb' cs' hp' σ' h2 ∧ sx_b n' g ∧ (∀ e, a.2.2.2.head? = some e → sx_d σ' g = sx_d (sx_th (fun c => sx_d σ (sx_hg hp c)) (sx_d σ i) (sx_d σ v) w) e) ∧ (a.2.2.2.head? = none → sx_d σ' g = sx_d σ v) := by
  unfold sx_alt at hh
  unfold sx_wfa at hwf
  simp only [Bool.and_eq_true] at hwf
  obtain ⟨⟨⟨w1, w2⟩, w3⟩, w4⟩ := hwf
  obtain ⟨tb', σ', k1, hS1, hal, hval⟩ := sx_frs_ok w (fun j q hj => by
    have := hwr j q hj
    have hw := List.all_eq_true.mp w1 q (List.mem_of_getElem? hj)
    rw [Bool.and_eq_true] at hw
    have a1 := sx_p_t hw.1
    have a2 := sx_p_t hw.2
    exact ⟨this.1, this.2, by omega, by omega⟩) hS.2.1 (sx_wide_ok hS.1) hh
  have hn2 : n ≤ n + a.1.length := Nat.le_add_right _ _
  have hgt : ∀ s, s < 19002 + a.1.length → _ := fun s hs => sx_gt_ok (i := i) (v := v) hS.1 hS.2.2.2.1 hi hv hal hval hs
  have hform : ∀ f, sx_wfl a.1.length f = true → (∀ q ∈ f.2, sx_b (n + a.1.length) (sx_gt hp i v n q.1)) ∧ sx_d (fun s => sx_d σ' (sx_gt hp i v n s)) f = sx_d (sx_th (fun c => sx_d σ (sx_hg hp c)) (sx_d σ i) (sx_d σ v) w) f := fun f hf => ⟨fun q hq => (hgt q.1 (sx_wfl_i hf q hq)).2, sx_d_cg (fun q hq => (hgt q.1 (sx_wfl_i hf q hq)).1)⟩
  obtain ⟨tb2, cs2, k2, hS2⟩ := sx_asl_ok k1 hS1 (fun f hf1 => by
    have hw := hform f (List.all_eq_true.mp w2 f hf1)
    exact ⟨hw.1, by rw [hw.2]; exact hf f hf1⟩)
  rw [Bool.and_eq_true] at k2
  obtain ⟨k2, k3⟩ := k2
  obtain ⟨hp', k4, hb4, hc4⟩ := sx_mds_ok (n := n + a.1.length) (σ := σ') k3 (fun q hq => (hform q.2 (List.all_eq_true.mp w3 q hq)).1) (fun q hq => sx_b_m (hS.2.2.2.1 q hq) hn2)
  have hup : ∀ q ∈ a.2.2.1, 18432 ≤ q.1 ∧ q.1 < 19000 ∧ (sx_sr q.1).1 ≤ sx_d (sx_th (fun c => sx_d σ (sx_hg hp c)) (sx_d σ i) (sx_d σ v) w) q.2 ∧ sx_d (sx_th (fun c => sx_d σ (sx_hg hp c)) (sx_d σ i) (sx_d σ v) w) q.2 ≤ (sx_sr q.1).2 := fun q hq => by
    have h1 := List.all_eq_true.mp k2 q hq
    rw [Bool.and_eq_true, Bool.and_eq_true] at h1
    obtain ⟨g, g1, g2, -⟩ := sx_sb_ok (β := Bool) (sx_gt hp i v n) q.2
    have h2 := h1.2
    rw [g1] at h2
    have h3 := sx_in_ok hS2 h2
    rw [g2, (hform q.2 (List.all_eq_true.mp w3 q hq)).2] at h3
    exact ⟨Nat.le_of_ble_eq_true h1.1.1, sx_blt h1.1.2, h3⟩
  have hval2 : ∀ c, c < 19000 → sx_d σ' (sx_hg hp' c) = sx_gu (fun c => sx_d σ (sx_hg hp c)) (sx_th (fun c => sx_d σ (sx_hg hp c)) (sx_d σ i) (sx_d σ v) w) a.2.2.1 c := by
    intro c hc
    rw [hc4, ← sx_gu_eq]
    by_cases e : ∃ q ∈ a.2.2.1, q.1 = c
    · rw [if_pos e, if_pos e]
      refine sx_d_cg (fun q hq => (hgt q.1 ?_).1)
      have : ∀ (l : List (Nat × sx_F)), (∀ q ∈ l, sx_wfl a.1.length q.2 = true) → (∃ q ∈ l, q.1 = c) → sx_wfl a.1.length (sx_hg l c) = true := by
        intro l
        induction l with
        | nil => intro _ ⟨q, hq, _⟩; cases hq
        | cons q t ih =>
          intro hl ⟨q2, hq2, hq3⟩
          have eh : sx_hg (q :: t) c = Bool.rec (motive := fun _ => sx_F) (sx_hg t c) q.2 (q.1.beq c) := rfl
          rw [eh]
          cases hb : q.1.beq c with
          | true => exact hl q List.mem_cons_self
          | false =>
            rcases List.mem_cons.mp hq2 with rfl | hq2
            · rw [hq3, Nat.beq_refl] at hb; cases hb
            · exact ih (fun q hq => hl q (List.mem_cons_of_mem _ hq)) ⟨q2, hq2, hq3⟩
      exact sx_wfl_i (this _ (List.all_eq_true.mp w3) e) q hq
    · rw [if_neg e, if_neg e]
      exact (sx_d_al hal (sx_hg_b (show c < n by have := hS.1; omega) hS.2.2.2.1)).symm
  have hSt : sx_St (n + a.1.length) tb2 cs2 hp' σ' h2 := by
    obtain ⟨i0, -, i1, i2, i3, i4, i5⟩ := hS
    refine ⟨by omega, hS2, hI, hb4, fun kk j x ht hx => ?_, fun s hs => ?_, sx_GG_cg (fun c h1 h2 => (hval2 c h2).symm) hG⟩
    · rw [hfv] at hx
      have hl := sx_fv_lt i1 hx
      rw [hval2 _ (by omega), sx_gu_n (fun q hq => by have := (hup q hq).1; omega)]
      exact i3 kk j x ht hx
    · rw [hval2 s hs, ← sx_gu_eq]
      by_cases e : ∃ q ∈ a.2.2.1, q.1 = s
      · rw [if_pos e]
        have : ∀ (l : List (Nat × sx_F)), (∀ q ∈ l, q ∈ a.2.2.1) → (∃ q ∈ l, q.1 = s) → ∃ q ∈ a.2.2.1, q.1 = s ∧ sx_hg l s = q.2 := by
          intro l
          induction l with
          | nil => intro _ ⟨q, hq, _⟩; cases hq
          | cons q t ih =>
            intro hl ⟨q2, hq2, hq3⟩
            have eh : sx_hg (q :: t) s = Bool.rec (motive := fun _ => sx_F) (sx_hg t s) q.2 (q.1.beq s) := rfl
            rw [eh]
            cases hb : q.1.beq s with
            | true => exact ⟨q, hl q List.mem_cons_self, Nat.eq_of_beq_eq_true hb, rfl⟩
            | false =>
              rcases List.mem_cons.mp hq2 with rfl | hq2
              · rw [hq3, Nat.beq_refl] at hb; cases hb
              · exact ih (fun q hq => hl q (List.mem_cons_of_mem _ hq)) ⟨q2, hq2, hq3⟩
        obtain ⟨q, h1, h2, h3⟩ := this _ (fun q hq => hq) e
        rw [h3, ← h2]
        exact (hup q h1).2.2
      · rw [if_neg e]
        exact i4 s hs
  cases hm : a.2.2.2 with
  | nil =>
    rw [hm] at k4
    exact ⟨v, _, tb2, cs2, hp', σ', k4, hn2, hal, hSt, sx_b_m hv hn2, fun e he => (by cases he), fun _ => (sx_d_al hal hv).symm⟩
  | cons e t =>
    rw [hm] at k4 w4
    replace k4 : sx_sb (sx_gt hp i v n) e (fun g => k g (n + a.1.length) tb2 cs2 hp') = true := k4
    obtain ⟨g, g1, g2, g3⟩ := sx_sb_ok (β := Bool) (sx_gt hp i v n) e
    rw [g1] at k4
    have hw := hform e (List.all_eq_true.mp w4 e List.mem_cons_self)
    refine ⟨g, _, tb2, cs2, hp', σ', k4, hn2, hal, hSt, g3 _ hw.1, fun e2 he => ?_, fun he => (by cases he)⟩
    cases he
    rw [g2, hw.2]
theorem sx_run_ok {dflt : Bool} (hS : sx_St n tb cs hp σ h) (hi : sx_b n i) (hv : sx_b n v) : ∀ {rs : List sx_Ru}, rs.all sx_wfr = true → sx_run lv i v n tb cs hp k dflt rs = true → dflt = true ∨ ∃ r ∈ rs, (∀ f ∈ r.1, 0 ≤ sx_d (sx_th (fun c => sx_d σ (sx_hg hp c)) (sx_d σ i) (sx_d σ v) (fun _ => 0)) f) ∧ sx_wfr r = true ∧ ∀ a ∈ r.2, sx_alt lv i v n tb cs hp k a = true := by
  intro rs
  induction rs with
  | nil => intro _ hh; exact Or.inl hh
  | cons r t ih =>
    intro hwf hh
    rw [List.all_cons, Bool.and_eq_true] at hwf
    replace hh : Bool.rec (motive := fun _ => Bool) (sx_run lv i v n tb cs hp k dflt t) (r.2.all (fun a => sx_alt lv i v n tb cs hp k a)) (r.1.all (fun f => sx_sb (sx_gt hp i v n) f (fun g => sx_ge lv sx_sr tb cs g))) = true := hh
    cases hb : r.1.all (fun f => sx_sb (sx_gt hp i v n) f (fun g => sx_ge lv sx_sr tb cs g)) with
    | false =>
      rw [hb] at hh
      rcases ih hwf.2 hh with h1 | ⟨r2, h1, h2⟩
      · exact Or.inl h1
      · exact Or.inr ⟨r2, List.mem_cons_of_mem _ h1, h2⟩
    | true =>
      rw [hb] at hh
      refine Or.inr ⟨r, List.mem_cons_self, fun f hf => ?_, hwf.1, List.all_eq_true.mp hh⟩
      have h1 := List.all_eq_true.mp hb f hf
      obtain ⟨g, g1, g2, -⟩ := sx_sb_ok (β := Bool) (sx_gt hp i v n) f
      rw [g1] at h1
      have h2 := sx_ge_ok hS.2.1 h1
      have hw := hwf.1
      unfold sx_wfr at hw
      rw [Bool.and_eq_true] at hw
      rw [g2, sx_d_cg (fun q hq => (sx_gt_ok (m := 0) (σ' := σ) (w := fun _ => 0) hS.1 hS.2.2.2.1 hi hv sx_al_r (fun j hj => absurd hj (Nat.not_lt_zero j)) (sx_wfl_i (List.all_eq_true.mp hw.1 f hf) q hq)).1)] at h2
      exact h2
theorem sx_wfr_a {r : sx_Ru} (hr : sx_wfr r = true) {a : sx_Al} (ha : a ∈ r.2) : sx_wfa a = true := by
  unfold sx_wfr at hr
  rw [Bool.and_eq_true] at hr
  exact List.all_eq_true.mp hr.2 a ha
theorem sx_gld_ok {q j : Nat} {y : Int} (hS : sx_St n tb cs hp σ h) (hi : sx_b n i) (hv : sx_b n v) (hq : q < 143) (hj : j < (sx_cell.get q).2.2.1) (hy1 : (sx_cell.get q).2.2.2.1 ≤ y) (hy2 : y ≤ (sx_cell.get q).2.2.2.2.1) (ei : sx_d σ i = (j : Int)) (ev : sx_d σ v = y) (hA : sx_ga h q j = y) (hh : sx_gld lv q i v n tb cs hp k = true) : ∃ g n' tb' cs' hp' σ', k g n' tb' cs' hp' = true ∧ n ≤ n' ∧ sx_al n σ σ' ∧ sx_St n' tb' cs' hp' σ' h ∧ sx_b n' g ∧ sx_d σ' g = y := by
  rcases sx_run_ok hS hi hv (sx_ral_i sx_rl sx_rl_wf q) hh with h1 | ⟨r, h1, h2, h3, h4⟩
  · exact ⟨v, n, tb, cs, hp, σ, h1, Nat.le_refl n, sx_al_r, hS, hv, ev⟩
  · obtain ⟨a, ha, w, w1, w2, w3, w4⟩ := sx_rl_ok q hq r h1 _ _ j y hS.2.2.2.2.2.2 hS.2.2.2.2.2.1 hj hy1 hy2 (fun _ => hA) (by rw [ei, ev] at h2; exact h2)
    rw [← ei, ← ev] at w2 w4
    obtain ⟨g, n', tb', cs', hp', σ', e1, e2, e3, e4, e5, e6, e7⟩ := sx_alt_ok hS hi hv (sx_wfr_a h3 ha) w1 w2 hS.2.2.1 (fun _ _ => rfl) w4 (h4 a ha)
    refine ⟨g, n', tb', cs', hp', σ', e1, e2, e3, e4, e5, ?_⟩
    cases hm : a.2.2.2.head? with
    | none => rw [e7 hm, ev]
    | some e => rw [e6 e hm, ei, ev, w3 e hm]
theorem sx_gst_ok {q j : Nat} {y : Int} {k : Nat → sx_T → List sx_F → sx_Hp → Bool} {h2 : List rv_C} (hS : sx_St n tb cs hp σ h) (hi : sx_b n i) (hv : sx_b n v) (hq : q < 143) (hj : j < (sx_cell.get q).2.2.1) (hy1 : (sx_cell.get q).2.2.2.1 ≤ y) (hy2 : y ≤ (sx_cell.get q).2.2.2.2.1) (ei : sx_d σ i = (j : Int)) (ev : sx_d σ v = y) (hI : sx_I h2) (hfv : ∀ k j, sx_fv h2 k j = sx_fv h k j) (hA : sx_ga h2 = sx_au (sx_ga h) q j y) (hh : sx_gst lv q i v n tb cs hp k = true) : ∃ n' tb' cs' hp' σ', k n' tb' cs' hp' = true ∧ n ≤ n' ∧ sx_al n σ σ' ∧ sx_St n' tb' cs' hp' σ' h2 := by
  unfold sx_gst at hh
  cases hb : sx_gfr q with
  | true =>
    rw [hb] at hh
    obtain ⟨i0, i0', i1, i2, i3, i4, i5⟩ := hS
    exact ⟨n, tb, cs, hp, σ, hh, Nat.le_refl n, sx_al_r, i0, i0', hI, i2, fun kk j x ht hx => i3 kk j x ht (by rw [← hfv]; exact hx), i4, sx_GG_fr hb (fun q2 hne => by rw [hA, sx_au_ne hne]) i5⟩
  | false =>
    rw [hb] at hh
    rcases sx_run_ok hS hi hv (sx_ral_i sx_rs sx_rs_wf q) hh with h1 | ⟨r, h1, h2, h3, h4⟩
    · cases h1
    · obtain ⟨a, ha, w, w1, w2, w3, w4⟩ := sx_rs_ok q hq r h1 _ _ j y hS.2.2.2.2.2.2 hS.2.2.2.2.2.1 hj hy1 hy2 (fun e => (by cases e)) (by rw [ei, ev] at h2; exact h2)
      rw [← ei, ← ev] at w2 w4
      rw [if_pos rfl, ev, ← hA, ← ev] at w4
      obtain ⟨g, n', tb', cs', hp', σ', e1, e2, e3, e4, e5, e6, e7⟩ := sx_alt_ok hS hi hv (sx_wfr_a h3 ha) w1 w2 hI hfv w4 (h4 a ha)
      exact ⟨n', tb', cs', hp', σ', e1, e2, e3, e4⟩
theorem sx_rn_wf : sx_ran.all sx_wfr = true := by decide +kernel
theorem sx_anh_ok {X Y : sx_F} {x y : Int32} {dflt : Bool} (hS : sx_St n tb cs hp σ h) (hX : sx_b n X) (hY : sx_b n Y) (ex : x.toInt = sx_d σ X) (ey : y.toInt = sx_d σ Y) (hh : sx_anh lv X Y n tb cs hp k dflt = true) : dflt = true ∨ ∃ g n' tb' cs' hp' σ', k g n' tb' cs' hp' = true ∧ n ≤ n' ∧ sx_al n σ σ' ∧ sx_St n' tb' cs' hp' σ' h ∧ sx_b n' g ∧ sx_d σ' g = (x &&& y).toInt := by
  unfold sx_anh at hh
  obtain ⟨Z, z1, z2, z3⟩ := sx_ad_ok (β := Bool) (-1) (-1, []) Y
  rw [z1] at hh
  cases hc : (Nat.ble 30 lv && sx_in lv tb cs 0 255 X && sx_in lv tb cs 0 255 Z) with
  | false => rw [hc] at hh; exact Or.inl hh
  | true =>
    rw [hc] at hh
    rw [Bool.and_eq_true, Bool.and_eq_true] at hc
    have hx := sx_in2 hS.2.1 hc.1.2
    have hz := sx_in2 hS.2.1 hc.2
    have hbZ : sx_b n Z := z3 n (fun q hq => by cases hq) hY
    have d1 : sx_d σ ((-1, []) : sx_F) = -1 := by simp [sx_d, sx_dl]
    have ez : sx_d σ Z = -1 - y.toInt := by rw [z2, d1, ey]; omega
    have hand : (x &&& y).toInt = sx_d σ X - (((sx_d σ X).toNat &&& (sx_d σ Z).toNat : Nat) : Int) := by
      have h1 := sx_anx (sx_d σ X).toNat (by omega) (sx_d σ Z).toNat (by omega)
      rw [show (((sx_d σ X).toNat : Nat) : Int) = x.toInt by omega, show -1 - (((sx_d σ Z).toNat : Nat) : Int) = y.toInt by omega, Int32.ofInt_toInt, Int32.ofInt_toInt] at h1
      rw [h1, ex]
    rcases sx_run_ok hS hX hbZ sx_rn_wf hh with h1 | ⟨r, h1, h2, h3, h4⟩
    · exact Or.inl h1
    · obtain ⟨a, ha, w, w1, w2, ⟨e, w3, w4⟩, w5⟩ := sx_rn_ok r h1 _ _ _ _ hS.2.2.2.2.2.2 hS.2.2.2.2.2.1 hx.1 hx.2 hz.1 hz.2 h2
      obtain ⟨g, n', tb', cs', hp', σ', e1, e2, e3, e4, e5, e6, e7⟩ := sx_alt_ok hS hX hbZ (sx_wfr_a h3 ha) w1 w2 hS.2.2.1 (fun _ _ => rfl) w5 (h4 a ha)
      obtain ⟨r2, r3, r4, r5⟩ := sx_ad_ok (β := Bool) (-1) X g
      rw [r3] at e1
      refine Or.inr ⟨r2, n', tb', cs', hp', σ', e1, e2, e3, e4, r5 _ (sx_b_m hX e2) e5, ?_⟩
      rw [r4, e6 e w3, w4, ← sx_d_al e3 hX, hand]
      omega
theorem sx_rmo_wf : sx_rmo.all sx_wfr = true := by decide +kernel
theorem sx_rdi_wf : sx_rdi.all sx_wfr = true := by decide +kernel
theorem sx_isc_i {c : Int} {Y : sx_F} {σ : Nat → Int} (h : sx_isc c Y = true) : sx_d σ Y = c := by
  unfold sx_isc at h
  split at h
  · rename_i d
    have h1 := sx_zz h
    show d + 0 = c
    omega
  · cases h
theorem sx_anq_ok {c : Int} {rs : List sx_Ru} {f : Int → Int} (hrs : ∀ r ∈ rs, sx_okq f sx_GG r) (hwf : rs.all sx_wfr = true) {X Y : sx_F} {dflt : Bool} (hS : sx_St n tb cs hp σ h) (hX : sx_b n X) (hx1 : sx_d σ X ≤ 9223372036854775807) (hh : sx_anq lv c rs X Y n tb cs hp k dflt = true) : dflt = true ∨ (0 ≤ sx_d σ X ∧ sx_d σ Y = c ∧ ∃ g n' tb' cs' hp' σ', k g n' tb' cs' hp' = true ∧ n ≤ n' ∧ sx_al n σ σ' ∧ sx_St n' tb' cs' hp' σ' h ∧ sx_b n' g ∧ sx_d σ' g = f (sx_d σ X)) := by
  unfold sx_anq at hh
  cases hc : (Nat.ble 40 lv && sx_isc c Y && sx_ge lv sx_sr tb cs X) with
  | false => rw [hc] at hh; exact Or.inl hh
  | true =>
    rw [hc] at hh
    rw [Bool.and_eq_true, Bool.and_eq_true] at hc
    have hx := sx_ge_ok hS.2.1 hc.2
    have hy : sx_d σ Y = c := sx_isc_i hc.1.2
    have h0 : sx_b n ((0, []) : sx_F) := fun q hq => by cases hq
    rcases sx_run_ok hS hX h0 hwf hh with h1 | ⟨r, h1, h2, h3, h4⟩
    · exact Or.inl h1
    · rw [sx_d0] at h2
      obtain ⟨a, ha, w, w1, w2, ⟨e, w3, w4⟩, w5⟩ := hrs r h1 _ _ _ hS.2.2.2.2.2.2 hS.2.2.2.2.2.1 hx hx1 h2
      rw [← sx_d0 σ] at w2 w5
      obtain ⟨g, n', tb', cs', hp', σ', e1, e2, e3, e4, e5, e6, e7⟩ := sx_alt_ok hS hX h0 (sx_wfr_a h3 ha) w1 w2 hS.2.2.1 (fun _ _ => rfl) w5 (h4 a ha)
      refine Or.inr ⟨hx, hy, g, n', tb', cs', hp', σ', e1, e2, e3, e4, e5, ?_⟩
      rw [e6 e w3, sx_d0]
      exact w4
end SXGH
