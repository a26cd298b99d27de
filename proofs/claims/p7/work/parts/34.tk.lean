/-! A METHOD'S WALK gives its contract -/
section SXT
variable {n : Nat} {tb : sx_T} {cs : List sx_F} {hp : sx_Hp} {σ : Nat → Int} {h : List rv_C}
theorem sx_eq0_ok {lv : Nat} {f g : sx_F} (hS : sx_S sx_sr n tb cs σ) (hh : sx_eq0 lv tb cs f g = true) : sx_d σ f = sx_d σ g := by
  unfold sx_eq0 at hh
  obtain ⟨r, r1, r2, -⟩ := sx_ad_ok (β := Bool) (-1) f g
  rw [r1, Bool.or_eq_true, Bool.and_eq_true, Bool.and_eq_true] at hh
  have h2 := r2 σ
  rcases hh with ⟨h3, h4⟩ | ⟨h3, h4⟩
  · have h5 := sx_z_t h3
    have h6 : r.2 = [] := by
      unfold sx_nil at h4
      split at h4
      · assumption
      · cases h4
    have h7 : sx_d σ r = 0 := by
      unfold sx_d
      rw [h5, h6]
      rfl
    omega
  · have h5 := sx_ge_ok hS h3
    obtain ⟨q, q1, q2, -⟩ := sx_ad_ok (β := Bool) (-1) (0, []) r
    rw [q1] at h4
    have h6 := sx_ge_ok hS h4
    rw [q2, sx_d0] at h6
    omega
theorem sx_ta_lo {b : Nat} {fl : List sx_F} {s : Nat} (h : s < 20000) : sx_ta b fl s = sx_s s := by
  unfold sx_ta
  rw [show Nat.blt s 20000 = true from Nat.ble_eq_true_of_le h]
  rfl
theorem sx_ta_hi {b : Nat} {fl : List sx_F} {i : Nat} {f : sx_F} (hb : 20000 ≤ b) (hf : fl[i]? = some f) : sx_ta b fl (b + i) = f := by
  unfold sx_ta
  rw [sx_blt_f (show 20000 ≤ b + i by omega), show Nat.ble b (b + i) = true from Nat.ble_eq_true_of_le (Nat.le_add_right _ _), rv_nth_eq, show b + i - b = i by omega, hf]
theorem sx_ta_c {b : Nat} {fl : List sx_F} (s : Nat) : (s < 20000 ∧ sx_ta b fl s = sx_s s) ∨ (20000 ≤ s ∧ (sx_ta b fl s = (0, []) ∨ sx_ta b fl s ∈ fl)) := by
  by_cases h : s < 20000
  · exact Or.inl ⟨h, sx_ta_lo h⟩
  · refine Or.inr ⟨by omega, ?_⟩
    unfold sx_ta
    rw [sx_blt_f (show 20000 ≤ s by omega)]
    cases Nat.ble b s with
    | false => exact Or.inl rfl
    | true =>
      rw [rv_nth_eq]
      cases hf : fl[s - b]? with
      | none => exact Or.inl rfl
      | some f => exact Or.inr (List.mem_of_getElem? hf)
theorem sx_ta_b {b : Nat} {fl : List sx_F} (hn : 20000 ≤ n) (hf : ∀ f ∈ fl, sx_b n f) (s : Nat) : sx_b n (sx_ta b fl s) := by
  rcases sx_ta_c (b := b) (fl := fl) s with ⟨h1, h2⟩ | ⟨h1, h2 | h2⟩
  · rw [h2]; exact sx_b_s (by omega)
  · rw [h2]; exact fun q hq => by cases hq
  · exact hf _ h2
theorem sx_fl_eq {β : Type} {ls : sx_Ls} : ∀ (ss : List (Nat × Int × Int)) (k : List sx_F → β), sx_fl ls hp ss k = k (ss.map (fun q => sx_at ls hp q.1)) := by
  intro ss
  induction ss with
  | nil => intro k; rfl
  | cons q t ih =>
    intro k
    show sx_fl ls hp t (fun t => k (sx_at ls hp q.1 :: t)) = _
    rw [ih]
    rfl
theorem sx_rfl_eq {β : Type} {rv : Option sx_V} : ∀ (ss : List (Nat × Int × Int)) (k : List sx_F → β), sx_rfl rv hp ss k = k (ss.map (fun q => sx_ra rv hp q.1)) := by
  intro ss
  induction ss with
  | nil => intro k; rfl
  | cons q t ih =>
    intro k
    show sx_rfl rv hp t (fun t => k (sx_ra rv hp q.1 :: t)) = _
    rw [ih]
    rfl
theorem sx_inl2_ok {lv : Nat} (hS : sx_S sx_sr n tb cs σ) : ∀ {ss : List (Nat × Int × Int)} {fl : List sx_F}, sx_inl2 lv tb cs ss fl = true → (∀ (i : Nat) q f, ss[i]? = some q → fl[i]? = some f → q.2.1 ≤ sx_d σ f ∧ sx_d σ f ≤ q.2.2) ∧ ∀ f ∈ fl, -9223372036854775808 ≤ sx_d σ f ∧ sx_d σ f ≤ 9223372036854775807 := by
  intro ss
  induction ss with
  | nil =>
    intro fl hh
    cases fl with
    | nil => exact ⟨fun i q f hi _ => (by simp at hi), fun f hf => (by cases hf)⟩
    | cons f r => unfold sx_inl2 at hh; cases hh
  | cons q t ih =>
    intro fl hh
    cases fl with
    | nil => unfold sx_inl2 at hh; cases hh
    | cons f r =>
      replace hh : (sx_in lv tb cs q.2.1 q.2.2 f && sx_p (q.2.1 + 9223372036854775808) && sx_p (9223372036854775807 - q.2.2) && sx_inl2 lv tb cs t r) = true := by unfold sx_inl2 at hh; exact hh
      simp only [Bool.and_eq_true] at hh
      obtain ⟨⟨⟨h1, h2⟩, h3⟩, h4⟩ := hh
      have h1 := sx_in_ok hS h1
      have h2 := sx_p_t h2
      have h3 := sx_p_t h3
      obtain ⟨i1, i2⟩ := ih h4
      refine ⟨fun i q2 f2 hi hf => ?_, fun f2 hf => ?_⟩
      · cases i with
        | zero => simp at hi hf; subst hi; subst hf; exact h1
        | succ i => exact i1 i q2 f2 (by simpa using hi) (by simpa using hf)
      · rcases List.mem_cons.mp hf with rfl | hf
        · exact ⟨by omega, by omega⟩
        · exact i2 f2 hf
theorem sx_eqh_ok {lv : Nat} {θ : Nat → sx_F} {hq : sx_Hp} (hS : sx_S sx_sr n tb cs σ) (hθ : ∀ s, s < 20000 → sx_d σ (θ s) = σ s) (hh : sx_eqh lv tb cs θ hp hq = true) : ∀ c, c < 20000 → sx_d σ (sx_hg hp c) = sx_d (fun s => sx_d σ (θ s)) (sx_hg hq c) := by
  unfold sx_eqh at hh
  rw [Bool.and_eq_true] at hh
  have key : ∀ q : Nat × sx_F, sx_sb θ (sx_hg hq q.1) (fun g => sx_eq0 lv tb cs (sx_hg hp q.1) g) = true → sx_d σ (sx_hg hp q.1) = sx_d (fun s => sx_d σ (θ s)) (sx_hg hq q.1) := by
    intro q hk
    obtain ⟨g, g1, g2, -⟩ := sx_sb_ok (β := Bool) θ (sx_hg hq q.1)
    rw [g1] at hk
    rw [sx_eq0_ok hS hk, g2]
  intro c hc
  by_cases h1 : ∃ q ∈ hp, q.1 = c
  · obtain ⟨q, hq1, rfl⟩ := h1
    exact key q (List.all_eq_true.mp hh.1 q hq1)
  · by_cases h2 : ∃ q ∈ hq, q.1 = c
    · obtain ⟨q, hq1, rfl⟩ := h2
      exact key q (List.all_eq_true.mp hh.2 q hq1)
    · rw [sx_hg_k h1, sx_hg_k h2]
      show sx_d σ (sx_s c) = sx_d _ (sx_s c)
      rw [sx_d_s, sx_d_s, hθ c hc]
theorem sx_at_b {ls : sx_Ls} {lc : rv_L} (hS : sx_St n tb cs hp σ h) (hl : sx_lm n σ ls lc) (src : Nat) : sx_b n (sx_at ls hp src) := by
  have h0 : sx_b n ((0, []) : sx_F) := fun q hq => by cases hq
  unfold sx_at
  cases Nat.ble 50000 src with
  | false =>
    cases hb : Nat.blt src 19000 with
    | false => exact h0
    | true => exact sx_hg_b (by have := hS.1; have := sx_blt hb; omega) hS.2.2.2.1
  | true =>
    cases hv : sx_lg ls (src - 50000) with
    | none => exact h0
    | some v =>
      obtain ⟨a, -, hv2⟩ := hl _ (sx_lg_i hv)
      rcases v with f | f | f | ks
      · exact hv2.1
      · exact hv2.1
      · exact h0
      · exact h0
theorem sx_ra_b {rv : Option sx_V} {o : Option rv_A} (hS : sx_St n tb cs hp σ h) (ho : sx_om n σ rv o) (src : Nat) : sx_b n (sx_ra rv hp src) := by
  have h0 : sx_b n ((0, []) : sx_F) := fun q hq => by cases hq
  unfold sx_ra
  cases src.beq 99999 with
  | false =>
    cases hb : Nat.blt src 19000 with
    | false => exact h0
    | true => exact sx_hg_b (by have := hS.1; have := sx_blt hb; omega) hS.2.2.2.1
  | true =>
    cases rv with
    | none => exact h0
    | some v =>
      cases o with
      | none => cases ho
      | some a =>
        rcases v with f | f | f | ks
        · exact ho.1
        · exact ho.1
        · exact h0
        · exact h0
theorem sx_bb_i {m : Nat} {f : sx_F} (h : sx_bb m f = true) : sx_b m f := fun q hq => sx_blt (List.all_eq_true.mp h q hq)
theorem sx_tt_i : ∀ {ss : List (Nat × Int × Int)} {i : Nat} {q : Nat × Int × Int}, q ∈ sx_tt i ss → ∃ j p, ss[j]? = some p ∧ q = (i + j, p.2.1, p.2.2) := by
  intro ss
  induction ss with
  | nil => intro i q hq; unfold sx_tt at hq; cases hq
  | cons p t ih =>
    intro i q hq
    unfold sx_tt at hq
    rcases List.mem_cons.mp hq with rfl | hq
    · exact ⟨0, p, rfl, rfl⟩
    · obtain ⟨j, p2, h1, h2⟩ := ih hq
      exact ⟨j + 1, p2, by simpa using h1, by rw [h2, show i + 1 + j = i + (j + 1) by omega]⟩
theorem sx_arv_ok {lv : Nat} {M : Option sx_F} {ls : sx_Ls} {lc : rv_L} {t : sx_Tm} (hS : sx_St n tb cs hp σ h) (hl : sx_lm n σ ls lc) (hw : sx_wft t = true) (hh : sx_arv lv M ls tb cs hp t = true) : ∃ τ, sx_al 20000 σ τ ∧ sx_St (20000 + t.2.2.1.length) (sx_tt 20000 t.2.2.1 ++ t.2.2.2.1) t.2.2.2.2.1 t.2.2.2.2.2.2.1 τ h ∧ sx_lm (20000 + t.2.2.1.length) τ t.2.2.2.2.2.1 lc ∧ 0 ≤ sx_d τ t.2.2.2.2.2.2.2 ∧ ∀ m, M = some m → sx_d τ t.2.2.2.2.2.2.2 + 1 ≤ sx_d σ m := by
  unfold sx_arv at hh
  rw [Bool.and_eq_true] at hh
  replace hh := hh.2
  rw [sx_fl_eq] at hh
  have hfb : ∀ f ∈ t.2.2.1.map (fun q => sx_at ls hp q.1), sx_b n f := fun f hf => by
    obtain ⟨q, -, rfl⟩ := List.mem_map.mp hf
    exact sx_at_b hS hl _
  have hfi : ∀ (i : Nat) q, t.2.2.1[i]? = some q → (t.2.2.1.map (fun q => sx_at ls hp q.1))[i]? = some (sx_at ls hp q.1) := fun i q hi => by
    rw [List.getElem?_map, hi]
    rfl
  generalize t.2.2.1.map (fun q => sx_at ls hp q.1) = fl at hh hfb hfi
  simp only [Bool.and_eq_true] at hh
  obtain ⟨⟨⟨⟨⟨h1, h2⟩, h3⟩, h4⟩, h5⟩, h6⟩ := hh
  obtain ⟨i1, i2⟩ := sx_inl2_ok hS.2.1 h1
  unfold sx_wft at hw
  simp only [Bool.and_eq_true] at hw
  obtain ⟨⟨⟨w1, w2⟩, w3⟩, w4⟩ := hw
  have hlo : ∀ s, s < 20000 → sx_d σ (sx_ta 20000 fl s) = σ s := fun s hs => by rw [sx_ta_lo hs, sx_d_s]
  have heq := sx_eqh_ok hS.2.1 hlo h5
  have hsb : ∀ f, ∃ g, (∀ k : sx_F → Bool, sx_sb (sx_ta 20000 fl) f k = k g) ∧ sx_d σ g = sx_d (fun s => sx_d σ (sx_ta 20000 fl s)) f := fun f => by
    obtain ⟨g, g1, g2, -⟩ := sx_sb_ok (β := Bool) (sx_ta 20000 fl) f
    exact ⟨g, g1, g2 σ⟩
  have hSt : sx_St (20000 + t.2.2.1.length) (sx_tt 20000 t.2.2.1 ++ t.2.2.2.1) t.2.2.2.2.1 t.2.2.2.2.2.2.1 (fun s => sx_d σ (sx_ta 20000 fl s)) h := by
    refine ⟨Nat.le_add_right _ _, ⟨fun s => ?_, fun q hq => ?_, fun f hf => ?_⟩, ?_⟩
    · rcases sx_ta_c (b := 20000) (fl := fl) s with ⟨a1, a2⟩ | ⟨a1, a2 | a2⟩
      · show (sx_sr s).1 ≤ sx_d σ (sx_ta 20000 fl s) ∧ sx_d σ (sx_ta 20000 fl s) ≤ (sx_sr s).2
        rw [a2, sx_d_s]
        exact hS.2.1.1 s
      · have hsr : sx_sr s = (-9223372036854775808, 9223372036854775807) := by
          unfold sx_sr
          rw [sx_blt_f (show 19000 ≤ s by omega)]
        show (sx_sr s).1 ≤ sx_d σ (sx_ta 20000 fl s) ∧ sx_d σ (sx_ta 20000 fl s) ≤ (sx_sr s).2
        rw [a2, hsr, sx_d0]
        exact ⟨by decide, by decide⟩
      · have hsr : sx_sr s = (-9223372036854775808, 9223372036854775807) := by
          unfold sx_sr
          rw [sx_blt_f (show 19000 ≤ s by omega)]
        show (sx_sr s).1 ≤ sx_d σ (sx_ta 20000 fl s) ∧ sx_d σ (sx_ta 20000 fl s) ≤ (sx_sr s).2
        rw [hsr]
        exact i2 _ a2
    · rcases List.mem_append.mp hq with hq | hq
      · obtain ⟨j, p, hp1, rfl⟩ := sx_tt_i hq
        have hj := (List.getElem?_eq_some_iff.mp hp1).1
        refine ⟨by show 20000 + j < _; omega, ?_⟩
        show p.2.1 ≤ sx_d σ (sx_ta 20000 fl (20000 + j)) ∧ sx_d σ (sx_ta 20000 fl (20000 + j)) ≤ p.2.2
        rw [sx_ta_hi (Nat.le_refl _) (hfi j p hp1)]
        exact i1 j p _ hp1 (hfi j p hp1)
      · have hb := List.all_eq_true.mp h2 q hq
        rw [Bool.and_eq_true] at hb
        have hb1 := sx_blt hb.1
        have hb2 := sx_in_ok hS.2.1 hb.2
        refine ⟨by omega, ?_⟩
        show q.2.1 ≤ sx_d σ (sx_ta 20000 fl q.1) ∧ sx_d σ (sx_ta 20000 fl q.1) ≤ q.2.2
        rw [sx_ta_lo hb1]
        exact hb2
    · refine ⟨sx_bb_i (List.all_eq_true.mp w1 f hf), ?_⟩
      have hg := List.all_eq_true.mp h3 f hf
      obtain ⟨g, g1, g2⟩ := hsb f
      rw [g1] at hg
      have := sx_ge_ok hS.2.1 hg
      rw [g2] at this
      exact this
    · obtain ⟨k1, k2, k3, k4, k5⟩ := hS.2.2
      refine ⟨k1, fun q hq => ?_, fun kk j x ht hx => ?_, fun s hs => ?_, sx_GG_cg (fun c h1 h2 => heq c (by omega)) k5⟩
      · have := List.all_eq_true.mp w3 q hq
        rw [Bool.and_eq_true] at this
        exact sx_bb_i this.2
      · have hl2 := sx_fv_lt k1 hx
        rw [← heq _ (by omega)]
        exact k3 kk j x ht hx
      · rw [← heq _ (by omega)]
        exact k4 s hs
  refine ⟨fun s => sx_d σ (sx_ta 20000 fl s), fun s hs => (hlo s hs).symm, hSt, fun q hq => ?_, ?_⟩
  · have hk := List.all_eq_true.mp h4 q hq
    have hbv := List.all_eq_true.mp w2 q hq
    unfold sx_eql at hk
    split at hk
    · rename_i f g hv hq2
      obtain ⟨a, ha1, ha2⟩ := hl _ (sx_lg_i hv)
      obtain ⟨hb, x, rfl, hx⟩ := ha2
      obtain ⟨g', g1, g2⟩ := hsb g
      rw [g1] at hk
      rw [hq2] at hbv ⊢
      exact ⟨_, ha1, sx_bb_i hbv, x, rfl, by rw [hx, sx_eq0_ok hS.2.1 hk, g2]⟩
    · rename_i f g hv hq2
      obtain ⟨a, ha1, ha2⟩ := hl _ (sx_lg_i hv)
      obtain ⟨hb, x, rfl, hx⟩ := ha2
      obtain ⟨g', g1, g2⟩ := hsb g
      rw [g1] at hk
      rw [hq2] at hbv ⊢
      exact ⟨_, ha1, sx_bb_i hbv, x, rfl, by rw [hx, sx_eq0_ok hS.2.1 hk, g2]⟩
    · rename_i ks qs hv hq2
      obtain ⟨a, ha1, ha2⟩ := hl _ (sx_lg_i hv)
      obtain ⟨k0, hk0, rfl⟩ := ha2
      rw [hq2]
      exact ⟨_, ha1, k0, sx_sub_i hk hk0, rfl⟩
    · cases hk
  · obtain ⟨g, g1, g2⟩ := hsb t.2.2.2.2.2.2.2
    rw [g1, Bool.and_eq_true, Bool.or_eq_true] at h6
    have h7 : 0 ≤ sx_d (fun s => sx_d σ (sx_ta 20000 fl s)) t.2.2.2.2.2.2.2 := by
      rcases h6.1 with h6 | h6
      · exact sx_ge_ok (cs := []) ⟨hSt.2.1.1, hSt.2.1.2.1, fun f hf => (by cases hf)⟩ h6
      · have h7 := sx_ge_ok hS.2.1 h6
        rw [g2] at h7
        exact h7
    refine ⟨h7, fun m hm => ?_⟩
    subst hm
    have h8 := h6.2
    replace h8 : sx_ad (-1) m g (fun r => sx_ad 1 (-1, []) r (fun r => sx_ge lv sx_sr tb cs r)) = true := h8
    obtain ⟨r, r1, r2, -⟩ := sx_ad_ok (β := Bool) (-1) m g
    rw [r1] at h8
    obtain ⟨r3, q1, q2, -⟩ := sx_ad_ok (β := Bool) 1 (-1, []) r
    rw [q1] at h8
    have h9 := sx_ge_ok hS.2.1 h8
    have d1 : sx_d σ ((-1, []) : sx_F) = -1 := by simp [sx_d, sx_dl]
    rw [q2, d1, r2, g2] at h9
    omega
theorem sx_frk_ok {pc : Nat} {ls : sx_Ls} {lc : rv_L} {k : sx_Ls → sx_T → List sx_F → Bool} (hS : sx_S sx_sr n tb cs σ) (hl : sx_lm n σ ls lc) : ∀ {fk : List (Nat × Nat)}, sx_frk fk pc ls tb cs k = true → ∃ ls' tb' cs', k ls' tb' cs' = true ∧ sx_S sx_sr n tb' cs' σ ∧ sx_lm n σ ls' lc := by
  intro fk
  induction fk with
  | nil => intro hh; exact ⟨ls, tb, cs, hh, hS, hl⟩
  | cons q t ih =>
    intro hh
    replace hh : Bool.rec (motive := fun _ => Bool) (sx_frk t pc ls tb cs k) (match sx_lg ls q.2 with
      | some (.inl (c, t0 :: ts)) => sx_fI (sx_lo sx_sr tb (c, t0 :: ts)) (fun lo => rv_fN (sx_hi sx_sr tb (c, t0 :: ts) - lo + 1).toNat (fun m => Nat.ble m 600 && sx_spv tb cs (c, t0 :: ts) (fun v tb' cs' => k ((q.2, sx_vi (v, [])) :: ls) tb' cs') m lo))
      | _ => sx_frk t pc ls tb cs k) (q.1.beq pc) = true := hh
    cases hb : q.1.beq pc with
    | false => rw [hb] at hh; exact ih hh
    | true =>
      rw [hb] at hh
      replace hh : (match sx_lg ls q.2 with
        | some (.inl (c, t0 :: ts)) => sx_fI (sx_lo sx_sr tb (c, t0 :: ts)) (fun lo => rv_fN (sx_hi sx_sr tb (c, t0 :: ts) - lo + 1).toNat (fun m => Nat.ble m 600 && sx_spv tb cs (c, t0 :: ts) (fun v tb' cs' => k ((q.2, sx_vi (v, [])) :: ls) tb' cs') m lo))
        | _ => sx_frk t pc ls tb cs k) = true := hh
      split at hh
      · rename_i c t0 ts hv
        rw [sx_fI_eq, rv_fN_eq, Bool.and_eq_true] at hh
        obtain ⟨a, ha1, ha2⟩ := hl _ (sx_lg_i hv)
        obtain ⟨hbf, x, rfl, hx⟩ := ha2
        have hr := sx_lo_ok hS (c, t0 :: ts)
        obtain ⟨tb', cs', hk, hS'⟩ := sx_spv_ok hS hbf hh.2 hr.1 (by omega)
        refine ⟨_, tb', cs', hk, hS', fun q2 hq2 => ?_⟩
        rcases List.mem_cons.mp hq2 with rfl | hq2
        · exact ⟨_, ha1, fun q hq => (by cases hq), x, rfl, by rw [hx]; simp [sx_d, sx_dl]⟩
        · exact hl q2 hq2
      · exact ih hh
theorem sx_mv_wf : sx_mv.all sx_wfr = true := by decide +kernel
theorem sx_mvr_i {i : Nat} {r : sx_Ru} (hr : r ∈ sx_mvr i) : r ∈ sx_mv := by
  unfold sx_mvr at hr
  rw [rv_nth_eq] at hr
  cases hi : sx_mv[i]? with
  | none => rw [hi] at hr; cases hr
  | some r2 =>
    rw [hi] at hr
    rcases List.mem_cons.mp hr with rfl | hr
    · exact List.mem_of_getElem? hi
    · cases hr
theorem sx_trn_ok {lv pc : Nat} {ls : sx_Ls} {lc : rv_L} {k : Nat → sx_T → List sx_F → sx_Hp → Bool} : ∀ {fk : List (Nat × Nat)} {n : Nat} {tb : sx_T} {cs : List sx_F} {hp : sx_Hp} {σ : Nat → Int}, sx_St n tb cs hp σ h → sx_lm n σ ls lc → sx_trn lv fk pc ls n tb cs hp k = true → ∃ n' tb' cs' hp' σ', k n' tb' cs' hp' = true ∧ n ≤ n' ∧ sx_al n σ σ' ∧ sx_St n' tb' cs' hp' σ' h := by
  intro fk
  induction fk with
  | nil => intro n tb cs hp σ hS hl hh; exact ⟨n, tb, cs, hp, σ, hh, Nat.le_refl n, sx_al_r, hS⟩
  | cons q t ih =>
    intro n tb cs hp σ hS hl hh
    replace hh : Bool.rec (motive := fun _ => Bool) (sx_trn lv t pc ls n tb cs hp k) (match sx_lg ls ((q.2 - 1000) % 100) with
      | some (.inl x) => sx_run lv x (0, []) n tb cs hp (fun _ n' tb' cs' hp' => sx_trn lv t pc ls n' tb' cs' hp' k) (sx_trn lv t pc ls n tb cs hp k) (sx_mvr ((q.2 - 1000) / 100))
      | some (.inr (.inl x)) => sx_run lv x (0, []) n tb cs hp (fun _ n' tb' cs' hp' => sx_trn lv t pc ls n' tb' cs' hp' k) (sx_trn lv t pc ls n tb cs hp k) (sx_mvr ((q.2 - 1000) / 100))
      | _ => sx_trn lv t pc ls n tb cs hp k) (q.1.beq pc && Nat.ble 1000 q.2) = true := hh
    cases hb : (q.1.beq pc && Nat.ble 1000 q.2) with
    | false => rw [hb] at hh; exact ih hS hl hh
    | true =>
      rw [hb] at hh
      replace hh : (match sx_lg ls ((q.2 - 1000) % 100) with
        | some (.inl x) => sx_run lv x (0, []) n tb cs hp (fun _ n' tb' cs' hp' => sx_trn lv t pc ls n' tb' cs' hp' k) (sx_trn lv t pc ls n tb cs hp k) (sx_mvr ((q.2 - 1000) / 100))
        | some (.inr (.inl x)) => sx_run lv x (0, []) n tb cs hp (fun _ n' tb' cs' hp' => sx_trn lv t pc ls n' tb' cs' hp' k) (sx_trn lv t pc ls n tb cs hp k) (sx_mvr ((q.2 - 1000) / 100))
        | _ => sx_trn lv t pc ls n tb cs hp k) = true := hh
      split at hh
      · rename_i x hx
        obtain ⟨a, -, ha⟩ := hl _ (sx_lg_i hx)
        have hbx : sx_b n x := ha.1
        have h0 : sx_b n ((0, []) : sx_F) := fun q hq => by cases hq
        rcases sx_run_ok hS hbx h0 (List.all_eq_true.mpr (fun r hr => List.all_eq_true.mp sx_mv_wf r (sx_mvr_i hr))) hh with h1 | ⟨r, h1, h2, h3, h4⟩
        · exact ih hS hl h1
        · rw [sx_d0] at h2
          obtain ⟨a, ha, w, w1, w2, w4⟩ := sx_mv_ok r (sx_mvr_i h1) _ _ _ hS.2.2.2.2.2.2 hS.2.2.2.2.2.1 h2
          rw [← sx_d0 σ] at w2 w4
          obtain ⟨g, n', tb', cs', hp', σ', e1, e2, e3, e4, -⟩ := sx_alt_ok hS hbx h0 (sx_wfr_a h3 ha) w1 w2 hS.2.2.1 (fun _ _ => rfl) w4 (h4 a ha)
          obtain ⟨n2, tb2, cs2, hp2, σ2, f1, f2, f3, f4⟩ := ih e4 (sx_lm_m e2 e3 hl) e1
          exact ⟨n2, tb2, cs2, hp2, σ2, f1, Nat.le_trans e2 f2, sx_al_t e3 f3 e2, f4⟩
      · rename_i x hx
        obtain ⟨a, -, ha⟩ := hl _ (sx_lg_i hx)
        have hbx : sx_b n x := ha.1
        have h0 : sx_b n ((0, []) : sx_F) := fun q hq => by cases hq
        rcases sx_run_ok hS hbx h0 (List.all_eq_true.mpr (fun r hr => List.all_eq_true.mp sx_mv_wf r (sx_mvr_i hr))) hh with h1 | ⟨r, h1, h2, h3, h4⟩
        · exact ih hS hl h1
        · rw [sx_d0] at h2
          obtain ⟨a, ha, w, w1, w2, w4⟩ := sx_mv_ok r (sx_mvr_i h1) _ _ _ hS.2.2.2.2.2.2 hS.2.2.2.2.2.1 h2
          rw [← sx_d0 σ] at w2 w4
          obtain ⟨g, n', tb', cs', hp', σ', e1, e2, e3, e4, -⟩ := sx_alt_ok hS hbx h0 (sx_wfr_a h3 ha) w1 w2 hS.2.2.1 (fun _ _ => rfl) w4 (h4 a ha)
          obtain ⟨n2, tb2, cs2, hp2, σ2, f1, f2, f3, f4⟩ := ih e4 (sx_lm_m e2 e3 hl) e1
          exact ⟨n2, tb2, cs2, hp2, σ2, f1, Nat.le_trans e2 f2, sx_al_t e3 f3 e2, f4⟩
      · exact ih hS hl hh
theorem sx_rck_ok {lv : Nat} {rv : Option sx_V} {o : Option rv_A} {g : sx_Gr} {σe : Nat → Int} (hS : sx_St n tb cs hp σ h) (ho : sx_om n σ rv o) (hal : sx_al 20000 σe σ) (hm : g.1.length < 1000000) (hw : sx_wfg g = true) (hh : sx_rck lv rv tb cs hp g = true) : sx_gm σe g (o, h) := by
  unfold sx_rck at hh
  rw [sx_rfl_eq] at hh
  have hfb : ∀ f ∈ g.1.map (fun q => sx_ra rv hp q.1), sx_b n f := fun f hf => by
    obtain ⟨q, -, rfl⟩ := List.mem_map.mp hf
    exact sx_ra_b hS ho _
  have hfi : ∀ (i : Nat) q, g.1[i]? = some q → (g.1.map (fun q => sx_ra rv hp q.1))[i]? = some (sx_ra rv hp q.1) := fun i q hi => by
    rw [List.getElem?_map, hi]
    rfl
  generalize g.1.map (fun q => sx_ra rv hp q.1) = fl at hh hfb hfi
  simp only [Bool.and_eq_true] at hh
  obtain ⟨⟨⟨h1, h2⟩, h3⟩, h4⟩ := hh
  obtain ⟨i1, i2⟩ := sx_inl2_ok hS.2.1 h1
  obtain ⟨w1, w2, w3, w4⟩ := sx_wfg_i hw
  have hlo : ∀ s, s < 20000 → sx_d σ (sx_ta 1000000 fl s) = σ s := fun s hs => by rw [sx_ta_lo hs, sx_d_s]
  have heq := sx_eqh_ok hS.2.1 hlo h3
  have hsb : ∀ f, ∃ g, (∀ k : sx_F → Bool, sx_sb (sx_ta 1000000 fl) f k = k g) ∧ sx_d σ g = sx_d (fun s => sx_d σ (sx_ta 1000000 fl s)) f := fun f => by
    obtain ⟨g, g1, g2, -⟩ := sx_sb_ok (β := Bool) (sx_ta 1000000 fl) f
    exact ⟨g, g1, g2 σ⟩
  refine ⟨fun s => sx_d σ (sx_ta 1000000 fl s), fun s hs => by rw [hal s hs]; exact (hlo s hs).symm, fun i q hi => ?_, fun f hf => ?_, ?_, ?_⟩
  · show q.2.1 ≤ sx_d σ (sx_ta 1000000 fl (1000000 + i)) ∧ sx_d σ (sx_ta 1000000 fl (1000000 + i)) ≤ q.2.2
    rw [sx_ta_hi (by decide) (hfi i q hi)]
    exact i1 i q _ hi (hfi i q hi)
  · have hg := List.all_eq_true.mp h2 f hf
    obtain ⟨g', g1, g2⟩ := hsb f
    rw [g1] at hg
    have := sx_ge_ok hS.2.1 hg
    rw [g2] at this
    exact this
  · obtain ⟨k1, k2, k3, k4, k5⟩ := hS.2.2
    refine ⟨k1, fun q hq => fun p hp2 => ?_, fun kk j x ht hx => ?_, fun s hs => ?_, sx_GG_cg (fun c h1 h2 => heq c (by omega)) k5⟩
    · rcases sx_wf_i (w3 q hq).2 p hp2 with a | a
      · omega
      · omega
    · have hl2 := sx_fv_lt k1 hx
      rw [← heq _ (by omega)]
      exact k3 kk j x ht hx
    · rw [← heq _ (by omega)]
      exact k4 s hs
  · split at h4
    · rename_i hr
      cases o with
      | none => rw [hr]; exact True.intro
      | some a => cases ho
    · rename_i f r hr
      cases o with
      | none => cases ho
      | some a =>
        obtain ⟨hb, x, rfl, hx⟩ := ho
        obtain ⟨g', g1, g2⟩ := hsb r
        rw [g1] at h4
        rw [hr]
        exact ⟨x, rfl, by rw [hx, sx_eq0_ok hS.2.1 h4, g2]⟩
    · rename_i f r hr
      cases o with
      | none => cases ho
      | some a =>
        obtain ⟨hb, x, rfl, hx⟩ := ho
        obtain ⟨g', g1, g2⟩ := hsb r
        rw [g1] at h4
        rw [hr]
        exact ⟨x, rfl, by rw [hx, sx_eq0_ok hS.2.1 h4, g2]⟩
    · cases h4
end SXT
