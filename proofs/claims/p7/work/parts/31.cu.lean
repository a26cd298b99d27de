/-! A CALL BY CONTRACT is right -/
section SXV
variable {n : Nat} {tb : sx_T} {cs : List sx_F} {hp : sx_Hp} {σ : Nat → Int} {h : List rv_C} {l : Launch} {ρ : rv_ρ} {d mi : Nat}
theorem sx_wfg_i {g : sx_Gr} (h : sx_wfg g = true) : (∀ q ∈ g.1, -9223372036854775808 ≤ q.2.1 ∧ q.2.2 ≤ 9223372036854775807) ∧ (∀ f ∈ g.2.1, sx_wf g.1.length f = true) ∧ (∀ q ∈ g.2.2.1, q.1 < 19000 ∧ sx_wf g.1.length q.2 = true) ∧ sx_wfo g.1.length g.2.2.2 = true := by
  unfold sx_wfg at h
  simp only [Bool.and_eq_true] at h
  obtain ⟨⟨⟨h1, h2⟩, h3⟩, h4⟩ := h
  refine ⟨fun q hq => ?_, List.all_eq_true.mp h2, fun q hq => ?_, h4⟩
  · have := List.all_eq_true.mp h1 q hq
    rw [Bool.and_eq_true] at this
    have a1 := sx_p_t this.1
    have a2 := sx_p_t this.2
    omega
  · have := List.all_eq_true.mp h3 q hq
    rw [Bool.and_eq_true] at this
    exact ⟨sx_blt this.1, this.2⟩
theorem sx_grp_ok {as : List sx_V} {ac : List rv_A} {k : sx_Kr} {g : sx_Gr} {o : rv_O} (hS : sx_St n tb cs hp σ h) (ha : sx_vs n σ as ac) (hwf : sx_wfg g = true) (hh : sx_grp as k n tb cs hp g = true) (hg : sx_gm (fun s => sx_d σ (sx_t0 hp as s)) g o) : sx_Qc n σ k o := by
  obtain ⟨τ, t1, t2, t3, t4, t5⟩ := hg
  obtain ⟨w1, w2, w3, w4⟩ := sx_wfg_i hwf
  unfold sx_grp at hh
  obtain ⟨tb', σ', k1, hS1, hal, hval⟩ := sx_frs_ok (fun i => τ (1000000 + i)) (fun i q hi => by
    have := t2 i q hi
    have hw := w1 q (List.mem_of_getElem? hi)
    exact ⟨this.1, this.2, by omega, by omega⟩) hS.2.1 (sx_wide_ok hS.1) hh
  have hn2 : n ≤ n + g.1.length := Nat.le_add_right _ _
  have hsym : ∀ s, (s < 20000 ∨ (1000000 ≤ s ∧ s < 1000000 + g.1.length)) → sx_d σ' (sx_tu hp as n s) = τ s ∧ sx_b (n + g.1.length) (sx_tu hp as n s) := by
    intro s hs
    rcases hs with hs | hs
    · have e : sx_tu hp as n s = sx_t0 hp as s := by
        unfold sx_tu
        rw [sx_ble_f (show s < 1000000 by omega)]
      rw [e]
      have hb := sx_t0_b hS ha s
      exact ⟨by rw [← sx_d_al hal hb]; exact t1 s hs, sx_b_m hb hn2⟩
    · have e : sx_tu hp as n s = sx_s (n + (s - 1000000)) := by
        unfold sx_tu
        rw [show Nat.ble 1000000 s = true from Nat.ble_eq_true_of_le hs.1]
        rfl
      rw [e, sx_d_s, hval (s - 1000000) (by omega), show 1000000 + (s - 1000000) = s by omega]
      exact ⟨rfl, sx_b_s (by omega)⟩
  have hform : ∀ f, sx_wf g.1.length f = true → (∀ q ∈ f.2, sx_b (n + g.1.length) (sx_tu hp as n q.1)) ∧ sx_d (fun s => sx_d σ' (sx_tu hp as n s)) f = sx_d τ f := fun f hf => ⟨fun q hq => (hsym q.1 (sx_wf_i hf q hq)).2, sx_d_cg (fun q hq => (hsym q.1 (sx_wf_i hf q hq)).1)⟩
  obtain ⟨tb2, cs2, k2, hS2⟩ := sx_asl_ok k1 hS1 (fun f hf => ⟨(hform f (w2 f hf)).1, by rw [(hform f (w2 f hf)).2]; exact t3 f hf⟩)
  obtain ⟨hp', k3, hb3, hc3⟩ := sx_mds_ok (n := n + g.1.length) (σ := σ') k2 (fun q hq => (hform q.2 (w3 q hq).2).1) (fun q hq => sx_b_m (hS.2.2.2.1 q hq) hn2)
  have hfield : ∀ c, c < 19000 → sx_d σ' (sx_hg hp' c) = sx_d τ (sx_hg g.2.2.1 c) := by
    intro c hc
    rw [hc3]
    by_cases hk : ∃ q ∈ g.2.2.1, q.1 = c
    · rw [if_pos hk]
      refine sx_d_cg (fun q hq => (hsym q.1 ?_).1)
      have : ∀ (l : List (Nat × sx_F)), (∀ q ∈ l, sx_wf g.1.length q.2 = true) → (∃ q ∈ l, q.1 = c) → sx_wf g.1.length (sx_hg l c) = true := by
        intro l
        induction l with
        | nil => intro _ ⟨q, hq, _⟩; cases hq
        | cons q t ih =>
          intro hl ⟨q2, hq2, hq3⟩
          have eh : sx_hg (q :: t) c = Bool.rec (motive := fun _ => sx_F) (sx_hg t c) q.2 (q.1.beq c) := rfl
          rw [eh]
          cases hb : q.1.beq c with
          | true => exact hl q List.mem_cons_self
          | false =>
            rcases List.mem_cons.mp hq2 with rfl | hq2
            · rw [hq3, Nat.beq_refl] at hb; cases hb
            · exact ih (fun q hq => hl q (List.mem_cons_of_mem _ hq)) ⟨q2, hq2, hq3⟩
      exact sx_wf_i (this _ (fun q hq => (w3 q hq).2) hk) q hq
    · rw [if_neg hk, sx_hg_k hk]
      rw [← sx_d_al hal (sx_hg_b (show c < n by have := hS.1; omega) hS.2.2.2.1)]
      have e2 := t1 c (by omega)
      rw [show (fun s => sx_d σ (sx_t0 hp as s)) c = sx_d σ (sx_t0 hp as c) from rfl, sx_t0_lo hc] at e2
      rw [e2]
      exact (sx_d_s τ c).symm
  obtain ⟨i1, i2, i3, i4, i5⟩ := t4
  have hH' : sx_H (n + g.1.length) σ' hp' o.2 := by
    refine ⟨i1, hb3, fun kk j x ht hx => ?_, fun s hs => ?_, sx_GG_cg (fun c h1 h2 => (hfield c h2).symm) i5⟩
    · have hl := sx_fv_lt i1 hx
      rw [hfield _ (by omega)]
      exact i3 kk j x ht hx
    · rw [hfield _ hs]
      exact i4 s hs
  have hn20 : 20000 ≤ n + g.1.length := Nat.le_trans hS.1 hn2
  unfold sx_rtv at k3
  generalize hr : g.2.2.2 = r at k3 t5 w4
  match r, k3, t5, w4 with
  | none, k3, t5, w4 =>
    cases ho : o.1 with
    | none => exact ⟨none, _, tb2, cs2, hp', σ', k3, hal, hn2, ⟨hn20, hS2, hH'⟩, by rw [ho]; exact True.intro⟩
    | some a => rw [ho] at t5; cases t5
  | some (false, f), k3, t5, w4 =>
    obtain ⟨gf, g1, g2, g3⟩ := sx_sb_ok (β := Bool) (sx_tu hp as n) f
    replace k3 : sx_sb (sx_tu hp as n) f (fun gg => k (some (sx_vi gg)) (n + g.1.length) tb2 cs2 hp') = true := k3
    rw [g1] at k3
    cases ho : o.1 with
    | none => rw [ho] at t5; cases t5
    | some a =>
      rw [ho] at t5
      obtain ⟨x, hx1, hx2⟩ := t5
      refine ⟨some (sx_vi gf), _, tb2, cs2, hp', σ', k3, hal, hn2, ⟨hn20, hS2, hH'⟩, ?_⟩
      rw [ho]
      exact ⟨g3 _ (hform f w4).1, x, hx1, by rw [hx2, g2, (hform f w4).2]⟩
  | some (true, f), k3, t5, w4 =>
    obtain ⟨gf, g1, g2, g3⟩ := sx_sb_ok (β := Bool) (sx_tu hp as n) f
    replace k3 : sx_sb (sx_tu hp as n) f (fun gg => k (some (sx_vl gg)) (n + g.1.length) tb2 cs2 hp') = true := k3
    rw [g1] at k3
    cases ho : o.1 with
    | none => rw [ho] at t5; cases t5
    | some a =>
      rw [ho] at t5
      obtain ⟨x, hx1, hx2⟩ := t5
      refine ⟨some (sx_vl gf), _, tb2, cs2, hp', σ', k3, hal, hn2, ⟨hn20, hS2, hH'⟩, ?_⟩
      rw [ho]
      exact ⟨g3 _ (hform f w4).1, x, hx1, by rw [hx2, g2, (hform f w4).2]⟩
theorem sx_use_ok {lv B i0 : Nat} {as : List sx_V} {ac : List rv_A} {k : sx_Kr} {c : sx_Cn} (hc : c.1 < i0 → sx_CtOK l ρ mi c) (hwf : sx_wfc c = true) (hB : B ≤ d) (hlen : as.length ≤ 1000) (hS : sx_St n tb cs hp σ h) (ha : sx_vs n σ as ac) (hh : sx_use lv B i0 as k n tb cs hp c = true) : sx_Ct l ρ d mi ac h (sx_Qc n σ k) := by
  unfold sx_use at hh
  simp only [Bool.and_eq_true] at hh
  obtain ⟨⟨⟨⟨h1, h2⟩, h3⟩, h4⟩, h5⟩ := hh
  unfold sx_wfc at hwf
  rw [Bool.and_eq_true] at hwf
  have hok := hc (sx_blt h1) d (Nat.le_trans (Nat.le_of_ble_eq_true h2) hB) ac h (fun s => sx_d σ (sx_t0 hp as s)) (sx_ams_ok (as0 := as) hS.2.1 h3 ha (fun j => by rw [Nat.zero_add]) (by omega)) (sx_t0_sr hS ha) ?_ ?_
  · refine sx_Ct_mono (fun o ho => ?_) hok
    obtain ⟨g, hg, hgm⟩ := ho
    exact sx_grp_ok hS ha (List.all_eq_true.mp hwf.2 g hg) (List.all_eq_true.mp h5 g hg) hgm
  · obtain ⟨i1, i2, i3, i4, i5⟩ := hS.2.2
    refine ⟨i1, fun q hq => (by cases hq), fun kk j x ht hx => ?_, fun s hs => ?_, sx_GG_cg (fun c h1 h2 => by
      show sx_d σ (sx_hg hp c) = sx_d _ (sx_s c)
      rw [sx_d_s, sx_t0_lo h2]) i5⟩
    · have hl := sx_fv_lt i1 hx
      show x = sx_d _ (sx_s (kk * 128 + j))
      rw [sx_d_s, sx_t0_lo (by omega)]
      exact i3 kk j x ht hx
    · show (sx_sr s).1 ≤ sx_d _ (sx_s s) ∧ sx_d _ (sx_s s) ≤ (sx_sr s).2
      rw [sx_d_s, sx_t0_lo hs]
      exact i4 s hs
  · intro f hf
    have hg := List.all_eq_true.mp h4 f hf
    obtain ⟨g, g1, g2, -⟩ := sx_sb_ok (β := Bool) (sx_t0 hp as) f
    rw [g1] at hg
    have := sx_ge_ok hS.2.1 hg
    rw [g2] at this
    exact this
end SXV
