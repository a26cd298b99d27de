/-! A METHOD'S CHECK gives its contract -/
section SXM
variable {l : Launch} {ρ : rv_ρ}
theorem sx_drop_eq {body code : List rv_I} {i : Nat} (hs : sx_sf body code) (hl : i + code.length = body.length) : rv_drop i body = code := by
  obtain ⟨pre, h⟩ := hs
  have hp : pre.length = i := by
    rw [h, List.length_append] at hl
    omega
  rw [rv_drop_eq, h, ← hp, List.drop_left]
/-- from the heads on -/
def sx_LP (l : Launch) (ρ : rv_ρ) (d : Nat) (σe : Nat → Int) (body : List rv_I) (nL rt : Nat) (Q : rv_O → Prop) (TS : List sx_Tm) (N : Int) : Prop := ∀ t ∈ TS, ∀ (σ : Nat → Int) (lc : rv_L) (h : List rv_C), sx_al 20000 σe σ → sx_St (20000 + t.2.2.1.length) (sx_tt 20000 t.2.2.1 ++ t.2.2.2.1) t.2.2.2.2.1 t.2.2.2.2.2.2.1 σ h → sx_lm (20000 + t.2.2.1.length) σ t.2.2.2.2.2.1 lc → 0 ≤ sx_d σ t.2.2.2.2.2.2.2 → sx_d σ t.2.2.2.2.2.2.2 < N → sx_G l ρ d body nL rt (rv_drop t.1 body) lc [] h Q
theorem sx_hd_ok {d : Nat} {σe σ0 : Nat → Int} {m0 : Nat} {body : List rv_I} {nL rt : Nat} {Q : rv_O → Prop} {TS : List sx_Tm} {fk : List (Nat × Nat)} {hs : List Nat} {lv : Nat} {M : Option sx_F} {N : Int} (he : sx_al 20000 σe σ0) (hm : 20000 ≤ m0) (hw : ∀ t ∈ TS, sx_wft t = true) (hLP : ∀ x : Int, (∀ m, M = some m → x + 1 ≤ sx_d σ0 m) → sx_LP l ρ d σe body nL rt Q TS (x + 1)) (hM : ∀ m, M = some m → sx_b m0 m) (w : sx_Kw) (hP : sx_P l ρ d m0 σ0 body nL rt Q w) : sx_P l ρ d m0 σ0 body nL rt Q (sx_hd fk hs TS lv body.length M w) := by
  intro code hsf ls st n tb cs hp σ lc sc h hh hal hS hls hst
  cases code with
  | nil => cases hh
  | cons e rest =>
    obtain ⟨ls', tb', cs', hk, hS', hl'⟩ := sx_frk_ok (k := fun ls tb cs => Bool.rec (motive := fun _ => Bool) (w (e :: rest) ls st n tb cs hp) (sx_emp st && sx_trn lv fk e.1 ls n tb cs hp (fun _ tb cs hp => TS.any (fun t => t.2.1.beq e.1 && (t.1 + (e :: rest).length).beq body.length && sx_arv lv M ls tb cs hp t))) (hs.any (fun q => q.beq e.1))) hS.2.1 hls hh
    have hSS : sx_St n tb' cs' hp σ h := ⟨hS.1, hS', hS.2.2⟩
    cases hb : hs.any (fun q => q.beq e.1) with
    | false =>
      rw [hb] at hk
      exact hP _ hsf _ _ _ _ _ _ σ lc sc h hk hal hSS hl' hst
    | true =>
      rw [hb] at hk
      replace hk : (sx_emp st && sx_trn lv fk e.1 ls' n tb' cs' hp (fun _ tb cs hp => TS.any (fun t => t.2.1.beq e.1 && (t.1 + (e :: rest).length).beq body.length && sx_arv lv M ls' tb cs hp t))) = true := hk
      rw [Bool.and_eq_true] at hk
      obtain ⟨hk1, hk2⟩ := hk
      cases st with
      | cons v r => cases hk1
      | nil =>
        have hsc := sx_vs_n hst
        subst hsc
        obtain ⟨n9, tb9, cs9, hp9, σ9, hk2, hn9, ha9, hS9⟩ := sx_trn_ok hSS hl' hk2
        obtain ⟨t, ht, hk3⟩ := List.any_eq_true.mp hk2
        rw [Bool.and_eq_true, Bool.and_eq_true] at hk3
        obtain ⟨⟨-, k1⟩, k2⟩ := hk3
        have k1 := Nat.eq_of_beq_eq_true k1
        obtain ⟨τ, a1, a2, a3, a4, a5⟩ := sx_arv_ok hS9 (sx_lm_m hn9 ha9 hl') (hw t ht) k2
        rw [← sx_drop_eq hsf k1]
        refine hLP (sx_d τ t.2.2.2.2.2.2.2) (fun m hm2 => ?_) t ht τ lc h ?_ a2 a3 a4 (by omega)
        · rw [sx_d_al (sx_ba_t hal ha9 hn9).2 (hM m hm2)]
          exact a5 m hm2
        · exact fun s hs => (he s hs).trans (((sx_ba_t hal ha9 hn9).2 s (by omega)).trans (a1 s hs))
theorem sx_ea_ok {σ : Nat → Int} : ∀ {sps : List sx_Sp} {as : List rv_A} {i : Nat}, sx_am σ i sps as → i + sps.length ≤ 900 → sx_vs 20000 σ (sx_ea i sps) as ∧ ∀ q ∈ sx_et i sps, q.1 < 20000 ∧ q.2.1 ≤ σ q.1 ∧ σ q.1 ≤ q.2.2 := by
  intro sps
  induction sps with
  | nil =>
    intro as i h _
    cases as with
    | nil => exact ⟨True.intro, fun q hq => by unfold sx_et at hq; cases hq⟩
    | cons a t => cases h
  | cons p ps ih =>
    intro as i h hl
    rw [List.length_cons] at hl
    cases as with
    | nil => cases h
    | cons a t =>
      obtain ⟨h1, h2⟩ := h
      obtain ⟨i1, i2⟩ := ih h2 (by omega)
      obtain ⟨ty, lo, hi, qs⟩ := p
      match ty, h1 with
      | 0, h1 =>
        obtain ⟨x, rfl, hx, hr⟩ := h1
        refine ⟨⟨⟨sx_b_s (by omega), x, rfl, by rw [hx]; exact (sx_d_s σ _).symm⟩, i1⟩, fun q hq => ?_⟩
        unfold sx_et at hq
        rcases List.mem_cons.mp hq with rfl | hq
        · exact ⟨by show 19000 + i < 20000; omega, by show lo ≤ σ (19000 + i); omega, by show σ (19000 + i) ≤ hi; omega⟩
        · exact i2 q hq
      | 1, h1 =>
        obtain ⟨x, rfl, hx, hr⟩ := h1
        refine ⟨⟨⟨sx_b_s (by omega), x, rfl, by rw [hx]; exact (sx_d_s σ _).symm⟩, i1⟩, fun q hq => ?_⟩
        unfold sx_et at hq
        rcases List.mem_cons.mp hq with rfl | hq
        · exact ⟨by show 19000 + i < 20000; omega, by show lo ≤ σ (19000 + i); omega, by show σ (19000 + i) ≤ hi; omega⟩
        · exact i2 q hq
      | ty + 2, h1 =>
        obtain ⟨q0, hq0, rfl⟩ := h1
        exact ⟨⟨⟨q0, hq0, rfl⟩, i1⟩, i2⟩
theorem sx_ck_ok {tc : Lean.RArray sx_Me} {lv e fu mi B : Nat} {c : sx_Cn} {z : sx_Ce2} (hT : sx_TcOK l ρ tc c.1) (hE : sx_ckE tc lv e fu mi B c z = true) (hTs : ∀ t ∈ z.2.2.1, sx_ckT tc lv e fu mi B c z t = true) : sx_CtOK l ρ mi c := by
  intro d hd as h σe ham hsr hH hpre
  unfold sx_ckE at hE
  simp only [Bool.and_eq_true] at hE
  obtain ⟨⟨⟨⟨⟨e1, e2⟩, e3⟩, e4⟩, e5⟩, e6⟩ := hE
  have e1 := Nat.le_of_ble_eq_true e1
  have e4 := Nat.le_of_ble_eq_true e4
  obtain ⟨d2, rfl⟩ : ∃ d2, d = d2 + 1 := ⟨d - 1, by omega⟩
  have hC : sx_Pc l ρ d2 (sx_cal tc lv B c.1 e) := sx_cal_ok hT (by omega)
  have htab := sx_bd_ok (sx_blt e2)
  obtain ⟨a1, a2⟩ := sx_ea_ok ham (by omega)
  refine sx_ct (body := (sx_bd.get mi).1) (nL := (sx_bd.get mi).2.1) (rt := (sx_bd.get mi).2.2) htab (by rw [sx_wd_v a1]; exact Nat.le_of_ble_eq_true e3) ?_
  have hRt : ∀ (m0 : Nat) (σ0 : Nat → Int), sx_al 20000 σe σ0 → 20000 ≤ m0 → sx_Pr m0 σ0 (fun o => ∃ g ∈ c.2.2.2.2, sx_gm σe g o) (sx_ret lv c.2.2.2.2) := by
    intro m0 σ0 he hm rv n tb cs hp σ h o hk hal hS ho
    obtain ⟨g, hg, hk⟩ := List.any_eq_true.mp hk
    rw [Bool.and_eq_true] at hk
    replace hk := hk.2
    rw [Bool.and_eq_true, Bool.and_eq_true] at hk
    exact ⟨g, hg, sx_rck_ok hS ho (fun s hs => (he s hs).trans (hal.2 s (by omega))) (sx_blt hk.1.1) hk.1.2 hk.2⟩
  have hw : ∀ t ∈ z.2.2.1, sx_wft t = true := fun t ht => by
    have := hTs t ht
    unfold sx_ckT at this
    simp only [Bool.and_eq_true] at this
    exact this.1.1
  have hLP : ∀ N : Nat, sx_LP l ρ d2 σe (sx_bd.get mi).1 (sx_bd.get mi).2.1 (sx_bd.get mi).2.2 (fun o => ∃ g ∈ c.2.2.2.2, sx_gm σe g o) z.2.2.1 N := by
    intro N
    induction N with
    | zero => intro t ht σ lc h _ _ _ h1 h2; omega
    | succ N ih =>
      intro t ht σ lc h he hS hl h1 h2
      have hck := hTs t ht
      unfold sx_ckT at hck
      simp only [Bool.and_eq_true] at hck
      obtain ⟨⟨c1, c2⟩, c3⟩ := hck
      have hbm : sx_b (20000 + t.2.2.1.length) t.2.2.2.2.2.2.2 := by
        unfold sx_wft at c1
        simp only [Bool.and_eq_true] at c1
        exact sx_bb_i c1.2
      have hP := sx_wk_ok (l := l) (ρ := ρ) (d := d2) (m0 := 20000 + t.2.2.1.length) (σ0 := σ) (lv := lv) (cal := sx_cal tc lv B c.1 e) (ret := sx_ret lv c.2.2.2.2) (body := (sx_bd.get mi).1) (nL := (sx_bd.get mi).2.1) (rt := (sx_bd.get mi).2.2) (hd := sx_hd z.1 z.2.1 z.2.2.1 lv (sx_bd.get mi).1.length (some t.2.2.2.2.2.2.2)) (fun w hP => sx_hd_ok (σe := σe) (N := 0) he (Nat.le_add_right _ _) hw (fun x hx t2 ht2 σ2 lc2 h2' q1 q2 q3 q4 q5 => ih t2 ht2 σ2 lc2 h2' q1 q2 q3 q4 (by have := hx _ rfl; omega)) (fun m hm => by cases hm; exact hbm) w hP) hC (hRt _ σ he (Nat.le_add_right _ _)) fu
      exact sx_stp_ok hP hC (hRt _ σ he (Nat.le_add_right _ _)) _ sx_sf_d _ _ _ _ _ _ σ lc [] h c3 ⟨Nat.le_refl _, sx_al_r⟩ hS hl True.intro
  have hP := sx_wk_ok (l := l) (ρ := ρ) (d := d2) (m0 := 20000) (σ0 := σe) (lv := lv) (cal := sx_cal tc lv B c.1 e) (ret := sx_ret lv c.2.2.2.2) (body := (sx_bd.get mi).1) (nL := (sx_bd.get mi).2.1) (rt := (sx_bd.get mi).2.2) (hd := sx_hd z.1 z.2.1 z.2.2.1 lv (sx_bd.get mi).1.length none) (fun w hP => sx_hd_ok (σe := σe) (N := 0) sx_al_r (Nat.le_refl _) hw (fun x hx t2 ht2 σ2 lc2 h2' q1 q2 q3 q4 q5 => hLP (x + 1).toNat t2 ht2 σ2 lc2 h2' q1 q2 q3 q4 (by omega)) (fun m hm => by cases hm) w hP) hC (hRt _ σe sx_al_r (Nat.le_refl _)) fu
  obtain ⟨tb0, cs0, e6, hS0⟩ := sx_asl_ok (n := 20000) (σ := σe) e6 ⟨hsr, a2, fun f hf => (by cases hf)⟩ (fun f hf => ⟨fun q hq => sx_b_s (sx_bb_i (List.all_eq_true.mp e5 f hf) q hq), by
    have e8 : sx_d (fun s => sx_d σe (sx_s s)) f = sx_d σe f := sx_d_cg (fun q _ => sx_d_s σe q.1)
    show 0 ≤ sx_d (fun s => sx_d σe (sx_s s)) f
    rw [e8]
    exact hpre f hf⟩)
  obtain ⟨as', tb', cs', e7, hS', a1', -⟩ := sx_spj_ok (n := 20000) (σ := σe) e6 hS0 a1
  exact hP _ ⟨[], rfl⟩ _ _ _ _ _ _ σe _ [] h e7 ⟨Nat.le_refl _, sx_al_r⟩ ⟨Nat.le_refl _, hS', hH⟩ (sx_loc_ok 0 a1').1 True.intro
end SXM
