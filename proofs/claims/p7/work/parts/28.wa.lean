/-! THE WALK IS RIGHT: arrays -/
theorem sx_cee_i {a b : sx_Ce} (h : sx_cee a b = true) : a.1 = b.1 ∧ a.2.2.1 = b.2.2.1 ∧ a.2.2.2.1 = b.2.2.2.1 ∧ a.2.2.2.2.1 = b.2.2.2.2.1 ∧ a.2.2.2.2.2 = b.2.2.2.2.2 := by
  unfold sx_cee at h
  simp only [Bool.and_eq_true] at h
  obtain ⟨⟨⟨⟨h1, h2⟩, h3⟩, h4⟩, h5⟩ := h
  exact ⟨Nat.eq_of_beq_eq_true h1, Nat.eq_of_beq_eq_true h2, sx_zz h3, sx_zz h4, sx_leq_i h5⟩
/-- the array that a reference names -/
theorem sx_arr {h : List rv_C} (hI : sx_I h) {q : Nat} {ce : sx_Ce} {ks : List Nat} (ho : sx_oka ce ks = true) (hq : q ∈ ks) {t : Nat} (ht : ce.1 = 100 + t) : ∃ dd ups, rv_hget h q = some (.inr (t, ce.2.2.1, dd, ups)) ∧ h[q]? = some (.inr (t, ce.2.2.1, dd, ups)) ∧ (∀ j, j < ce.2.2.1 → sx_eok t ce.2.2.2.1 ce.2.2.2.2.1 ce.2.2.2.2.2 (rv_el dd ups j)) ∧ ((sx_cell.get q).2.2.2.1 = ce.2.2.2.1 ∧ (sx_cell.get q).2.2.2.2.1 = ce.2.2.2.2.1 ∧ (sx_cell.get q).2.2.2.2.2 = ce.2.2.2.2.2) := by
  have h1 := List.all_eq_true.mp ho q hq
  rw [Bool.and_eq_true] at h1
  obtain ⟨g1, g2, g3, g4, g5⟩ := sx_cee_i h1.2
  obtain ⟨c, hc1, hc2, hc3⟩ := sx_I_at hI (sx_blt h1.1)
  rcases c with ⟨ci, fs⟩ | ⟨t2, m, dd, ups⟩
  · obtain ⟨k1, k2, -⟩ := hc3
    omega
  · obtain ⟨k1, k2, k3, k4⟩ := hc3
    have e1 : t2 = t := by omega
    have e2 : m = ce.2.2.1 := by rw [g2]; exact k2.symm
    subst e1
    subst e2
    refine ⟨dd, ups, hc1, hc2, ?_, g3.symm, g4.symm, g5.symm⟩
    rw [g3, g4, g5]
    exact k4
theorem sx_beq_or {t a b : Nat} (h : (t.beq a || t.beq b) = true) : t = a ∨ t = b := by
  rw [Bool.or_eq_true] at h
  rcases h with h | h
  · exact Or.inl (Nat.eq_of_beq_eq_true h)
  · exact Or.inr (Nat.eq_of_beq_eq_true h)
theorem sx_byt (x : Int32) : -128 ≤ (vp_nar .byte x).toInt ∧ (vp_nar .byte x).toInt ≤ 127 := by
  show -128 ≤ (x.toInt8.toInt32).toInt ∧ (x.toInt8.toInt32).toInt ≤ 127
  rw [Int8.toInt_toInt32]
  have h1 := x.toInt8.le_toInt
  have h2 := x.toInt8.toInt_lt
  omega
section SXZ
variable {l : Launch} {ρ : rv_ρ} {d : Nat} {m0 : Nat} {σ0 : Nat → Int} {body : List rv_I} {nL rt : Nat} {Q : rv_O → Prop} {ih : sx_Kw} {rest : List rv_I} {ls : sx_Ls} {st : List sx_V} {n : Nat} {tb : sx_T} {cs : List sx_F} {hp : sx_Hp} {σ : Nat → Int} {lc : rv_L} {sc : List rv_A} {h : List rv_C} {code : List rv_I}
theorem sx_rk_i {g : sx_F} {k : Nat → Bool} (h : sx_rk g k = true) : ∃ c : Int, g = (c, []) ∧ k c.toNat = true := by
  unfold sx_rk at h
  split at h
  · rw [rv_fN_eq] at h
    exact ⟨_, rfl, h⟩
  · cases h
theorem sx_ldi {lv q t len j : Nat} {lo hi : Int} {i : sx_F} {r : List sx_V} {s : List rv_A} {dd : rv_A} {ups : List (Nat × rv_A)} {z : Int32} (hP : sx_P l ρ d m0 σ0 body nL rt Q ih) (hsf : sx_sf body rest) (hal : sx_ba m0 σ0 n σ) (hS : sx_St n tb cs hp σ h) (hls : sx_lm n σ ls lc) (hs : sx_vs n σ r s) (a2 : h[q]? = some (.inr (t, len, dd, ups))) (a4 : (sx_cell.get q).2.2.2.1 = lo ∧ (sx_cell.get q).2.2.2.2.1 = hi) (hbi : sx_b n i) (hx : sx_d σ i = (j : Int)) (hjl : j < len) (hz : rv_el dd ups j = .inl z) (hz2 : lo ≤ z.toInt ∧ z.toInt ≤ hi) (hh : sx_fr lo hi n tb cs (fun f n' tb' cs' => sx_gld lv q i f n' tb' cs' hp (fun g n2 tb2 cs2 hp2 => ih rest ls (sx_vi g :: r) n2 tb2 cs2 hp2)) = true) : sx_G l ρ d body nL rt rest lc (.inl z :: s) h Q := by
  have h32 := sx_r32 z
  obtain ⟨r0, n1, tb1, cs1, σ1, k1, k2, k3, k4, k5, k6⟩ := sx_fr_ok hS.2.1 (sx_wide_ok hS.1) hz2 ⟨by omega, by omega⟩ hh
  have hq143 : q < 143 := by rw [← hS.2.2.1.1]; exact (List.getElem?_eq_some_iff.mp a2).1
  have hlen : (sx_cell.get q).2.2.1 = len := by
    have := (hS.2.2.1.2 _ _ a2).2.1
    rw [this]
  obtain ⟨g, n2, tb2, cs2, hp2, σ2, g1, g2, g3, g4, g5, g6⟩ := sx_gld_ok (j := j) (y := z.toInt) (sx_St_m hS k2 k3 k4) (sx_b_m hbi k4) k5 hq143 (by rw [hlen]; exact hjl) (by rw [a4.1]; exact hz2.1) (by rw [a4.2]; exact hz2.2) (by rw [← sx_d_al k3 hbi, hx]) k6.symm (by
    unfold sx_ga
    rw [a2]
    show (sx_nua (rv_el dd ups j)).getD 0 = _
    rw [hz]
    rfl) k1
  have k34 : sx_al n σ σ2 := sx_al_t k3 g3 k4
  have k44 : n ≤ n2 := Nat.le_trans k4 g2
  exact hP _ hsf _ _ _ _ _ _ σ2 lc _ h g1 (sx_ba_t hal k34 k44) g4 (sx_lm_m k44 k34 hls) ⟨⟨g5, z, rfl, g6.symm⟩, sx_vs_m k44 k34 hs⟩
theorem sx_ldl {lv q t len j : Nat} {lo hi : Int} {i : sx_F} {r : List sx_V} {s : List rv_A} {dd : rv_A} {ups : List (Nat × rv_A)} {z : Int64} (hP : sx_P l ρ d m0 σ0 body nL rt Q ih) (hsf : sx_sf body rest) (hal : sx_ba m0 σ0 n σ) (hS : sx_St n tb cs hp σ h) (hls : sx_lm n σ ls lc) (hs : sx_vs n σ r s) (a2 : h[q]? = some (.inr (t, len, dd, ups))) (a4 : (sx_cell.get q).2.2.2.1 = lo ∧ (sx_cell.get q).2.2.2.2.1 = hi) (hbi : sx_b n i) (hx : sx_d σ i = (j : Int)) (hjl : j < len) (hz : rv_el dd ups j = rv_lng z) (hz2 : lo ≤ z.toInt ∧ z.toInt ≤ hi) (hh : sx_fr lo hi n tb cs (fun f n' tb' cs' => sx_gld lv q i f n' tb' cs' hp (fun g n2 tb2 cs2 hp2 => ih rest ls (sx_vl g :: r) n2 tb2 cs2 hp2)) = true) : sx_G l ρ d body nL rt rest lc (rv_lng z :: s) h Q := by
  have h32 := sx_r64 z
  obtain ⟨r0, n1, tb1, cs1, σ1, k1, k2, k3, k4, k5, k6⟩ := sx_fr_ok hS.2.1 (sx_wide_ok hS.1) hz2 ⟨by omega, by omega⟩ hh
  have hq143 : q < 143 := by rw [← hS.2.2.1.1]; exact (List.getElem?_eq_some_iff.mp a2).1
  have hlen : (sx_cell.get q).2.2.1 = len := by
    have := (hS.2.2.1.2 _ _ a2).2.1
    rw [this]
  obtain ⟨g, n2, tb2, cs2, hp2, σ2, g1, g2, g3, g4, g5, g6⟩ := sx_gld_ok (j := j) (y := z.toInt) (sx_St_m hS k2 k3 k4) (sx_b_m hbi k4) k5 hq143 (by rw [hlen]; exact hjl) (by rw [a4.1]; exact hz2.1) (by rw [a4.2]; exact hz2.2) (by rw [← sx_d_al k3 hbi, hx]) k6.symm (by
    unfold sx_ga
    rw [a2]
    show (sx_nua (rv_el dd ups j)).getD 0 = _
    rw [hz]
    rfl) k1
  have k34 : sx_al n σ σ2 := sx_al_t k3 g3 k4
  have k44 : n ≤ n2 := Nat.le_trans k4 g2
  exact hP _ hsf _ _ _ _ _ _ σ2 lc _ h g1 (sx_ba_t hal k34 k44) g4 (sx_lm_m k44 k34 hls) ⟨⟨g5, z, rfl, g6.symm⟩, sx_vs_m k44 k34 hs⟩
theorem sx_ldr {lv q t len j : Nat} {lo hi : Int} {i : sx_F} {r : List sx_V} {s : List rv_A} {dd : rv_A} {ups : List (Nat × rv_A)} {z : Nat} (hP : sx_P l ρ d m0 σ0 body nL rt Q ih) (hsf : sx_sf body rest) (hal : sx_ba m0 σ0 n σ) (hS : sx_St n tb cs hp σ h) (hls : sx_lm n σ ls lc) (hs : sx_vs n σ r s) (a2 : h[q]? = some (.inr (t, len, dd, ups))) (a4 : (sx_cell.get q).2.2.2.1 = lo ∧ (sx_cell.get q).2.2.2.2.1 = hi) (hbi : sx_b n i) (hx : sx_d σ i = (j : Int)) (hjl : j < len) (hz : rv_el dd ups j = rv_ref z) (hz9 : z < 143) (hz2 : lo ≤ (z : Int) ∧ (z : Int) ≤ hi) (hh : sx_fr lo hi n tb cs (fun f n' tb' cs' => sx_gld lv q i f n' tb' cs' hp (fun g n2 tb2 cs2 hp2 => sx_rk g (fun c => ih rest ls (sx_vr [c] :: r) n2 tb2 cs2 hp2))) = true) : sx_G l ρ d body nL rt rest lc (rv_ref z :: s) h Q := by
  obtain ⟨r0, n1, tb1, cs1, σ1, k1, k2, k3, k4, k5, k6⟩ := sx_fr_ok hS.2.1 (sx_wide_ok hS.1) hz2 ⟨by omega, by omega⟩ hh
  have hq143 : q < 143 := by rw [← hS.2.2.1.1]; exact (List.getElem?_eq_some_iff.mp a2).1
  have hlen : (sx_cell.get q).2.2.1 = len := by
    have := (hS.2.2.1.2 _ _ a2).2.1
    rw [this]
  obtain ⟨g, n2, tb2, cs2, hp2, σ2, g1, g2, g3, g4, g5, g6⟩ := sx_gld_ok (j := j) (y := (z : Int)) (sx_St_m hS k2 k3 k4) (sx_b_m hbi k4) k5 hq143 (by rw [hlen]; exact hjl) (by rw [a4.1]; exact hz2.1) (by rw [a4.2]; exact hz2.2) (by rw [← sx_d_al k3 hbi, hx]) k6.symm (by
    unfold sx_ga
    rw [a2]
    show (sx_nua (rv_el dd ups j)).getD 0 = _
    rw [hz]
    rfl) k1
  have k34 : sx_al n σ σ2 := sx_al_t k3 g3 k4
  have k44 : n ≤ n2 := Nat.le_trans k4 g2
  obtain ⟨c, e, hk⟩ := sx_rk_i g1
  subst e
  have e2 : c.toNat = z := by
    have h1 : (z : Int) = c + 0 := g6.symm
    omega
  rw [e2] at hk
  exact hP _ hsf _ _ _ _ _ _ σ2 lc _ h hk (sx_ba_t hal k34 k44) g4 (sx_lm_m k44 k34 hls) ⟨⟨z, List.mem_cons_self, rfl⟩, sx_vs_m k44 k34 hs⟩
theorem sx_sti {lv q t len j : Nat} {ce : sx_Ce} {i f : sx_F} {r : List sx_V} {s : List rv_A} {dd : rv_A} {ups u : List (Nat × rv_A)} {y : Int32} (hP : sx_P l ρ d m0 σ0 body nL rt Q ih) (hsf : sx_sf body rest) (hal : sx_ba m0 σ0 n σ) (hS : sx_St n tb cs hp σ h) (hls : sx_lm n σ ls lc) (hs : sx_vs n σ r s) (a2 : h[q]? = some (.inr (t, len, dd, ups))) (hm : len = ce.2.2.1) (a3 : ∀ j, j < ce.2.2.1 → sx_eok t ce.2.2.2.1 ce.2.2.2.2.1 ce.2.2.2.2.2 (rv_el dd ups j)) (a4 : (sx_cell.get q).2.2.2.1 = ce.2.2.2.1 ∧ (sx_cell.get q).2.2.2.2.1 = ce.2.2.2.2.1 ∧ (sx_cell.get q).2.2.2.2.2 = ce.2.2.2.2.2) (hw : sx_eok t ce.2.2.2.1 ce.2.2.2.2.1 ce.2.2.2.2.2 (.inl y)) (hy0 : ce.2.2.2.1 ≤ y.toInt ∧ y.toInt ≤ ce.2.2.2.2.1) (hbi : sx_b n i) (hx : sx_d σ i = (j : Int)) (hjl : j < len) (hbf : sx_b n f) (hy : sx_d σ f = y.toInt) (e1 : ∀ j2, rv_el dd u j2 = if j2 = j then .inl y else rv_el dd ups j2) (hh : sx_gst lv q i f n tb cs hp (fun n2 tb2 cs2 hp2 => ih rest ls r n2 tb2 cs2 hp2) = true) : sx_G l ρ d body nL rt rest lc s (h.set q (.inr (t, len, dd, u))) Q := by
  have hq143 : q < 143 := by rw [← hS.2.2.1.1]; exact (List.getElem?_eq_some_iff.mp a2).1
  have hlen : (sx_cell.get q).2.2.1 = len := by
    have := (hS.2.2.1.2 _ _ a2).2.1
    rw [this]
  obtain ⟨n2, tb2, cs2, hp2, σ2, g1, g2, g3, g4⟩ := sx_gst_ok (h2 := h.set q (.inr (t, len, dd, u))) (j := j) (y := y.toInt) hS hbi hbf hq143 (by rw [hlen]; exact hjl) (by rw [a4.1]; exact hy0.1) (by rw [a4.2.1]; exact hy0.2) hx hy (sx_I_as hS.2.2.1 a2 (fun j2 hj2 => by
    rw [a4.1, a4.2.1, a4.2.2, e1]
    by_cases e : j2 = j
    · rw [if_pos e]; exact hw
    · rw [if_neg e]; exact a3 j2 (by rw [← hm]; exact hj2))) (sx_fv_as a2) (sx_ga_ai a2 e1) hh
  exact hP _ hsf _ _ _ _ _ _ σ2 lc _ _ g1 (sx_ba_t hal g3 g2) g4 (sx_lm_m g2 g3 hls) (sx_vs_m g2 g3 hs)
theorem sx_stl {lv q t len j : Nat} {ce : sx_Ce} {i f : sx_F} {r : List sx_V} {s : List rv_A} {dd : rv_A} {ups u : List (Nat × rv_A)} {y : Int64} (hP : sx_P l ρ d m0 σ0 body nL rt Q ih) (hsf : sx_sf body rest) (hal : sx_ba m0 σ0 n σ) (hS : sx_St n tb cs hp σ h) (hls : sx_lm n σ ls lc) (hs : sx_vs n σ r s) (a2 : h[q]? = some (.inr (t, len, dd, ups))) (hm : len = ce.2.2.1) (a3 : ∀ j, j < ce.2.2.1 → sx_eok t ce.2.2.2.1 ce.2.2.2.2.1 ce.2.2.2.2.2 (rv_el dd ups j)) (a4 : (sx_cell.get q).2.2.2.1 = ce.2.2.2.1 ∧ (sx_cell.get q).2.2.2.2.1 = ce.2.2.2.2.1 ∧ (sx_cell.get q).2.2.2.2.2 = ce.2.2.2.2.2) (hw : sx_eok t ce.2.2.2.1 ce.2.2.2.2.1 ce.2.2.2.2.2 (rv_lng y)) (hy0 : ce.2.2.2.1 ≤ y.toInt ∧ y.toInt ≤ ce.2.2.2.2.1) (hbi : sx_b n i) (hx : sx_d σ i = (j : Int)) (hjl : j < len) (hbf : sx_b n f) (hy : sx_d σ f = y.toInt) (e1 : ∀ j2, rv_el dd u j2 = if j2 = j then rv_lng y else rv_el dd ups j2) (hh : sx_gst lv q i f n tb cs hp (fun n2 tb2 cs2 hp2 => ih rest ls r n2 tb2 cs2 hp2) = true) : sx_G l ρ d body nL rt rest lc s (h.set q (.inr (t, len, dd, u))) Q := by
  have hq143 : q < 143 := by rw [← hS.2.2.1.1]; exact (List.getElem?_eq_some_iff.mp a2).1
  have hlen : (sx_cell.get q).2.2.1 = len := by
    have := (hS.2.2.1.2 _ _ a2).2.1
    rw [this]
  obtain ⟨n2, tb2, cs2, hp2, σ2, g1, g2, g3, g4⟩ := sx_gst_ok (h2 := h.set q (.inr (t, len, dd, u))) (j := j) (y := y.toInt) hS hbi hbf hq143 (by rw [hlen]; exact hjl) (by rw [a4.1]; exact hy0.1) (by rw [a4.2.1]; exact hy0.2) hx hy (sx_I_as hS.2.2.1 a2 (fun j2 hj2 => by
    rw [a4.1, a4.2.1, a4.2.2, e1]
    by_cases e : j2 = j
    · rw [if_pos e]; exact hw
    · rw [if_neg e]; exact a3 j2 (by rw [← hm]; exact hj2))) (sx_fv_as a2) (sx_ga_ai a2 e1) hh
  exact hP _ hsf _ _ _ _ _ _ σ2 lc _ _ g1 (sx_ba_t hal g3 g2) g4 (sx_lm_m g2 g3 hls) (sx_vs_m g2 g3 hs)
theorem sx_ald_ok {lv p : Nat} {okT : Nat → Bool} (hT : (p = 0 ∧ okT = fun t => t.beq 0) ∨ (p = 1 ∧ okT = fun t => t.beq 1) ∨ (p = 2 ∧ okT = fun t => t.beq 2 || t.beq 3) ∨ (p = 3 ∧ okT = fun t => t.beq 4 || t.beq 5)) (hP : sx_P l ρ d m0 σ0 body nL rt Q ih) (hsf : sx_sf body rest) (hh : sx_ald lv p st n tb cs hp (fun r => ih rest ls r) = true) (hal : sx_ba m0 σ0 n σ) (hS : sx_St n tb cs hp σ h) (hls : sx_lm n σ ls lc) (hst : sx_vs n σ st sc) (hstp : ∀ (cl : sx_K) (ih' : rv_K), rv_step cl rv_nw rv_ct body nL rt ih' code lc sc h 0 0 = rv_ald okT h sc (fun r => ih' rest lc r h 0 0)) : sx_G l ρ d body nL rt code lc sc h Q := by
  unfold sx_ald at hh
  split at hh
  · rename_i i k0 kt r
    obtain ⟨ai, s0, rfl, ⟨hbi, x, rfl, hx⟩, hs0⟩ := sx_vs_c hst
    obtain ⟨ar, s, rfl, ⟨q, hq, rfl⟩, hs⟩ := sx_vs_c hs0
    have har := fun (t : Nat) (ho : sx_oka (sx_cell.get k0) (k0 :: kt) = true) (ht : (sx_cell.get k0).1 = 100 + t) => sx_arr hS.2.2.1 ho hq ht
    generalize sx_cell.get k0 = ce at hh har
    obtain ⟨t, tr, len, lo, hi, qs⟩ := ce
    replace hh : (sx_oka (t, tr, len, lo, hi, qs) (k0 :: kt) && sx_in lv tb cs 0 (Int.ofNat len - 1) i && _) = true := hh
    rw [Bool.and_eq_true, Bool.and_eq_true] at hh
    obtain ⟨⟨ho, hin⟩, hh⟩ := hh
    have hin := sx_in_ok hS.2.1 hin
    rw [← hx] at hin
    have hjl : x.toInt.toNat < len := by
      have h2 : x.toInt ≤ (len : Int) - 1 := hin.2
      omega
    rcases hT with ⟨rfl, rfl⟩ | ⟨rfl, rfl⟩ | ⟨rfl, rfl⟩ | ⟨rfl, rfl⟩
    · replace hh : (t.beq 100 && _) = true := hh
      rw [Bool.and_eq_true] at hh
      obtain ⟨ht, hh⟩ := hh
      have ht := Nat.eq_of_beq_eq_true ht
      obtain ⟨dd, ups, a1, a2, a3, a4⟩ := har 0 ho ht
      obtain ⟨z, hz, hz2⟩ := a3 _ hjl
      refine sx_G_of (code' := rest) (ls' := lc) (st' := .inl z :: s) (h' := h) (fun cl ih' => by rw [hstp, rv_ald_f a1 rfl hin.1 hin.2, hz]) ?_
      cases kt with
      | cons k1 kt =>
        replace hh : sx_fr lo hi n tb cs (fun f n' tb' cs' => ih rest ls (sx_vi f :: r) n' tb' cs' hp) = true := hh
        exact sx_fri hP hsf hal hS hls hs hz2 hh
      | nil =>
        have hqk : q = k0 := by
          rcases List.mem_cons.mp hq with e | e
          · exact e
          · cases e
        subst hqk
        replace hh : sx_fr lo hi n tb cs (fun f n' tb' cs' => sx_gld lv q i f n' tb' cs' hp (fun g n2 tb2 cs2 hp2 => ih rest ls (sx_vi g :: r) n2 tb2 cs2 hp2)) = true := hh
        exact sx_ldi hP hsf hal hS hls hs a2 ⟨a4.1, a4.2.1⟩ hbi (by rw [← hx, Int.toNat_of_nonneg hin.1]) hjl hz hz2 hh
    · replace hh : (t.beq 101 && _) = true := hh
      rw [Bool.and_eq_true] at hh
      obtain ⟨ht, hh⟩ := hh
      have ht := Nat.eq_of_beq_eq_true ht
      obtain ⟨dd, ups, a1, a2, a3, a4⟩ := har 1 ho ht
      obtain ⟨z, hz, hz2⟩ := a3 _ hjl
      refine sx_G_of (code' := rest) (ls' := lc) (st' := rv_lng z :: s) (h' := h) (fun cl ih' => by rw [hstp, rv_ald_f a1 rfl hin.1 hin.2, hz]) ?_
      cases kt with
      | cons k1 kt =>
        replace hh : sx_fr lo hi n tb cs (fun f n' tb' cs' => ih rest ls (sx_vl f :: r) n' tb' cs' hp) = true := hh
        exact sx_frl hP hsf hal hS hls hs hz2 hh
      | nil =>
        have hqk : q = k0 := by
          rcases List.mem_cons.mp hq with e | e
          · exact e
          · cases e
        subst hqk
        replace hh : sx_fr lo hi n tb cs (fun f n' tb' cs' => sx_gld lv q i f n' tb' cs' hp (fun g n2 tb2 cs2 hp2 => ih rest ls (sx_vl g :: r) n2 tb2 cs2 hp2)) = true := hh
        exact sx_ldl hP hsf hal hS hls hs a2 ⟨a4.1, a4.2.1⟩ hbi (by rw [← hx, Int.toNat_of_nonneg hin.1]) hjl hz hz2 hh
    · replace hh : ((t.beq 102 || t.beq 103) && _) = true := hh
      rw [Bool.and_eq_true] at hh
      obtain ⟨ht, hh⟩ := hh
      rcases sx_beq_or ht with ht | ht
      · obtain ⟨dd, ups, a1, a2, a3, a4⟩ := har 2 ho ht
        obtain ⟨z, hz, hz2⟩ := a3 _ hjl
        refine sx_G_of (code' := rest) (ls' := lc) (st' := .inl z :: s) (h' := h) (fun cl ih' => by rw [hstp, rv_ald_f a1 rfl hin.1 hin.2, hz]) ?_
        cases kt with
        | cons k1 kt =>
          replace hh : sx_fr lo hi n tb cs (fun f n' tb' cs' => ih rest ls (sx_vi f :: r) n' tb' cs' hp) = true := hh
          exact sx_fri hP hsf hal hS hls hs hz2 hh
        | nil =>
          have hqk : q = k0 := by
            rcases List.mem_cons.mp hq with e | e
            · exact e
            · cases e
          subst hqk
          exact sx_ldi hP hsf hal hS hls hs a2 ⟨a4.1, a4.2.1⟩ hbi (by rw [← hx, Int.toNat_of_nonneg hin.1]) hjl hz hz2 hh
      · obtain ⟨dd, ups, a1, a2, a3, a4⟩ := har 3 ho ht
        obtain ⟨z, hz, hz2⟩ := a3 _ hjl
        refine sx_G_of (code' := rest) (ls' := lc) (st' := .inl z :: s) (h' := h) (fun cl ih' => by rw [hstp, rv_ald_f a1 rfl hin.1 hin.2, hz]) ?_
        cases kt with
        | cons k1 kt =>
          replace hh : sx_fr lo hi n tb cs (fun f n' tb' cs' => ih rest ls (sx_vi f :: r) n' tb' cs' hp) = true := hh
          exact sx_fri hP hsf hal hS hls hs hz2 hh
        | nil =>
          have hqk : q = k0 := by
            rcases List.mem_cons.mp hq with e | e
            · exact e
            · cases e
          subst hqk
          exact sx_ldi hP hsf hal hS hls hs a2 ⟨a4.1, a4.2.1⟩ hbi (by rw [← hx, Int.toNat_of_nonneg hin.1]) hjl hz hz2 hh
    · replace hh : ((t.beq 104 || t.beq 105) && Bool.rec (motive := fun _ => Bool) (qs.all (fun q => sx_p (Int.ofNat q - lo) && sx_p (hi - Int.ofNat q) && Nat.blt q 143) && sx_one kt && sx_fr lo hi n tb cs (fun f n' tb' cs' => sx_gld lv k0 i f n' tb' cs' hp (fun g n2 tb2 cs2 hp2 => sx_rk g (fun c => ih rest ls (sx_vr [c] :: r) n2 tb2 cs2 hp2)))) (ih rest ls (sx_vr qs :: r) n tb cs hp) (sx_rfr k0)) = true := hh
      rw [Bool.and_eq_true] at hh
      obtain ⟨ht, hh⟩ := hh
      have fin : ∀ {t0 : Nat} {dd : rv_A} {ups : List (Nat × rv_A)} {z : Nat}, h[q]? = some (.inr (t0, len, dd, ups)) → ((sx_cell.get q).2.2.2.1 = lo ∧ (sx_cell.get q).2.2.2.2.1 = hi) → z ∈ qs → rv_el dd ups x.toInt.toNat = rv_ref z → sx_G l ρ d body nL rt rest lc (rv_ref z :: s) h Q := by
        intro t0 dd ups z a2 a4 hz hz2
        cases hc : sx_rfr k0 with
        | true =>
          rw [hc] at hh
          exact hP _ hsf _ _ _ _ _ _ σ lc _ h hh hal hS hls ⟨⟨z, hz, rfl⟩, hs⟩
        | false =>
          rw [hc] at hh
          replace hh : (qs.all (fun q => sx_p (Int.ofNat q - lo) && sx_p (hi - Int.ofNat q) && Nat.blt q 143) && sx_one kt && sx_fr lo hi n tb cs (fun f n' tb' cs' => sx_gld lv k0 i f n' tb' cs' hp (fun g n2 tb2 cs2 hp2 => sx_rk g (fun c => ih rest ls (sx_vr [c] :: r) n2 tb2 cs2 hp2)))) = true := hh
          rw [Bool.and_eq_true, Bool.and_eq_true] at hh
          obtain ⟨⟨hqs, hone⟩, hk⟩ := hh
          cases kt with
          | cons k1 kt => cases hone
          | nil =>
            have hqk : q = k0 := by
              rcases List.mem_cons.mp hq with e | e
              · exact e
              · cases e
            subst hqk
            have hzr := List.all_eq_true.mp hqs z hz
            rw [Bool.and_eq_true, Bool.and_eq_true] at hzr
            have z1 : 0 ≤ (z : Int) - lo := sx_p_t hzr.1.1
            have z2 : 0 ≤ hi - (z : Int) := sx_p_t hzr.1.2
            exact sx_ldr hP hsf hal hS hls hs a2 a4 hbi (by rw [← hx, Int.toNat_of_nonneg hin.1]) hjl hz2 (sx_blt hzr.2) ⟨by omega, by omega⟩ hk
      rcases sx_beq_or ht with ht | ht
      · obtain ⟨dd, ups, a1, a2, a3, a4⟩ := har 4 ho ht
        obtain ⟨z, hz, hz2⟩ := a3 _ hjl
        refine sx_G_of (code' := rest) (ls' := lc) (st' := rv_ref z :: s) (h' := h) (fun cl ih' => by rw [hstp, rv_ald_f a1 rfl hin.1 hin.2, hz2]) ?_
        exact fin a2 ⟨a4.1, a4.2.1⟩ hz hz2
      · obtain ⟨dd, ups, a1, a2, a3, a4⟩ := har 5 ho ht
        obtain ⟨z, hz, hz2⟩ := a3 _ hjl
        refine sx_G_of (code' := rest) (ls' := lc) (st' := rv_ref z :: s) (h' := h) (fun cl ih' => by rw [hstp, rv_ald_f a1 rfl hin.1 hin.2, hz2]) ?_
        exact fin a2 ⟨a4.1, a4.2.1⟩ hz hz2
  · cases hh
/-- behind a store into an array -/
theorem sx_asH {q t m : Nat} {ce : sx_Ce} {dd w : rv_A} {ups u : List (Nat × rv_A)} {j : Nat} (hS : sx_St n tb cs hp σ h) (a2 : h[q]? = some (.inr (t, m, dd, ups))) (hm : m = ce.2.2.1) (a3 : ∀ j, j < ce.2.2.1 → sx_eok t ce.2.2.2.1 ce.2.2.2.2.1 ce.2.2.2.2.2 (rv_el dd ups j)) (a4 : (sx_cell.get q).2.2.2.1 = ce.2.2.2.1 ∧ (sx_cell.get q).2.2.2.2.1 = ce.2.2.2.2.1 ∧ (sx_cell.get q).2.2.2.2.2 = ce.2.2.2.2.2) (hw : sx_eok t ce.2.2.2.1 ce.2.2.2.2.1 ce.2.2.2.2.2 w) (hu : ∀ j2, rv_el dd u j2 = if j2 = j then w else rv_el dd ups j2) (hG : sx_GG (fun c => sx_d σ (sx_hg hp c)) (sx_ga (h.set q (.inr (t, m, dd, u))))) : sx_St n tb cs hp σ (h.set q (.inr (t, m, dd, u))) := by
  refine ⟨hS.1, hS.2.1, sx_H_as hS.2.2 a2 (fun j2 hj2 => ?_) hG⟩
  rw [a4.1, a4.2.1, a4.2.2, hu]
  by_cases e : j2 = j
  · rw [if_pos e]; exact hw
  · rw [if_neg e]; exact a3 j2 (by rw [← hm]; exact hj2)
theorem sx_ast_ok {lv p : Nat} {okT : Nat → Bool} (hT : (p = 0 ∧ okT = fun t => t.beq 0) ∨ (p = 1 ∧ okT = fun t => t.beq 1) ∨ (p = 2 ∧ okT = fun t => t.beq 2 || t.beq 3)) (hP : sx_P l ρ d m0 σ0 body nL rt Q ih) (hsf : sx_sf body rest) (hh : sx_ast lv p st n tb cs hp (fun r => ih rest ls r) = true) (hal : sx_ba m0 σ0 n σ) (hS : sx_St n tb cs hp σ h) (hls : sx_lm n σ ls lc) (hst : sx_vs n σ st sc) (hstp : ∀ (cl : sx_K) (ih' : rv_K), rv_step cl rv_nw rv_ct body nL rt ih' code lc sc h 0 0 = rv_ast okT h sc (fun h' r => ih' rest lc r h' 0 0)) : sx_G l ρ d body nL rt code lc sc h Q := by
  unfold sx_ast at hh
  split at hh
  · rename_i v i k0 kt r
    obtain ⟨av, s00, rfl, hv, hs00⟩ := sx_vs_c hst
    obtain ⟨ai, s0, rfl, ⟨hbi, x, rfl, hx⟩, hs0⟩ := sx_vs_c hs00
    obtain ⟨ar, s, rfl, ⟨q, hq, rfl⟩, hs⟩ := sx_vs_c hs0
    have har := fun (t : Nat) (ho : sx_oka (sx_cell.get k0) (k0 :: kt) = true) (ht : (sx_cell.get k0).1 = 100 + t) => sx_arr hS.2.2.1 ho hq ht
    generalize sx_cell.get k0 = ce at hh har
    obtain ⟨t, tr, len, lo, hi, qs⟩ := ce
    replace hh : (sx_oka (t, tr, len, lo, hi, qs) (k0 :: kt) && sx_in lv tb cs 0 (Int.ofNat len - 1) i && _) = true := hh
    rw [Bool.and_eq_true, Bool.and_eq_true] at hh
    obtain ⟨⟨ho, hin⟩, hh⟩ := hh
    have hin := sx_in_ok hS.2.1 hin
    rw [← hx] at hin
    rcases hT with ⟨rfl, rfl⟩ | ⟨rfl, rfl⟩ | ⟨rfl, rfl⟩
    · rcases v with f | f | f | ks
      · replace hh : (t.beq 100 && sx_in lv tb cs lo hi f && _) = true := hh
        rw [Bool.and_eq_true, Bool.and_eq_true] at hh
        obtain ⟨⟨ht, hin2⟩, hh⟩ := hh
        have hin2 := sx_in_ok hS.2.1 hin2
        obtain ⟨hbf, y, rfl, hy⟩ := hv
        rw [← hy] at hin2
        obtain ⟨dd, ups, a1, a2, a3, a4⟩ := har 0 ho (Nat.eq_of_beq_eq_true ht)
        obtain ⟨u, e1, e2⟩ := rv_ast_f (okT := fun t => t.beq 0) (r := s) (v := .inl y) (w := .inl y) a1 rfl hin.1 hin.2 rfl
        have hga := sx_ga_ai a2 e1
        cases kt with
        | cons k1 kt =>
          replace hh : ((k0 :: k1 :: kt).all sx_gfr && ih rest ls r n tb cs hp) = true := hh
          rw [Bool.and_eq_true] at hh
          have hS' := sx_asH (ce := (t, tr, len, lo, hi, qs)) hS a2 rfl a3 a4 (w := .inl y) ⟨y, rfl, hin2.1, hin2.2⟩ e1 (sx_GG_fr (List.all_eq_true.mp hh.1 q hq) (sx_ga_as a2) hS.2.2.2.2.2.2)
          exact sx_G_of (code' := rest) (ls' := lc) (st' := s) (fun cl ih' => by rw [hstp]; exact e2 _) (hP _ hsf _ _ _ _ _ _ σ lc _ _ hh.2 hal hS' hls hs)
        | nil =>
          have hqk : q = k0 := by
            rcases List.mem_cons.mp hq with e | e
            · exact e
            · cases e
          subst hqk
          have hjl : x.toInt.toNat < len := by
            have h2 : x.toInt ≤ (len : Int) - 1 := hin.2
            omega
          exact sx_G_of (code' := rest) (ls' := lc) (st' := s) (fun cl ih' => by rw [hstp]; exact e2 _) (sx_sti (ce := (t, tr, len, lo, hi, qs)) hP hsf hal hS hls hs a2 rfl a3 a4 ⟨y, rfl, hin2.1, hin2.2⟩ hin2 hbi (by rw [← hx, Int.toNat_of_nonneg hin.1]) hjl hbf hy.symm e1 hh)
      · cases hh
      · cases hh
      · cases hh
    · rcases v with f | f | f | ks
      · cases hh
      · replace hh : (t.beq 101 && sx_in lv tb cs lo hi f && _) = true := hh
        rw [Bool.and_eq_true, Bool.and_eq_true] at hh
        obtain ⟨⟨ht, hin2⟩, hh⟩ := hh
        have hin2 := sx_in_ok hS.2.1 hin2
        obtain ⟨hbf, y, rfl, hy⟩ := hv
        rw [← hy] at hin2
        obtain ⟨dd, ups, a1, a2, a3, a4⟩ := har 1 ho (Nat.eq_of_beq_eq_true ht)
        obtain ⟨u, e1, e2⟩ := rv_ast_f (okT := fun t => t.beq 1) (r := s) (v := rv_lng y) (w := rv_lng y) a1 rfl hin.1 hin.2 rfl
        cases kt with
        | cons k1 kt =>
          replace hh : ((k0 :: k1 :: kt).all sx_gfr && ih rest ls r n tb cs hp) = true := hh
          rw [Bool.and_eq_true] at hh
          have hS' := sx_asH (ce := (t, tr, len, lo, hi, qs)) hS a2 rfl a3 a4 (w := rv_lng y) ⟨y, rfl, hin2.1, hin2.2⟩ e1 (sx_GG_fr (List.all_eq_true.mp hh.1 q hq) (sx_ga_as a2) hS.2.2.2.2.2.2)
          exact sx_G_of (code' := rest) (ls' := lc) (st' := s) (fun cl ih' => by rw [hstp]; exact e2 _) (hP _ hsf _ _ _ _ _ _ σ lc _ _ hh.2 hal hS' hls hs)
        | nil =>
          have hqk : q = k0 := by
            rcases List.mem_cons.mp hq with e | e
            · exact e
            · cases e
          subst hqk
          have hjl : x.toInt.toNat < len := by
            have h2 : x.toInt ≤ (len : Int) - 1 := hin.2
            omega
          exact sx_G_of (code' := rest) (ls' := lc) (st' := s) (fun cl ih' => by rw [hstp]; exact e2 _) (sx_stl (ce := (t, tr, len, lo, hi, qs)) hP hsf hal hS hls hs a2 rfl a3 a4 ⟨y, rfl, hin2.1, hin2.2⟩ hin2 hbi (by rw [← hx, Int.toNat_of_nonneg hin.1]) hjl hbf hy.symm e1 hh)
      · cases hh
      · cases hh
    · rcases v with f | f | f | ks
      · replace hh : ((t.beq 102 && sx_p (-128 - lo) && sx_p (hi - 127) || t.beq 103 && sx_in lv tb cs 0 1 f && sx_in lv tb cs lo hi f) && Bool.rec (motive := fun _ => Bool) (sx_one kt && sx_fr lo hi n tb cs (fun g n' tb' cs' => sx_gst lv k0 i g n' tb' cs' hp (fun n2 tb2 cs2 hp2 => ih rest ls r n2 tb2 cs2 hp2))) (ih rest ls r n tb cs hp) ((k0 :: kt).all sx_gfr)) = true := hh
        rw [Bool.and_eq_true, Bool.or_eq_true] at hh
        obtain ⟨hh, hk⟩ := hh
        have hjl : x.toInt.toNat < len := by
          have h2 : x.toInt ≤ (len : Int) - 1 := hin.2
          omega
        have fin : ∀ {t0 : Nat} {w : Int32} {dd : rv_A} {ups u : List (Nat × rv_A)}, h[q]? = some (.inr (t0, len, dd, ups)) → (∀ j, j < len → sx_eok t0 lo hi qs (rv_el dd ups j)) → ((sx_cell.get q).2.2.2.1 = lo ∧ (sx_cell.get q).2.2.2.2.1 = hi ∧ (sx_cell.get q).2.2.2.2.2 = qs) → sx_eok t0 lo hi qs (.inl w) → lo ≤ w.toInt ∧ w.toInt ≤ hi → (∀ j2, rv_el dd u j2 = if j2 = x.toInt.toNat then .inl w else rv_el dd ups j2) → sx_G l ρ d body nL rt rest lc s (h.set q (.inr (t0, len, dd, u))) Q := by
          intro t0 w dd ups u a2 a3 a4 hw hwr e1
          cases hgf : (k0 :: kt).all sx_gfr with
          | true =>
            rw [hgf] at hk
            have hS' := sx_asH (ce := (t, tr, len, lo, hi, qs)) hS a2 rfl a3 a4 (w := .inl w) hw e1 (sx_GG_fr (List.all_eq_true.mp hgf q hq) (sx_ga_as a2) hS.2.2.2.2.2.2)
            exact hP _ hsf _ _ _ _ _ _ σ lc _ _ hk hal hS' hls hs
          | false =>
            rw [hgf] at hk
            replace hk : (sx_one kt && sx_fr lo hi n tb cs (fun g n' tb' cs' => sx_gst lv k0 i g n' tb' cs' hp (fun n2 tb2 cs2 hp2 => ih rest ls r n2 tb2 cs2 hp2))) = true := hk
            rw [Bool.and_eq_true] at hk
            cases kt with
            | cons k1 kt => cases hk.1
            | nil =>
              have hqk : q = k0 := by
                rcases List.mem_cons.mp hq with e | e
                · exact e
                · cases e
              subst hqk
              have h32 := sx_r32 w
              obtain ⟨r0, n1, tb1, cs1, σ1, k1, k2, k3, k4, k5, k6⟩ := sx_fr_ok hS.2.1 (sx_wide_ok hS.1) hwr ⟨by omega, by omega⟩ hk.2
              exact sx_sti (ce := (t, tr, len, lo, hi, qs)) hP hsf (sx_ba_t hal k3 k4) (sx_St_m hS k2 k3 k4) (sx_lm_m k4 k3 hls) (sx_vs_m k4 k3 hs) a2 rfl a3 a4 hw hwr (sx_b_m hbi k4) (by rw [← sx_d_al k3 hbi, ← hx, Int.toNat_of_nonneg hin.1]) hjl k5 k6.symm e1 k1
        obtain ⟨hbf, y, rfl, hy⟩ := hv
        rcases hh with hh | hh
        · rw [Bool.and_eq_true, Bool.and_eq_true] at hh
          obtain ⟨⟨ht, g1⟩, g2⟩ := hh
          have g1 := sx_p_t g1
          have g2 := sx_p_t g2
          have g3 := sx_byt y
          obtain ⟨dd, ups, a1, a2, a3, a4⟩ := har 2 ho (Nat.eq_of_beq_eq_true ht)
          obtain ⟨u, e1, e2⟩ := rv_ast_f (okT := fun t => t.beq 2 || t.beq 3) (r := s) (v := .inl y) (w := .inl (vp_nar .byte y)) a1 rfl hin.1 hin.2 rfl
          exact sx_G_of (code' := rest) (ls' := lc) (st' := s) (fun cl ih' => by rw [hstp]; exact e2 _) (fin a2 a3 a4 ⟨_, rfl, by show lo ≤ _; omega, by show _ ≤ hi; omega⟩ ⟨by omega, by omega⟩ e1)
        · rw [Bool.and_eq_true, Bool.and_eq_true] at hh
          obtain ⟨⟨ht, g1⟩, g2⟩ := hh
          have g1 := sx_in_ok hS.2.1 g1
          have g2 := sx_in_ok hS.2.1 g2
          rw [← hy] at g1 g2
          obtain ⟨dd, ups, a1, a2, a3, a4⟩ := har 3 ho (Nat.eq_of_beq_eq_true ht)
          have hy01 : y = 0 ∨ y = 1 := by
            rcases (show y.toInt = 0 ∨ y.toInt = 1 by omega) with e | e
            · exact Or.inl (Int32.toInt_inj.mp (by rw [e]; decide))
            · exact Or.inr (Int32.toInt_inj.mp (by rw [e]; decide))
          obtain ⟨u, e1, e2⟩ := rv_ast_f (okT := fun t => t.beq 2 || t.beq 3) (r := s) (v := .inl y) (w := .inl y) a1 rfl hin.1 hin.2 (by show (if y = 0 ∨ y = 1 then some (.inl y : rv_A) else none) = _; rw [if_pos hy01])
          exact sx_G_of (code' := rest) (ls' := lc) (st' := s) (fun cl ih' => by rw [hstp]; exact e2 _) (fin a2 a3 a4 ⟨y, rfl, g2.1, g2.2⟩ g2 e1)
      · cases hh
      · cases hh
      · cases hh
  · cases hh
theorem sx_asr_ok {lv : Nat} (hP : sx_P l ρ d m0 σ0 body nL rt Q ih) (hsf : sx_sf body rest) (hh : sx_ast lv 3 st n tb cs hp (fun r => ih rest ls r) = true) (hal : sx_ba m0 σ0 n σ) (hS : sx_St n tb cs hp σ h) (hls : sx_lm n σ ls lc) (hst : sx_vs n σ st sc) (hstp : ∀ (cl : sx_K) (ih' : rv_K), rv_step cl rv_nw rv_ct body nL rt ih' code lc sc h 0 0 = rv_asr rv_ct h sc (fun h' r => ih' rest lc r h' 0 0)) : sx_G l ρ d body nL rt code lc sc h Q := by
  unfold sx_ast at hh
  split at hh
  · rename_i v i k0 kt r
    obtain ⟨av, s00, rfl, hv, hs00⟩ := sx_vs_c hst
    obtain ⟨ai, s0, rfl, ⟨hbi, x, rfl, hx⟩, hs0⟩ := sx_vs_c hs00
    obtain ⟨ar, s, rfl, ⟨q, hq, rfl⟩, hs⟩ := sx_vs_c hs0
    have har := fun (t : Nat) (ho : sx_oka (sx_cell.get k0) (k0 :: kt) = true) (ht : (sx_cell.get k0).1 = 100 + t) => sx_arr hS.2.2.1 ho hq ht
    generalize sx_cell.get k0 = ce at hh har
    obtain ⟨t, tr, len, lo, hi, qs⟩ := ce
    replace hh : (sx_oka (t, tr, len, lo, hi, qs) (k0 :: kt) && sx_in lv tb cs 0 (Int.ofNat len - 1) i && _) = true := hh
    rw [Bool.and_eq_true, Bool.and_eq_true] at hh
    obtain ⟨⟨ho, hin⟩, hh⟩ := hh
    have hin := sx_in_ok hS.2.1 hin
    rw [← hx] at hin
    rcases v with f | f | f | ks
    · cases hh
    · cases hh
    · cases hh
    · replace hh : ((t.beq 104 && ks.all (fun q => Nat.blt q 143 && (sx_cell.get q).1.beq 7) || t.beq 105 && ks.all (fun q => Nat.blt q 143 && (sx_cell.get q).1.beq 8)) && sx_sub ks qs && (k0 :: kt).all sx_gfr && ih rest ls r n tb cs hp) = true := hh
      rw [Bool.and_eq_true, Bool.and_eq_true, Bool.and_eq_true, Bool.or_eq_true] at hh
      obtain ⟨⟨⟨hh, hsb⟩, hgf⟩, hk⟩ := hh
      obtain ⟨qv, hqv, rfl⟩ := hv
      have hobj : ∀ c, (Nat.blt qv 143 && (sx_cell.get qv).1.beq c) = true → c < 100 → ∃ fv, rv_hget h qv = some (.inl (c, fv)) := by
        intro c hc hc1
        rw [Bool.and_eq_true] at hc
        obtain ⟨cc, hc2, hc3, hc4⟩ := sx_I_at hS.2.2.1 (sx_blt hc.1)
        have hcq := Nat.eq_of_beq_eq_true hc.2
        rcases cc with ⟨ci, fs⟩ | ⟨t2, m, dd, ups⟩
        · obtain ⟨k1, -⟩ := hc4
          rw [← k1, hcq] at hc2
          exact ⟨fs, hc2⟩
        · obtain ⟨k1, -⟩ := hc4
          omega
      rcases hh with hh | hh
      · rw [Bool.and_eq_true] at hh
        obtain ⟨fv, hfv⟩ := hobj 7 (List.all_eq_true.mp hh.2 qv hqv) (by decide)
        obtain ⟨dd, ups, a1, a2, a3, a4⟩ := har 4 ho (Nat.eq_of_beq_eq_true hh.1)
        obtain ⟨u, e1, e2⟩ := rv_asr_f (ct := rv_ct) (r := s) a1 (Or.inl rfl) hin.1 hin.2 hfv
        have hS' := sx_asH (ce := (t, tr, len, lo, hi, qs)) hS a2 rfl a3 a4 (w := rv_ref qv) ⟨qv, sx_sub_i hsb hqv, rfl⟩ e1 (sx_GG_fr (List.all_eq_true.mp hgf q hq) (sx_ga_as a2) hS.2.2.2.2.2.2)
        exact sx_G_of (code' := rest) (ls' := lc) (st' := s) (fun cl ih' => by rw [hstp]; exact e2 _) (hP _ hsf _ _ _ _ _ _ σ lc _ _ hk hal hS' hls hs)
      · rw [Bool.and_eq_true] at hh
        obtain ⟨fv, hfv⟩ := hobj 8 (List.all_eq_true.mp hh.2 qv hqv) (by decide)
        obtain ⟨dd, ups, a1, a2, a3, a4⟩ := har 5 ho (Nat.eq_of_beq_eq_true hh.1)
        obtain ⟨u, e1, e2⟩ := rv_asr_f (ct := rv_ct) (r := s) a1 (Or.inr rfl) hin.1 hin.2 hfv
        have hS' := sx_asH (ce := (t, tr, len, lo, hi, qs)) hS a2 rfl a3 a4 (w := rv_ref qv) ⟨qv, sx_sub_i hsb hqv, rfl⟩ e1 (sx_GG_fr (List.all_eq_true.mp hgf q hq) (sx_ga_as a2) hS.2.2.2.2.2.2)
        exact sx_G_of (code' := rest) (ls' := lc) (st' := s) (fun cl ih' => by rw [hstp]; exact e2 _) (hP _ hsf _ _ _ _ _ _ σ lc _ _ hk hal hS' hls hs)
  · cases hh
theorem sx_cpy_ok {lv : Nat} (hP : sx_P l ρ d m0 σ0 body nL rt Q ih) (hsf : sx_sf body rest) (hh : sx_cpy lv st tb cs (fun r => ih rest ls r n tb cs hp) = true) (hal : sx_ba m0 σ0 n σ) (hS : sx_St n tb cs hp σ h) (hls : sx_lm n σ ls lc) (hst : sx_vs n σ st sc) (hstp : ∀ (cl : sx_K) (ih' : rv_K), rv_step cl rv_nw rv_ct body nL rt ih' code lc sc h 0 0 = rv_cpy h sc (fun h' r => ih' rest lc r h' 0 0)) : sx_G l ρ d body nL rt code lc sc h Q := by
  unfold sx_cpy at hh
  split at hh
  · rename_i m dp k1 kt1 sp k0 kt0 r
    obtain ⟨a1, s1, rfl, ⟨bm, xm, rfl, em⟩, hs1⟩ := sx_vs_c hst
    obtain ⟨a2, s2, rfl, ⟨bd, xd, rfl, ed⟩, hs2⟩ := sx_vs_c hs1
    obtain ⟨a3, s3, rfl, ⟨q1, hq1, rfl⟩, hs3⟩ := sx_vs_c hs2
    obtain ⟨a4, s4, rfl, ⟨bs, xs, rfl, es⟩, hs4⟩ := sx_vs_c hs3
    obtain ⟨a5, s, rfl, ⟨q0, hq0, rfl⟩, hs⟩ := sx_vs_c hs4
    have har0 := fun (t : Nat) (ho : sx_oka (sx_cell.get k0) (k0 :: kt0) = true) (ht : (sx_cell.get k0).1 = 100 + t) => sx_arr hS.2.2.1 ho hq0 ht
    have har1 := fun (t : Nat) (ho : sx_oka (sx_cell.get k1) (k1 :: kt1) = true) (ht : (sx_cell.get k1).1 = 100 + t) => sx_arr hS.2.2.1 ho hq1 ht
    generalize sx_cell.get k0 = ce0 at hh har0
    generalize sx_cell.get k1 = ce1 at hh har1
    obtain ⟨t0, tr0, l0, lo0, hi0, qs0⟩ := ce0
    obtain ⟨t1, tr1, l1, lo, hi, qs1⟩ := ce1
    replace hh : (sx_oka (t0, tr0, l0, lo0, hi0, qs0) (k0 :: kt0) && sx_oka (t1, tr1, l1, lo, hi, qs1) (k1 :: kt1) && t0.beq 101 && t1.beq 101 && sx_p (-9223372036854775808 - lo) && sx_p (hi - 9223372036854775807) && sx_ge lv sx_sr tb cs m && sx_ge lv sx_sr tb cs dp && sx_ge lv sx_sr tb cs sp && sx_ad 1 sp m (fun e => sx_in lv tb cs 0 (Int.ofNat l0) e) && sx_ad 1 dp m (fun e => sx_in lv tb cs 0 (Int.ofNat l1) e) && Nat.ble (sx_wd r) 8 && (k1 :: kt1).all sx_gfr && ih rest ls r n tb cs hp) = true := hh
    simp only [Bool.and_eq_true] at hh
    obtain ⟨⟨⟨⟨⟨⟨⟨⟨⟨⟨⟨⟨⟨c1, c2⟩, c3⟩, c4⟩, c5⟩, c6⟩, c7⟩, c8⟩, c9⟩, c10⟩, c11⟩, c12⟩, c13⟩, hk⟩ := hh
    obtain ⟨g1, u1, v1, -⟩ := sx_ad_ok (β := Bool) 1 sp m
    obtain ⟨g2, u2, v2, -⟩ := sx_ad_ok (β := Bool) 1 dp m
    rw [u1] at c10
    rw [u2] at c11
    have c10 := (sx_in_ok hS.2.1 c10).2
    have c11 := (sx_in_ok hS.2.1 c11).2
    rw [v1] at c10
    rw [v2] at c11
    have c7 := sx_ge_ok hS.2.1 c7
    have c8 := sx_ge_ok hS.2.1 c8
    have c9 := sx_ge_ok hS.2.1 c9
    have c5 := sx_p_t c5
    have c6 := sx_p_t c6
    obtain ⟨dd0, ups0, p1, p2, p3, p4⟩ := har0 1 c1 (Nat.eq_of_beq_eq_true c3)
    obtain ⟨dd1, ups1, w1, w2, w3, w4⟩ := har1 1 c2 (Nat.eq_of_beq_eq_true c4)
    have hwd : rv_wd s ≤ 8 := by rw [sx_wd_v hs]; exact Nat.le_of_ble_eq_true c12
    refine sx_G_of (code' := rest) (ls' := lc) (st' := s) (fun cl ih' => by
      rw [hstp]
      exact rv_cpy_f p1 w1 (by omega) (by omega) (by omega) (by show xs.toInt + xm.toInt ≤ (l0 : Int); have c10 : _ ≤ (l0 : Int) := c10; omega) (by show xd.toInt + xm.toInt ≤ (l1 : Int); have c11 : _ ≤ (l1 : Int) := c11; omega) hwd) (hP _ hsf _ _ _ _ _ _ σ lc _ _ hk hal ⟨hS.1, hS.2.1, sx_H_as hS.2.2 w2 (fun j hj => ?_) (sx_GG_fr (List.all_eq_true.mp c13 q1 hq1) (sx_ga_as w2) hS.2.2.2.2.2.2)⟩ hls hs)
    rw [w4.1, w4.2.1, w4.2.2, rv_el_cp]
    have hlong : ∀ z : Int64, lo ≤ z.toInt ∧ z.toInt ≤ hi := fun z => by have := sx_r64 z; omega
    by_cases hc : xd.toNatClampNeg ≤ j ∧ j - xd.toNatClampNeg ∈ List.range xm.toNatClampNeg
    · rw [if_pos hc]
      have hj2 : xs.toNatClampNeg + (j - xd.toNatClampNeg) < l0 := by
        have h9 := List.mem_range.mp hc.2
        have h9 : j - xd.toInt.toNat < xm.toInt.toNat := h9
        have c10 : sx_d σ sp + 1 * sx_d σ m ≤ (l0 : Int) := c10
        show xs.toInt.toNat + (j - xd.toInt.toNat) < l0
        omega
      obtain ⟨z, hz, -⟩ := p3 _ hj2
      exact ⟨z, hz, (hlong z).1, (hlong z).2⟩
    · rw [if_neg hc]
      exact w3 j hj
  · cases hh
end SXZ
