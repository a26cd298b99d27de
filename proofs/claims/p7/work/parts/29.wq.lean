/-! THE WALK IS RIGHT: every instruction -/
section SXA
variable {l : Launch} {ρ : rv_ρ} {d : Nat} {m0 : Nat} {σ0 : Nat → Int} {body : List rv_I} {nL rt : Nat} {Q : rv_O → Prop}
theorem sx_vs_rev {n : Nat} {σ : Nat → Int} : ∀ {t : List sx_V} {s : List rv_A} {t2 : List sx_V} {s2 : List rv_A}, sx_vs n σ t s → sx_vs n σ t2 s2 → sx_vs n σ (t.reverse ++ t2) (s.reverse ++ s2) := by
  intro t
  induction t with
  | nil => intro s t2 s2 h h2; rw [sx_vs_n h]; exact h2
  | cons v t ih =>
    intro s t2 s2 h h2
    obtain ⟨a, s, rfl, h1, h3⟩ := sx_vs_c h
    rw [List.reverse_cons, List.reverse_cons, List.append_assoc, List.append_assoc]
    exact ih h3 ⟨h1, h2⟩
theorem sx_arg_i {n : Nat} {σ : Nat → Int} : ∀ {m : Nat} {acc st : List sx_V} {sacc sc : List rv_A} {k : List sx_V → List sx_V → Bool}, sx_arg m acc st k = true → sx_vs n σ acc sacc → sx_vs n σ st sc → ∃ as r ac s, k as r = true ∧ sx_vs n σ as ac ∧ sx_vs n σ r s ∧ ∃ ac0, ac = ac0 ++ sacc ∧ sc = ac0.reverse ++ s ∧ ac0.length = m := by
  intro m
  induction m with
  | zero => intro acc st sacc sc k hh ha hs; exact ⟨acc, st, sacc, sc, hh, ha, hs, [], rfl, rfl, rfl⟩
  | succ m ih =>
    intro acc st sacc sc k hh ha hs
    cases st with
    | nil => cases hh
    | cons v r =>
      replace hh : sx_arg m (v :: acc) r k = true := hh
      obtain ⟨a, s, rfl, hv, hs2⟩ := sx_vs_c hs
      obtain ⟨as, r2, ac, s2, hk, h1, h2, ac0, e1, e2, e3⟩ := ih (sacc := a :: sacc) hh ⟨hv, ha⟩ hs2
      refine ⟨as, r2, ac, s2, hk, h1, h2, ac0 ++ [a], by rw [e1, List.append_assoc]; rfl, ?_, by rw [List.length_append, e3]; rfl⟩
      rw [e2, List.reverse_append]
      rfl
theorem sx_tsw_ok {x : sx_F} {n : Nat} {tb : sx_T} {cs : List sx_F} {hp : sx_Hp} {σ : Nat → Int} {k : Nat → sx_Kx} {dflt : Nat} (h : sx_S sx_sr n tb cs σ) (hb : sx_b n x) : ∀ {tt : List Nat} {j : Int}, sx_tsw x n tb cs hp k dflt tt j = true → j ≤ sx_d σ x → ∃ q tb' cs', k q n tb' cs' hp = true ∧ sx_S sx_sr n tb' cs' σ ∧ ((q = dflt ∧ tt.length ≤ (sx_d σ x - j).toNat) ∨ tt[(sx_d σ x - j).toNat]? = some q) := by
  intro tt
  induction tt with
  | nil =>
    intro j hh hj
    replace hh : sx_ad (-1) x (j, []) (fun g => sx_cd sx_sr tb cs .ge g (fun tb' cs' => k dflt n tb' cs' hp)) = true := hh
    obtain ⟨g, g1, g2, g3⟩ := sx_ad_ok (β := Bool) (-1) x (j, [])
    rw [g1] at hh
    have dj : sx_d σ ((j, []) : sx_F) = j := by simp [sx_d, sx_dl]
    obtain ⟨tb', cs', hk, hS⟩ := sx_cd_ok (c := .ge) h (g3 n hb (fun q hq => by cases hq)) (show 0 ≤ sx_d σ g by rw [g2, dj]; omega) hh
    exact ⟨dflt, tb', cs', hk, hS, Or.inl ⟨rfl, Nat.zero_le _⟩⟩
  | cons t0 t ih =>
    intro j hh hj
    replace hh : (sx_ad (-1) x (j, []) (fun g => sx_cd sx_sr tb cs .eq g (fun tb' cs' => k t0 n tb' cs' hp)) && sx_fI (j + 1) (fun j => sx_tsw x n tb cs hp k dflt t j)) = true := hh
    rw [Bool.and_eq_true] at hh
    obtain ⟨h1, h2⟩ := hh
    obtain ⟨g, g1, g2, g3⟩ := sx_ad_ok (β := Bool) (-1) x (j, [])
    rw [g1] at h1
    have dj : sx_d σ ((j, []) : sx_F) = j := by simp [sx_d, sx_dl]
    by_cases e : sx_d σ x = j
    · obtain ⟨tb', cs', hk, hS⟩ := sx_cd_ok (c := .eq) h (g3 n hb (fun q hq => by cases hq)) (show sx_d σ g = 0 by rw [g2, dj]; omega) h1
      refine ⟨t0, tb', cs', hk, hS, Or.inr ?_⟩
      rw [show (sx_d σ x - j).toNat = 0 by omega]
      rfl
    · rw [sx_fI_eq] at h2
      obtain ⟨q, tb', cs', hk, hS, hq⟩ := ih h2 (by omega)
      refine ⟨q, tb', cs', hk, hS, ?_⟩
      rw [show (sx_d σ x - j).toNat = (sx_d σ x - (j + 1)).toNat + 1 by omega]
      rcases hq with ⟨hq1, hq2⟩ | hq
      · exact Or.inl ⟨hq1, by rw [List.length_cons]; omega⟩
      · exact Or.inr (by simpa using hq)
theorem sx_om_l {n : Nat} {σ : Nat → Int} {rv : Option sx_V} {o : Option rv_A} {t : List sx_V} {s : List rv_A} (h : sx_om n σ rv o) (hs : sx_vs n σ t s) : sx_vs n σ (rv.toList ++ t) (o.toList ++ s) := by
  cases rv with
  | none => cases o with
    | none => exact hs
    | some a => cases h
  | some v => cases o with
    | none => cases h
    | some a => exact ⟨h, hs⟩
theorem sx_rcv_i {n : Nat} {σ : Nat → Int} {b : Nat} {as : List sx_V} {ac : List rv_A} {h : List rv_C} (hI : sx_I h) (hh : sx_rcv b as = true) (ha : sx_vs n σ as ac) : rv_rc2 b h ac = true := by
  unfold sx_rcv at hh
  split at hh
  · rename_i ks t
    obtain ⟨a, s, rfl, ⟨q, hq, rfl⟩, -⟩ := sx_vs_c ha
    rw [Bool.and_eq_true] at hh
    obtain ⟨hb9, hh⟩ := hh
    have hb9 := sx_blt hb9
    unfold rv_rc2
    cases hb : b.beq 99 with
    | true =>
      rw [hb] at hh
      have h1 := List.all_eq_true.mp hh q hq
      exact h1
    | false =>
      rw [hb] at hh
      have h1 := List.all_eq_true.mp hh q hq
      rw [Bool.and_eq_true] at h1
      obtain ⟨c, hc1, hc2, hc3⟩ := sx_I_at hI (sx_blt h1.1)
      have hcq := Nat.eq_of_beq_eq_true h1.2
      show rv_rcv b h (rv_ref q :: s) = true
      show (match rv_hn h q with
        | some (.inl (cj, _)) => cj.beq b
        | _ => false) = true
      rw [rv_hn_eq, hc1]
      rcases c with ⟨ci, fs⟩ | ⟨t2, m, dd, ups⟩
      · obtain ⟨k1, -⟩ := hc3
        show ci.beq b = true
        rw [← k1, hcq]
        exact Nat.beq_refl b
      · obtain ⟨k1, -⟩ := hc3
        omega
  · cases hh
/-- a call -/
theorem sx_inv_ok {cal : sx_Kc} {ih : sx_Kw} {rest code : List rv_I} {ls : sx_Ls} {st : List sx_V} {n : Nat} {tb : sx_T} {cs : List sx_F} {hp : sx_Hp} {σ : Nat → Int} {lc : rv_L} {sc : List rv_A} {h : List rv_C} {ok : List sx_V → Bool} {okr : List rv_A → Bool} {mi m : Nat} (hP : sx_P l ρ d m0 σ0 body nL rt Q ih) (hsf : sx_sf body rest) (hC : sx_Pc l ρ d cal) (hok : ∀ as ac, ok as = true → sx_vs n σ as ac → okr ac = true) (hh : sx_inv cal ok mi m st (fun r => ih rest ls r) n tb cs hp = true) (hal : sx_ba m0 σ0 n σ) (hS : sx_St n tb cs hp σ h) (hls : sx_lm n σ ls lc) (hst : sx_vs n σ st sc) (hstp : ∀ (cl : sx_K) (ih' : rv_K), rv_step cl rv_nw rv_ct body nL rt ih' code lc sc h 0 0 = rv_inv cl okr mi m h sc 0 0 (fun r h' ce' sl' => ih' rest lc r h' ce' sl')) : sx_G l ρ d body nL rt code lc sc h Q := by
  unfold sx_inv at hh
  obtain ⟨as, r, ac, s, hk, h1, h2, ac0, e1, e2, e3⟩ := sx_arg_i (sacc := []) hh True.intro hst
  rw [List.append_nil] at e1
  subst e1
  rw [Bool.and_eq_true, Bool.and_eq_true] at hk
  obtain ⟨⟨k1, k2⟩, k3⟩ := hk
  refine sx_G_inv hstp e2 e3 (by rw [sx_wd_v h2]; exact Nat.le_of_ble_eq_true k1) (hok _ _ k2 h1) (hC mi as _ n tb cs hp σ ac h k3 hS h1) (fun o ho => ?_)
  obtain ⟨rv, n', tb', cs', hp', σ', g1, g2, g3, g4, g5⟩ := ho
  exact hP _ hsf _ _ _ _ _ _ σ' lc _ _ g1 (sx_ba_t hal g2 g3) g4 (sx_lm_m g3 g2 hls) (sx_om_l g5 (sx_vs_m g3 g2 h2))
set_option maxHeartbeats 8000000 in
theorem sx_stp_ok {lv : Nat} {cal : sx_Kc} {ret : sx_Kr} {ih : sx_Kw} (hP : sx_P l ρ d m0 σ0 body nL rt Q ih) (hC : sx_Pc l ρ d cal) (hRt : sx_Pr m0 σ0 Q ret) : sx_P l ρ d m0 σ0 body nL rt Q (sx_stp lv cal ret body nL rt ih) := by
  intro code hsf0 ls st n tb cs hp σ lc sc h hh hal hS hls hst
  cases code with
  | nil => cases hh
  | cons e0 rest =>
    obtain ⟨pc, i, len, a, b, d0, ts⟩ := e0
    have hsf := sx_sf_c hsf0
    have hw := sx_wide_ok hS.1
    cases i with
    | iconst x =>
      replace hh : (Nat.blt a 4294967296 && ih rest ls (sx_vi (sx_w32 a, []) :: st) n tb cs hp) = true := hh
      rw [Bool.and_eq_true] at hh
      refine sx_G_of (code' := rest) (ls' := lc) (st' := .inl (Int32.ofNat a) :: sc) (h' := h) (fun _ _ => rfl) ?_
      exact hP _ hsf _ _ _ _ _ _ σ lc _ h hh.2 hal hS hls ⟨⟨sx_b_c n _, _, rfl, by rw [sx_w32_ok hh.1]; exact (sx_d_c σ _).symm⟩, hst⟩
    | bipush x =>
      replace hh : (Nat.blt a 4294967296 && ih rest ls (sx_vi (sx_w32 a, []) :: st) n tb cs hp) = true := hh
      rw [Bool.and_eq_true] at hh
      refine sx_G_of (code' := rest) (ls' := lc) (st' := .inl (Int32.ofNat a) :: sc) (h' := h) (fun _ _ => rfl) ?_
      exact hP _ hsf _ _ _ _ _ _ σ lc _ h hh.2 hal hS hls ⟨⟨sx_b_c n _, _, rfl, by rw [sx_w32_ok hh.1]; exact (sx_d_c σ _).symm⟩, hst⟩
    | sipush x =>
      replace hh : (Nat.blt a 4294967296 && ih rest ls (sx_vi (sx_w32 a, []) :: st) n tb cs hp) = true := hh
      rw [Bool.and_eq_true] at hh
      refine sx_G_of (code' := rest) (ls' := lc) (st' := .inl (Int32.ofNat a) :: sc) (h' := h) (fun _ _ => rfl) ?_
      exact hP _ hsf _ _ _ _ _ _ σ lc _ h hh.2 hal hS hls ⟨⟨sx_b_c n _, _, rfl, by rw [sx_w32_ok hh.1]; exact (sx_d_c σ _).symm⟩, hst⟩
    | lconst x =>
      replace hh : (Nat.blt a 18446744073709551616 && ih rest ls (sx_vl (sx_w64 a, []) :: st) n tb cs hp) = true := hh
      rw [Bool.and_eq_true] at hh
      refine sx_G_of (code' := rest) (ls' := lc) (st' := rv_lng (Int64.ofNat a) :: sc) (h' := h) (fun _ _ => rfl) ?_
      exact hP _ hsf _ _ _ _ _ _ σ lc _ h hh.2 hal hS hls ⟨⟨sx_b_c n _, _, rfl, by rw [sx_w64_ok hh.1]; exact (sx_d_c σ _).symm⟩, hst⟩
    | ldc2_w x =>
      replace hh : (Nat.blt a 18446744073709551616 && ih rest ls (sx_vl (sx_w64 a, []) :: st) n tb cs hp) = true := hh
      rw [Bool.and_eq_true] at hh
      refine sx_G_of (code' := rest) (ls' := lc) (st' := rv_lng (Int64.ofNat a) :: sc) (h' := h) (fun _ _ => rfl) ?_
      exact hP _ hsf _ _ _ _ _ _ σ lc _ h hh.2 hal hS hls ⟨⟨sx_b_c n _, _, rfl, by rw [sx_w64_ok hh.1]; exact (sx_d_c σ _).symm⟩, hst⟩
    | ldc x =>
      cases d0 with
      | zero =>
        replace hh : (Nat.blt a 4294967296 && ih rest ls (sx_vi (sx_w32 a, []) :: st) n tb cs hp) = true := hh
        rw [Bool.and_eq_true] at hh
        refine sx_G_of (code' := rest) (ls' := lc) (st' := .inl (Int32.ofNat a) :: sc) (h' := h) (fun _ _ => rfl) ?_
        exact hP _ hsf _ _ _ _ _ _ σ lc _ h hh.2 hal hS hls ⟨⟨sx_b_c n _, _, rfl, by rw [sx_w32_ok hh.1]; exact (sx_d_c σ _).symm⟩, hst⟩
      | succ d0 =>
        replace hh : ih rest ls (sx_vr [100000 + a] :: st) n tb cs hp = true := hh
        refine sx_G_of (code' := rest) (ls' := lc) (st' := rv_ref (100000 + a) :: sc) (h' := h) (fun _ _ => rfl) ?_
        exact hP _ hsf _ _ _ _ _ _ σ lc _ h hh hal hS hls ⟨⟨100000 + a, List.mem_cons_self, rfl⟩, hst⟩
    | ldc_w x =>
      cases d0 with
      | zero =>
        replace hh : (Nat.blt a 4294967296 && ih rest ls (sx_vi (sx_w32 a, []) :: st) n tb cs hp) = true := hh
        rw [Bool.and_eq_true] at hh
        refine sx_G_of (code' := rest) (ls' := lc) (st' := .inl (Int32.ofNat a) :: sc) (h' := h) (fun _ _ => rfl) ?_
        exact hP _ hsf _ _ _ _ _ _ σ lc _ h hh.2 hal hS hls ⟨⟨sx_b_c n _, _, rfl, by rw [sx_w32_ok hh.1]; exact (sx_d_c σ _).symm⟩, hst⟩
      | succ d0 =>
        replace hh : ih rest ls (sx_vr [100000 + a] :: st) n tb cs hp = true := hh
        refine sx_G_of (code' := rest) (ls' := lc) (st' := rv_ref (100000 + a) :: sc) (h' := h) (fun _ _ => rfl) ?_
        exact hP _ hsf _ _ _ _ _ _ σ lc _ h hh hal hS hls ⟨⟨100000 + a, List.mem_cons_self, rfl⟩, hst⟩
    | iload_n x =>
      obtain ⟨f, z, hk, hg, hb, hx⟩ := sx_ld0 (k := fun v => ih rest ls (v :: st) n tb cs hp) hh hls
      exact sx_G_of (code' := rest) (ls' := lc) (st' := .inl z :: sc) (h' := h) (fun _ _ => rv_ld_f hg rfl) (hP _ hsf _ _ _ _ _ _ σ lc _ h hk hal hS hls ⟨⟨hb, z, rfl, hx⟩, hst⟩)
    | iload x =>
      obtain ⟨f, z, hk, hg, hb, hx⟩ := sx_ld0 (k := fun v => ih rest ls (v :: st) n tb cs hp) hh hls
      exact sx_G_of (code' := rest) (ls' := lc) (st' := .inl z :: sc) (h' := h) (fun _ _ => rv_ld_f hg rfl) (hP _ hsf _ _ _ _ _ _ σ lc _ h hk hal hS hls ⟨⟨hb, z, rfl, hx⟩, hst⟩)
    | lload_n x =>
      obtain ⟨f, z, hk, hg, hb, hx⟩ := sx_ld1 (k := fun v => ih rest ls (v :: st) n tb cs hp) hh hls
      exact sx_G_of (code' := rest) (ls' := lc) (st' := rv_lng z :: sc) (h' := h) (fun _ _ => rv_ld_f hg rfl) (hP _ hsf _ _ _ _ _ _ σ lc _ h hk hal hS hls ⟨⟨hb, z, rfl, hx⟩, hst⟩)
    | lload x =>
      obtain ⟨f, z, hk, hg, hb, hx⟩ := sx_ld1 (k := fun v => ih rest ls (v :: st) n tb cs hp) hh hls
      exact sx_G_of (code' := rest) (ls' := lc) (st' := rv_lng z :: sc) (h' := h) (fun _ _ => rv_ld_f hg rfl) (hP _ hsf _ _ _ _ _ _ σ lc _ h hk hal hS hls ⟨⟨hb, z, rfl, hx⟩, hst⟩)
    | aload_n x =>
      obtain ⟨ks, q, hk, hg, hq⟩ := sx_ld2 (k := fun v => ih rest ls (v :: st) n tb cs hp) hh hls
      exact sx_G_of (code' := rest) (ls' := lc) (st' := rv_ref q :: sc) (h' := h) (fun _ _ => rv_ld_f hg rfl) (hP _ hsf _ _ _ _ _ _ σ lc _ h hk hal hS hls ⟨⟨q, hq, rfl⟩, hst⟩)
    | aload x =>
      obtain ⟨ks, q, hk, hg, hq⟩ := sx_ld2 (k := fun v => ih rest ls (v :: st) n tb cs hp) hh hls
      exact sx_G_of (code' := rest) (ls' := lc) (st' := rv_ref q :: sc) (h' := h) (fun _ _ => rv_ld_f hg rfl) (hP _ hsf _ _ _ _ _ _ σ lc _ h hk hal hS hls ⟨⟨q, hq, rfl⟩, hst⟩)
    | istore_n x =>
      obtain ⟨f, r, z, s, rfl, rfl, hi, hk, hl2, hs⟩ := sx_st0 (k := fun ls' r => ih rest ls' r n tb cs hp) hh hls hst
      exact sx_G_of (code' := rest) (ls' := (a, .inl z) :: lc.filter (rv_keep1 a)) (st' := s) (h' := h) (fun _ ih' => rv_st1_f (f := rv_isI) (a := .inl z) (ls := lc) (s := s) (k := fun ls' r => ih' rest ls' r h 0 0) rfl hi) (hP _ hsf _ _ _ _ _ _ σ _ _ h hk hal hS hl2 hs)
    | istore x =>
      obtain ⟨f, r, z, s, rfl, rfl, hi, hk, hl2, hs⟩ := sx_st0 (k := fun ls' r => ih rest ls' r n tb cs hp) hh hls hst
      exact sx_G_of (code' := rest) (ls' := (a, .inl z) :: lc.filter (rv_keep1 a)) (st' := s) (h' := h) (fun _ ih' => rv_st1_f (f := rv_isI) (a := .inl z) (ls := lc) (s := s) (k := fun ls' r => ih' rest ls' r h 0 0) rfl hi) (hP _ hsf _ _ _ _ _ _ σ _ _ h hk hal hS hl2 hs)
    | lstore_n x =>
      obtain ⟨f, r, z, s, rfl, rfl, hi, hk, hl2, hs⟩ := sx_stL (k := fun ls' r => ih rest ls' r n tb cs hp) hh hls hst
      exact sx_G_of (code' := rest) (ls' := (a, rv_lng z) :: lc.filter (rv_keep2 a)) (st' := s) (h' := h) (fun _ ih' => rv_st2_f (a := rv_lng z) (ls := lc) (s := s) (k := fun ls' r => ih' rest ls' r h 0 0) rfl hi) (hP _ hsf _ _ _ _ _ _ σ _ _ h hk hal hS hl2 hs)
    | lstore x =>
      obtain ⟨f, r, z, s, rfl, rfl, hi, hk, hl2, hs⟩ := sx_stL (k := fun ls' r => ih rest ls' r n tb cs hp) hh hls hst
      exact sx_G_of (code' := rest) (ls' := (a, rv_lng z) :: lc.filter (rv_keep2 a)) (st' := s) (h' := h) (fun _ ih' => rv_st2_f (a := rv_lng z) (ls := lc) (s := s) (k := fun ls' r => ih' rest ls' r h 0 0) rfl hi) (hP _ hsf _ _ _ _ _ _ σ _ _ h hk hal hS hl2 hs)
    | astore_n x =>
      obtain ⟨v, r, q, s, rfl, rfl, hi, hk, hl2, hs⟩ := sx_stR (k := fun ls' r => ih rest ls' r n tb cs hp) hh hls hst
      exact sx_G_of (code' := rest) (ls' := (a, rv_ref q) :: lc.filter (rv_keep1 a)) (st' := s) (h' := h) (fun _ ih' => rv_st1_f (f := rv_isR) (a := rv_ref q) (ls := lc) (s := s) (k := fun ls' r => ih' rest ls' r h 0 0) rfl hi) (hP _ hsf _ _ _ _ _ _ σ _ _ h hk hal hS hl2 hs)
    | astore x =>
      obtain ⟨v, r, q, s, rfl, rfl, hi, hk, hl2, hs⟩ := sx_stR (k := fun ls' r => ih rest ls' r n tb cs hp) hh hls hst
      exact sx_G_of (code' := rest) (ls' := (a, rv_ref q) :: lc.filter (rv_keep1 a)) (st' := s) (h' := h) (fun _ ih' => rv_st1_f (f := rv_isR) (a := rv_ref q) (ls := lc) (s := s) (k := fun ls' r => ih' rest ls' r h 0 0) rfl hi) (hP _ hsf _ _ _ _ _ _ σ _ _ h hk hal hS hl2 hs)
    | iinc q x =>
      replace hh : (sx_ld 0 ls q (fun v => match v with
        | .inl f => sx_sum lv sx_sr sx_mn sx_mx 1 f (x, []) n tb cs (fun g n' tb' cs' => sx_st1 0 nL ls q (sx_vi g :: st) (fun ls' r => ih rest ls' r n' tb' cs' hp))
        | _ => false) && sx_p (x - sx_mn) && sx_p (sx_mx - x)) = true := hh
      rw [Bool.and_eq_true, Bool.and_eq_true] at hh
      obtain ⟨⟨hh, p1⟩, p2⟩ := hh
      have p1 : 0 ≤ x - (-2147483648) := sx_p_t p1
      have p2 : 0 ≤ 2147483647 - x := sx_p_t p2
      obtain ⟨f, z, hk, hg, hb, hx⟩ := sx_ld0 hh hls
      replace hk : sx_sum lv sx_sr sx_mn sx_mx 1 f (x, []) n tb cs (fun g n' tb' cs' => sx_st1 0 nL ls q (sx_vi g :: st) (fun ls' r => ih rest ls' r n' tb' cs' hp)) = true := hk
      have hxi : (Int32.ofInt x).toInt = x := Int32.toInt_ofInt_of_le (by omega) (by omega)
      obtain ⟨r, n', tb', cs', σ', k1, k2, k3, k4, k5, k6⟩ := sx_oiadd (x := z) (y := Int32.ofInt x) (X := f) (Y := (x, [])) hS.2.1 hw hb (fun q hq => by cases hq) hx (by rw [hxi]; simp [sx_d, sx_dl]) hk
      obtain ⟨f2, r2, z2, s2, e1, e2, hi, hk2, hl2, hs2⟩ := sx_st0 (k := fun ls' r => ih rest ls' r n' tb' cs' hp) (lc := lc) (sc := .inl (z + Int32.ofInt x) :: sc) k1 (sx_lm_m k4 k3 hls) ⟨⟨k5, _, rfl, k6⟩, sx_vs_m k4 k3 hst⟩
      cases e1
      cases e2
      exact sx_G_of (code' := rest) (ls' := (q, .inl (z + Int32.ofInt x)) :: lc.filter (rv_keep1 q)) (st' := sc) (h' := h) (fun _ ih' => rv_inc_f (c := x) (k := fun ls' => ih' rest ls' sc h 0 0) hg hi) (hP _ hsf _ _ _ _ _ _ σ' _ _ h hk2 (sx_ba_t hal k3 k4) (sx_St_m hS k2 k3 k4) hl2 hs2)
    | iadd =>
      obtain ⟨Y, X, r, rfl, hk⟩ := sx_bi_i (op := fun x y => sx_sum lv sx_sr sx_mn sx_mx 1 x y) (k := fun r n' tb' cs' => ih rest ls r n' tb' cs' hp) hh
      obtain ⟨ay, s1, rfl, ⟨bY, y, rfl, ey⟩, hs1⟩ := sx_vs_c hst
      obtain ⟨ax, s, rfl, ⟨bX, x, rfl, ex⟩, hs⟩ := sx_vs_c hs1
      refine sx_G_of (code' := rest) (ls' := lc) (st' := .inl (x + y) :: s) (h' := h) (fun _ ih' => rv_fI_eq (x + y) (fun z => ih' rest lc (.inl z :: s) h 0 0)) ?_
      exact sx_goi hP hsf (sx_oiadd hS.2.1 hw bX bY ex ey hk) hal hS hls hs
    | isub =>
      obtain ⟨Y, X, r, rfl, hk⟩ := sx_bi_i (op := fun x y => sx_sum lv sx_sr sx_mn sx_mx (-1) x y) (k := fun r n' tb' cs' => ih rest ls r n' tb' cs' hp) hh
      obtain ⟨ay, s1, rfl, ⟨bY, y, rfl, ey⟩, hs1⟩ := sx_vs_c hst
      obtain ⟨ax, s, rfl, ⟨bX, x, rfl, ex⟩, hs⟩ := sx_vs_c hs1
      refine sx_G_of (code' := rest) (ls' := lc) (st' := .inl (x - y) :: s) (h' := h) (fun _ ih' => rv_fI_eq (x - y) (fun z => ih' rest lc (.inl z :: s) h 0 0)) ?_
      exact sx_goi hP hsf (sx_oisub hS.2.1 hw bX bY ex ey hk) hal hS hls hs
    | imul =>
      obtain ⟨Y, X, r, rfl, hk⟩ := sx_bi_i (op := fun x y => sx_mul lv sx_sr sx_mn sx_mx x y) (k := fun r n' tb' cs' => ih rest ls r n' tb' cs' hp) hh
      obtain ⟨ay, s1, rfl, ⟨bY, y, rfl, ey⟩, hs1⟩ := sx_vs_c hst
      obtain ⟨ax, s, rfl, ⟨bX, x, rfl, ex⟩, hs⟩ := sx_vs_c hs1
      refine sx_G_of (code' := rest) (ls' := lc) (st' := .inl (x * y) :: s) (h' := h) (fun _ ih' => rv_fI_eq (x * y) (fun z => ih' rest lc (.inl z :: s) h 0 0)) ?_
      exact sx_goi hP hsf (sx_oimul hS.2.1 hw bX bY ex ey hk) hal hS hls hs
    | iand =>
      rcases st with _ | ⟨Y | Y | Y | ks, _ | ⟨X | X | X | ks2, r⟩⟩
      · cases hh
      · cases hh
      · obtain ⟨ay, s1, rfl, ⟨bY, y, rfl, ey⟩, hs1⟩ := sx_vs_c hst
        obtain ⟨ax, s, rfl, ⟨bX, x, rfl, ex⟩, hs⟩ := sx_vs_c hs1
        replace hh : sx_anh lv X Y n tb cs hp (fun f n' tb' cs' hp' => ih rest ls (sx_vi f :: r) n' tb' cs' hp') (sx_fo (fun x y => x &&& y) (fun x y => sx_any lv x y) X Y n tb cs (fun f n' tb' cs' => ih rest ls (sx_vi f :: r) n' tb' cs' hp)) = true := hh
        refine sx_G_of (code' := rest) (ls' := lc) (st' := .inl (x &&& y) :: s) (h' := h) (fun _ ih' => rv_fI_eq (x &&& y) (fun z => ih' rest lc (.inl z :: s) h 0 0)) ?_
        rcases sx_anh_ok hS bX bY ex ey hh with hk | ⟨g, n2, tb2, cs2, hp2, σ2, g1, g2, g3, g4, g5, g6⟩
        · exact sx_goi hP hsf (sx_fo_ok (g := (fun x y => x &&& y)) hS.2.1 ex ey hk (fun hk => sx_oiany hS.2.1 hw bX bY ex ey hk)) hal hS hls hs
        · exact hP _ hsf _ _ _ _ _ _ σ2 lc _ h g1 (sx_ba_t hal g3 g2) g4 (sx_lm_m g2 g3 hls) ⟨⟨g5, _, rfl, g6.symm⟩, sx_vs_m g2 g3 hs⟩
      · cases hh
      · cases hh
      · cases hh
      · cases hh
      · cases hh
      · cases hh
      · cases hh
      · cases hh
      · cases hh
      · cases hh
      · cases hh
      · cases hh
      · cases hh
      · cases hh
      · cases hh
      · cases hh
      · cases hh
      · cases hh
    | ior =>
      obtain ⟨Y, X, r, rfl, hk⟩ := sx_bi_i (op := sx_fo (fun x y => x ||| y) (fun x y => sx_or sx_sr sx_mn sx_mx 31 true x y)) (k := fun r n' tb' cs' => ih rest ls r n' tb' cs' hp) hh
      obtain ⟨ay, s1, rfl, ⟨bY, y, rfl, ey⟩, hs1⟩ := sx_vs_c hst
      obtain ⟨ax, s, rfl, ⟨bX, x, rfl, ex⟩, hs⟩ := sx_vs_c hs1
      refine sx_G_of (code' := rest) (ls' := lc) (st' := .inl (x ||| y) :: s) (h' := h) (fun _ ih' => rv_fI_eq (x ||| y) (fun z => ih' rest lc (.inl z :: s) h 0 0)) ?_
      exact sx_goi hP hsf (sx_fo_ok (g := (fun x y => x ||| y)) hS.2.1 ex ey hk (fun hk => sx_oior hS.2.1 hw bX bY ex ey hk)) hal hS hls hs
    | ixor =>
      obtain ⟨Y, X, r, rfl, hk⟩ := sx_bi_i (op := sx_fo (fun x y => x ^^^ y) (fun x y => sx_xo lv x y)) (k := fun r n' tb' cs' => ih rest ls r n' tb' cs' hp) hh
      obtain ⟨ay, s1, rfl, ⟨bY, y, rfl, ey⟩, hs1⟩ := sx_vs_c hst
      obtain ⟨ax, s, rfl, ⟨bX, x, rfl, ex⟩, hs⟩ := sx_vs_c hs1
      refine sx_G_of (code' := rest) (ls' := lc) (st' := .inl (x ^^^ y) :: s) (h' := h) (fun _ ih' => rv_fI_eq (x ^^^ y) (fun z => ih' rest lc (.inl z :: s) h 0 0)) ?_
      exact sx_goi hP hsf (sx_fo_ok (g := (fun x y => x ^^^ y)) hS.2.1 ex ey hk (fun hk => sx_oixo hS.2.1 hw bX bY ex ey hk)) hal hS hls hs
    | ishl =>
      obtain ⟨Y, X, r, rfl, hk⟩ := sx_bi_i (op := fun x y => sx_shl lv sx_sr sx_mn sx_mx 32 x y) (k := fun r n' tb' cs' => ih rest ls r n' tb' cs' hp) hh
      obtain ⟨ay, s1, rfl, ⟨bY, y, rfl, ey⟩, hs1⟩ := sx_vs_c hst
      obtain ⟨ax, s, rfl, ⟨bX, x, rfl, ex⟩, hs⟩ := sx_vs_c hs1
      refine sx_G_of (code' := rest) (ls' := lc) (st' := .inl (x <<< (y &&& 31)) :: s) (h' := h) (fun _ ih' => rv_fI_eq (x <<< (y &&& 31)) (fun z => ih' rest lc (.inl z :: s) h 0 0)) ?_
      exact sx_goi hP hsf (sx_oishl hS.2.1 hw bX bY ex ey hk) hal hS hls hs
    | ishr =>
      obtain ⟨Y, X, r, rfl, hk⟩ := sx_bi_i (op := sx_fo (fun x y => x >>> (y &&& 31)) (fun x y => sx_shr (Nat.ble 10 lv) sx_sr sx_mn sx_mx 32 x y)) (k := fun r n' tb' cs' => ih rest ls r n' tb' cs' hp) hh
      obtain ⟨ay, s1, rfl, ⟨bY, y, rfl, ey⟩, hs1⟩ := sx_vs_c hst
      obtain ⟨ax, s, rfl, ⟨bX, x, rfl, ex⟩, hs⟩ := sx_vs_c hs1
      refine sx_G_of (code' := rest) (ls' := lc) (st' := .inl (x >>> (y &&& 31)) :: s) (h' := h) (fun _ ih' => rv_fI_eq (x >>> (y &&& 31)) (fun z => ih' rest lc (.inl z :: s) h 0 0)) ?_
      exact sx_goi hP hsf (sx_fo_ok (g := (fun x y => x >>> (y &&& 31))) hS.2.1 ex ey hk (fun hk => sx_oishr hS.2.1 hw bX bY ex ey hk)) hal hS hls hs
    | iushr =>
      obtain ⟨Y, X, r, rfl, hk⟩ := sx_bi_i (op := sx_fo (fun x y => (x.toUInt32 >>> (y.toUInt32 &&& Int32.toUInt32 31)).toInt32) (fun x y => sx_shr (Nat.ble 10 lv) sx_sr sx_mn sx_mx 32 x y)) (k := fun r n' tb' cs' => ih rest ls r n' tb' cs' hp) hh
      obtain ⟨ay, s1, rfl, ⟨bY, y, rfl, ey⟩, hs1⟩ := sx_vs_c hst
      obtain ⟨ax, s, rfl, ⟨bX, x, rfl, ex⟩, hs⟩ := sx_vs_c hs1
      refine sx_G_of (code' := rest) (ls' := lc) (st' := .inl ((x.toUInt32 >>> (y.toUInt32 &&& Int32.toUInt32 31)).toInt32) :: s) (h' := h) (fun _ ih' => rv_fI_eq ((x.toUInt32 >>> (y.toUInt32 &&& Int32.toUInt32 31)).toInt32) (fun z => ih' rest lc (.inl z :: s) h 0 0)) ?_
      exact sx_goi hP hsf (sx_fo_ok (g := (fun x y => (x.toUInt32 >>> (y.toUInt32 &&& Int32.toUInt32 31)).toInt32)) hS.2.1 ex ey hk (fun hk => sx_oiushr hS.2.1 hw bX bY ex ey hk)) hal hS hls hs
    | ladd =>
      obtain ⟨Y, X, r, rfl, hk⟩ := sx_bl_i (op := fun x y => sx_sum lv sx_sr sx_Ln sx_Lx 1 x y) (k := fun r n' tb' cs' => ih rest ls r n' tb' cs' hp) hh
      obtain ⟨ay, s1, rfl, ⟨bY, y, rfl, ey⟩, hs1⟩ := sx_vs_c hst
      obtain ⟨ax, s, rfl, ⟨bX, x, rfl, ex⟩, hs⟩ := sx_vs_c hs1
      refine sx_G_of (code' := rest) (ls' := lc) (st' := rv_lng (x + y) :: s) (h' := h) (fun _ ih' => rv_fL_eq (x + y) (fun z => ih' rest lc (rv_lng z :: s) h 0 0)) ?_
      exact sx_gol hP hsf (sx_oladd hS.2.1 hw bX bY ex ey hk) hal hS hls hs
    | lsub =>
      obtain ⟨Y, X, r, rfl, hk⟩ := sx_bl_i (op := fun x y => sx_sum lv sx_sr sx_Ln sx_Lx (-1) x y) (k := fun r n' tb' cs' => ih rest ls r n' tb' cs' hp) hh
      obtain ⟨ay, s1, rfl, ⟨bY, y, rfl, ey⟩, hs1⟩ := sx_vs_c hst
      obtain ⟨ax, s, rfl, ⟨bX, x, rfl, ex⟩, hs⟩ := sx_vs_c hs1
      refine sx_G_of (code' := rest) (ls' := lc) (st' := rv_lng (x - y) :: s) (h' := h) (fun _ ih' => rv_fL_eq (x - y) (fun z => ih' rest lc (rv_lng z :: s) h 0 0)) ?_
      exact sx_gol hP hsf (sx_olsub hS.2.1 hw bX bY ex ey hk) hal hS hls hs
    | lmul =>
      obtain ⟨Y, X, r, rfl, hk⟩ := sx_bl_i (op := fun x y => sx_mul lv sx_sr sx_Ln sx_Lx x y) (k := fun r n' tb' cs' => ih rest ls r n' tb' cs' hp) hh
      obtain ⟨ay, s1, rfl, ⟨bY, y, rfl, ey⟩, hs1⟩ := sx_vs_c hst
      obtain ⟨ax, s, rfl, ⟨bX, x, rfl, ex⟩, hs⟩ := sx_vs_c hs1
      refine sx_G_of (code' := rest) (ls' := lc) (st' := rv_lng (x * y) :: s) (h' := h) (fun _ ih' => rv_fL_eq (x * y) (fun z => ih' rest lc (rv_lng z :: s) h 0 0)) ?_
      exact sx_gol hP hsf (sx_olmul hS.2.1 hw bX bY ex ey hk) hal hS hls hs
    | land =>
      rcases st with _ | ⟨Y | Y | Y | ks, _ | ⟨X | X | X | ks2, r⟩⟩
      all_goals first
        | cases hh
        | skip
      obtain ⟨ay, s1, rfl, ⟨bY, y, rfl, ey⟩, hs1⟩ := sx_vs_c hst
      obtain ⟨ax, s, rfl, ⟨bX, x, rfl, ex⟩, hs⟩ := sx_vs_c hs1
      replace hh : sx_anq lv 31 sx_rmo X Y n tb cs hp (fun f n' tb' cs' hp' => ih rest ls (sx_vl f :: r) n' tb' cs' hp') (sx_and (Nat.ble 10 lv) sx_sr sx_Ln sx_Lx X Y n tb cs (fun f n' tb' cs' => ih rest ls (sx_vl f :: r) n' tb' cs' hp)) = true := hh
      refine sx_G_of (code' := rest) (ls' := lc) (st' := rv_lng (x &&& y) :: s) (h' := h) (fun _ ih' => rv_fL_eq (x &&& y) (fun z => ih' rest lc (rv_lng z :: s) h 0 0)) ?_
      rcases sx_anq_ok sx_rmo_ok sx_rmo_wf hS bX (by have := (sx_r64 x).2; omega) hh with hk | ⟨hx0, hyc, g, n2, tb2, cs2, hp2, σ2, g1, g2, g3, g4, g5, g6⟩
      · exact sx_gol hP hsf (sx_oland hS.2.1 hw bX bY ex ey hk) hal hS hls hs
      · exact hP _ hsf _ _ _ _ _ _ σ2 lc _ h g1 (sx_ba_t hal g3 g2) g4 (sx_lm_m g2 g3 hls) ⟨⟨g5, _, rfl, by rw [sx_m32 (x := x) (y := y) (by omega) (by omega), ex]; exact g6.symm⟩, sx_vs_m g2 g3 hs⟩
    | lor =>
      obtain ⟨Y, X, r, rfl, hk⟩ := sx_bl_i (op := sx_foL (fun x y => x ||| y) (fun x y => sx_or sx_sr sx_Ln sx_Lx 63 true x y)) (k := fun r n' tb' cs' => ih rest ls r n' tb' cs' hp) hh
      obtain ⟨ay, s1, rfl, ⟨bY, y, rfl, ey⟩, hs1⟩ := sx_vs_c hst
      obtain ⟨ax, s, rfl, ⟨bX, x, rfl, ex⟩, hs⟩ := sx_vs_c hs1
      refine sx_G_of (code' := rest) (ls' := lc) (st' := rv_lng (x ||| y) :: s) (h' := h) (fun _ ih' => rv_fL_eq (x ||| y) (fun z => ih' rest lc (rv_lng z :: s) h 0 0)) ?_
      exact sx_gol hP hsf (sx_foL_ok (g := (fun x y => x ||| y)) hS.2.1 ex ey hk (fun hk => sx_olor hS.2.1 hw bX bY ex ey hk)) hal hS hls hs
    | lshl =>
      obtain ⟨Y, X, r, rfl, hk⟩ := sx_bs_i (op := fun x y => sx_shl lv sx_sr sx_Ln sx_Lx 64 x y) (k := fun r n' tb' cs' => ih rest ls r n' tb' cs' hp) hh
      obtain ⟨ay, s1, rfl, ⟨bY, y, rfl, ey⟩, hs1⟩ := sx_vs_c hst
      obtain ⟨ax, s, rfl, ⟨bX, x, rfl, ex⟩, hs⟩ := sx_vs_c hs1
      refine sx_G_of (code' := rest) (ls' := lc) (st' := rv_lng (x <<< (y.toInt64 &&& 63)) :: s) (h' := h) (fun _ ih' => rv_fL_eq (x <<< (y.toInt64 &&& 63)) (fun z => ih' rest lc (rv_lng z :: s) h 0 0)) ?_
      exact sx_gol hP hsf (sx_olshl hS.2.1 hw bX bY ex ey hk) hal hS hls hs
    | lshr =>
      rcases st with _ | ⟨Y | Y | Y | ks, _ | ⟨X | X | X | ks2, r⟩⟩
      all_goals first
        | cases hh
        | skip
      obtain ⟨ay, s1, rfl, ⟨bY, y, rfl, ey⟩, hs1⟩ := sx_vs_c hst
      obtain ⟨ax, s, rfl, ⟨bX, x, rfl, ex⟩, hs⟩ := sx_vs_c hs1
      replace hh : sx_anq lv 5 sx_rdi X Y n tb cs hp (fun f n' tb' cs' hp' => ih rest ls (sx_vl f :: r) n' tb' cs' hp') (sx_shr (Nat.ble 10 lv) sx_sr sx_Ln sx_Lx 64 X Y n tb cs (fun f n' tb' cs' => ih rest ls (sx_vl f :: r) n' tb' cs' hp)) = true := hh
      refine sx_G_of (code' := rest) (ls' := lc) (st' := rv_lng (x >>> (y.toInt64 &&& 63)) :: s) (h' := h) (fun _ ih' => rv_fL_eq (x >>> (y.toInt64 &&& 63)) (fun z => ih' rest lc (rv_lng z :: s) h 0 0)) ?_
      rcases sx_anq_ok sx_rdi_ok sx_rdi_wf hS bX (by have := (sx_r64 x).2; omega) hh with hk | ⟨hx0, hyc, g, n2, tb2, cs2, hp2, σ2, g1, g2, g3, g4, g5, g6⟩
      · exact sx_gol hP hsf (sx_olshr hS.2.1 hw bX bY ex ey hk) hal hS hls hs
      · exact hP _ hsf _ _ _ _ _ _ σ2 lc _ h g1 (sx_ba_t hal g3 g2) g4 (sx_lm_m g2 g3 hls) ⟨⟨g5, _, rfl, by rw [sx_d32 (x := x) (y := y) (by omega) (by omega), ex]; exact g6.symm⟩, sx_vs_m g2 g3 hs⟩
    | lushr =>
      obtain ⟨Y, X, r, rfl, hk⟩ := sx_bs_i (op := fun x y => sx_shr (Nat.ble 10 lv) sx_sr sx_Ln sx_Lx 64 x y) (k := fun r n' tb' cs' => ih rest ls r n' tb' cs' hp) hh
      obtain ⟨ay, s1, rfl, ⟨bY, y, rfl, ey⟩, hs1⟩ := sx_vs_c hst
      obtain ⟨ax, s, rfl, ⟨bX, x, rfl, ex⟩, hs⟩ := sx_vs_c hs1
      refine sx_G_of (code' := rest) (ls' := lc) (st' := rv_lng ((x.toUInt64 >>> (y.toInt64.toUInt64 &&& Int64.toUInt64 63)).toInt64) :: s) (h' := h) (fun _ ih' => rv_fL_eq ((x.toUInt64 >>> (y.toInt64.toUInt64 &&& Int64.toUInt64 63)).toInt64) (fun z => ih' rest lc (rv_lng z :: s) h 0 0)) ?_
      exact sx_gol hP hsf (sx_olushr hS.2.1 hw bX bY ex ey hk) hal hS hls hs
    | i2l =>
      rcases st with _ | ⟨f | f | f | ks, r⟩
      · cases hh
      · obtain ⟨ax, s, rfl, ⟨bX, x, rfl, ex⟩, hs⟩ := sx_vs_c hst
        replace hh : ih rest ls (sx_vl f :: r) n tb cs hp = true := hh
        exact sx_G_of (code' := rest) (ls' := lc) (st' := rv_lng x.toInt64 :: s) (h' := h) (fun _ ih' => rv_fL_eq x.toInt64 (fun z => ih' rest lc (rv_lng z :: s) h 0 0)) (hP _ hsf _ _ _ _ _ _ σ lc _ h hh hal hS hls ⟨⟨bX, _, rfl, by rw [Int32.toInt_toInt64]; exact ex⟩, hs⟩)
      · cases hh
      · cases hh
      · cases hh
    | l2i =>
      rcases st with _ | ⟨f | f | f | ks, r⟩
      · cases hh
      · cases hh
      · obtain ⟨ax, s, rfl, ⟨bX, x, rfl, ex⟩, hs⟩ := sx_vs_c hst
        replace hh : sx_ft lv sx_sr (-2147483648) 2147483647 n tb cs f (fun g n' tb' cs' => ih rest ls (sx_vi g :: r) n' tb' cs' hp) = true := hh
        refine sx_G_of (code' := rest) (ls' := lc) (st' := .inl x.toInt32 :: s) (h' := h) (fun _ ih' => rv_fI_eq x.toInt32 (fun z => ih' rest lc (.inl z :: s) h 0 0)) ?_
        exact sx_goi hP hsf (sx_ft_ok hS.2.1 hw bX ⟨by decide, by decide⟩ (sx_r32 _) (fun h1 h2 => by rw [Int64.toInt_toInt32, ex]; exact sx_bm32 h1 h2) hh) hal hS hls hs
      · cases hh
      · cases hh
    | i2b =>
      rcases st with _ | ⟨f | f | f | ks, r⟩
      · cases hh
      · obtain ⟨ax, s, rfl, ⟨bX, x, rfl, ex⟩, hs⟩ := sx_vs_c hst
        replace hh : sx_ft lv sx_sr (-128) 127 n tb cs f (fun g n' tb' cs' => ih rest ls (sx_vi g :: r) n' tb' cs' hp) = true := hh
        refine sx_G_of (code' := rest) (ls' := lc) (st' := .inl x.toInt8.toInt32 :: s) (h' := h) (fun _ ih' => rv_fI_eq x.toInt8.toInt32 (fun z => ih' rest lc (.inl z :: s) h 0 0)) ?_
        exact sx_goi hP hsf (sx_ft_ok hS.2.1 hw bX ⟨by decide, by decide⟩ (by rw [Int8.toInt_toInt32]; have h1 := x.toInt8.le_toInt; have h2 := x.toInt8.toInt_lt; omega) (fun h1 h2 => by rw [Int8.toInt_toInt32, Int32.toInt_toInt8, ex]; exact sx_bm (w := 7) (by omega) (by omega)) hh) hal hS hls hs
      · cases hh
      · cases hh
      · cases hh
    | i2s =>
      rcases st with _ | ⟨f | f | f | ks, r⟩
      · cases hh
      · obtain ⟨ax, s, rfl, ⟨bX, x, rfl, ex⟩, hs⟩ := sx_vs_c hst
        replace hh : sx_ft lv sx_sr (-32768) 32767 n tb cs f (fun g n' tb' cs' => ih rest ls (sx_vi g :: r) n' tb' cs' hp) = true := hh
        refine sx_G_of (code' := rest) (ls' := lc) (st' := .inl x.toInt16.toInt32 :: s) (h' := h) (fun _ ih' => rv_fI_eq x.toInt16.toInt32 (fun z => ih' rest lc (.inl z :: s) h 0 0)) ?_
        exact sx_goi hP hsf (sx_ft_ok hS.2.1 hw bX ⟨by decide, by decide⟩ (by rw [Int16.toInt_toInt32]; have h1 := x.toInt16.le_toInt; have h2 := x.toInt16.toInt_lt; omega) (fun h1 h2 => by rw [Int16.toInt_toInt32, Int32.toInt_toInt16, ex]; exact sx_bm (w := 15) (by omega) (by omega)) hh) hal hS hls hs
      · cases hh
      · cases hh
      · cases hh
    | lcmp =>
      rcases st with _ | ⟨f | f | f | ks, _ | ⟨g | g | g | ks2, r⟩⟩
      all_goals first
        | cases hh
        | skip
      obtain ⟨ay, s1, rfl, ⟨bY, y, rfl, ey⟩, hs1⟩ := sx_vs_c hst
      obtain ⟨ax, s, rfl, ⟨bX, x, rfl, ex⟩, hs⟩ := sx_vs_c hs1
      replace hh : sx_ad (-1) g f (fun e => ih rest ls (sx_vc e :: r) n tb cs hp) = true := hh
      obtain ⟨e, e1, e2, e3⟩ := sx_ad_ok (β := Bool) (-1) g f
      rw [e1] at hh
      have hc := sx_lcmp x y
      rw [show x.toInt - y.toInt = sx_d σ e by rw [e2, ex, ey]; omega] at hc
      exact sx_G_of (code' := rest) (ls' := lc) (st' := .inl (lg_cmp x y) :: s) (h' := h) (fun _ ih' => rv_fI_eq (lg_cmp x y) (fun z => ih' rest lc (.inl z :: s) h 0 0)) (hP _ hsf _ _ _ _ _ _ σ lc _ h hh hal hS hls ⟨⟨e3 n bX bY, _, rfl, hc⟩, hs⟩)
    | dup =>
      cases st with
      | nil => cases hh
      | cons v r =>
        replace hh : (!(sx_isL v) && ih rest ls (v :: v :: r) n tb cs hp) = true := hh
        rw [Bool.and_eq_true] at hh
        obtain ⟨av, s, rfl, hv, hs⟩ := sx_vs_c hst
        have hl : rv_isL av = false := by rw [sx_isL_v hv]; simpa using hh.1
        exact sx_G_of (code' := rest) (ls' := lc) (st' := av :: av :: s) (h' := h) (fun _ ih' => by
          show (if rv_isL av then none else ih' rest lc (av :: av :: s) h 0 0) = _
          rw [hl]; rfl) (hP _ hsf _ _ _ _ _ _ σ lc _ h hh.2 hal hS hls ⟨hv, hv, hs⟩)
    | dup2 =>
      rcases st with _ | ⟨v, _ | ⟨w, r⟩⟩
      · cases hh
      · cases hh
      · replace hh : (!(sx_isL v) && !(sx_isL w) && ih rest ls (v :: w :: v :: w :: r) n tb cs hp) = true := hh
        rw [Bool.and_eq_true, Bool.and_eq_true] at hh
        obtain ⟨av, s1, rfl, hv, hs1⟩ := sx_vs_c hst
        obtain ⟨aw, s, rfl, hw2, hs⟩ := sx_vs_c hs1
        have hl : rv_isL av = false := by rw [sx_isL_v hv]; simpa using hh.1.1
        have hl2 : rv_isL aw = false := by rw [sx_isL_v hw2]; simpa using hh.1.2
        exact sx_G_of (code' := rest) (ls' := lc) (st' := av :: aw :: av :: aw :: s) (h' := h) (fun _ ih' => by
          show (if rv_isL av || rv_isL aw then none else ih' rest lc (av :: aw :: av :: aw :: s) h 0 0) = _
          rw [hl, hl2]; rfl) (hP _ hsf _ _ _ _ _ _ σ lc _ h hh.2 hal hS hls ⟨hv, hw2, hv, hw2, hs⟩)
    | ifCond c x =>
      rcases st with _ | ⟨f | f | f | ks, r⟩
      · cases hh
      · obtain ⟨ax, s, rfl, ⟨bX, x, rfl, ex⟩, hs⟩ := sx_vs_c hst
        have e0 : (0 : Int32).toInt = 0 := by decide
        exact sx_br (x := x) (y := 0) (ct := rv_drop a body) (cf := rest) hP sx_sf_d hsf hh hal hS hls hs bX (by rw [e0, Int.sub_zero, ex]) (fun cl ih' => rfl)
      · cases hh
      · obtain ⟨ax, s, rfl, ⟨bX, x, rfl, ex⟩, hs⟩ := sx_vs_c hst
        exact sx_br (x := x) (y := 0) (ct := rv_drop a body) (cf := rest) hP sx_sf_d hsf hh hal hS hls hs bX (sx_sgn ex) (fun cl ih' => rfl)
      · cases hh
    | if_icmp c x =>
      rcases st with _ | ⟨f | f | f | ks, _ | ⟨g | g | g | ks2, r⟩⟩
      all_goals first
        | cases hh
        | skip
      obtain ⟨ay, s1, rfl, ⟨bY, y, rfl, ey⟩, hs1⟩ := sx_vs_c hst
      obtain ⟨ax, s, rfl, ⟨bX, x, rfl, ex⟩, hs⟩ := sx_vs_c hs1
      replace hh : sx_ad (-1) g f (fun e => sx_cmp lv c e n tb cs hp (ih (rv_drop a body) ls r) (ih rest ls r)) = true := hh
      obtain ⟨e, e1, e2, e3⟩ := sx_ad_ok (β := Bool) (-1) g f
      rw [e1] at hh
      exact sx_br (x := x) (y := y) (ct := rv_drop a body) (cf := rest) hP sx_sf_d hsf hh hal hS hls hs (e3 n bX bY) (by rw [e2, ex, ey, show sx_d σ g + -1 * sx_d σ f = sx_d σ g - sx_d σ f by omega]) (fun cl ih' => rfl)
    | goto x =>
      exact sx_G_of (code' := rv_drop a body) (ls' := lc) (st' := sc) (h' := h) (fun _ _ => rfl) (hP _ sx_sf_d _ _ _ _ _ _ σ lc _ h hh hal hS hls hst)
    | tableswitch df lo hi os =>
      rcases st with _ | ⟨f | f | f | ks, r⟩
      · cases hh
      · cases ts with
        | nil => cases hh
        | cons t0 tt =>
          obtain ⟨ax, s, rfl, ⟨bX, x, rfl, ex⟩, hs⟩ := sx_vs_c hst
          replace hh : (sx_ad (-1) f (lo, []) (fun g => sx_cd sx_sr tb cs .lt g (fun tb' cs' => ih (rv_drop t0 body) ls r n tb' cs' hp)) && sx_tsw f n tb cs hp (fun q => ih (rv_drop q body) ls r) t0 tt lo) = true := hh
          rw [Bool.and_eq_true] at hh
          have hstep : ∀ (cl : sx_K) (ih' : rv_K), rv_step cl rv_nw rv_ct body nL rt ih' ((pc, .tableswitch df lo hi os, len, a, b, d0, t0 :: tt) :: rest) lc (.inl x :: s) h 0 0 = (if x.toInt < lo then ih' (rv_drop t0 body) lc s h 0 0 else (match rv_nth tt (x.toInt - lo).toNat with
            | some q => ih' (rv_drop q body) lc s h 0 0
            | none => ih' (rv_drop t0 body) lc s h 0 0)) := fun _ _ => rfl
          by_cases hlt : x.toInt < lo
          · obtain ⟨g, g1, g2, g3⟩ := sx_ad_ok (β := Bool) (-1) f (lo, [])
            rw [g1] at hh
            have dj : sx_d σ ((lo, []) : sx_F) = lo := by simp [sx_d, sx_dl]
            obtain ⟨tb', cs', hk, hS'⟩ := sx_cd_ok (c := .lt) hS.2.1 (g3 n bX (fun q hq => by cases hq)) (show sx_d σ g < 0 by rw [g2, dj, ← ex]; omega) hh.1
            exact sx_G_of (code' := rv_drop t0 body) (ls' := lc) (st' := s) (h' := h) (fun cl ih' => by rw [hstep, if_pos hlt]) (hP _ sx_sf_d _ _ _ _ _ _ σ lc _ h hk hal ⟨hS.1, hS', hS.2.2⟩ hls hs)
          · obtain ⟨q, tb', cs', hk, hS', hq⟩ := sx_tsw_ok hS.2.1 bX hh.2 (by rw [← ex]; omega)
            rw [← ex] at hq
            refine sx_G_of (code' := rv_drop q body) (ls' := lc) (st' := s) (h' := h) (fun cl ih' => ?_) (hP _ sx_sf_d _ _ _ _ _ _ σ lc _ h hk hal ⟨hS.1, hS', hS.2.2⟩ hls hs)
            rw [hstep, if_neg hlt, rv_nth_eq]
            rcases hq with ⟨rfl, hq⟩ | hq
            · rw [List.getElem?_eq_none_iff.mpr hq]
            · rw [hq]
      · cases hh
      · cases hh
      · cases hh
    | getfield x => exact sx_gf_ok hP hsf hh hal hS hls hst (fun _ _ => rfl)
    | putfield x => exact sx_pf_ok hP hsf hh hal hS hls hst (fun _ _ => rfl)
    | iaload => exact sx_ald_ok (Or.inl ⟨rfl, rfl⟩) hP hsf hh hal hS hls hst (fun _ _ => rfl)
    | laload => exact sx_ald_ok (Or.inr (Or.inl ⟨rfl, rfl⟩)) hP hsf hh hal hS hls hst (fun _ _ => rfl)
    | baload => exact sx_ald_ok (Or.inr (Or.inr (Or.inl ⟨rfl, rfl⟩))) hP hsf hh hal hS hls hst (fun _ _ => rfl)
    | aaload => exact sx_ald_ok (Or.inr (Or.inr (Or.inr ⟨rfl, rfl⟩))) hP hsf hh hal hS hls hst (fun _ _ => rfl)
    | iastore => exact sx_ast_ok (Or.inl ⟨rfl, rfl⟩) hP hsf hh hal hS hls hst (fun _ _ => rfl)
    | lastore => exact sx_ast_ok (Or.inr (Or.inl ⟨rfl, rfl⟩)) hP hsf hh hal hS hls hst (fun _ _ => rfl)
    | bastore => exact sx_ast_ok (Or.inr (Or.inr ⟨rfl, rfl⟩)) hP hsf hh hal hS hls hst (fun _ _ => rfl)
    | aastore => exact sx_asr_ok hP hsf hh hal hS hls hst (fun _ _ => rfl)
    | invokevirtual x => exact sx_inv_ok (okr := fun as => rv_rc2 b h as) hP hsf hC (fun as ac h1 h2 => sx_rcv_i hS.2.2.1 h1 h2) hh hal hS hls hst (fun _ _ => rfl)
    | invokestatic x =>
      replace hh : Bool.rec (motive := fun _ => Bool) (sx_inv cal (fun _ => true) a d0 st (fun r => ih rest ls r) n tb cs hp) (sx_cpy lv st tb cs (fun r => ih rest ls r n tb cs hp)) (b.beq 77) = true := hh
      have hstep : ∀ (cl : sx_K) (ih' : rv_K), rv_step cl rv_nw rv_ct body nL rt ih' ((pc, .invokestatic x, len, a, b, d0, ts) :: rest) lc sc h 0 0 = Bool.rec (motive := fun _ => Option rv_R) (rv_inv cl (fun _ => true) a d0 h sc 0 0 (fun r h' ce' sl' => ih' rest lc r h' ce' sl')) (rv_cpy h sc (fun h' r => ih' rest lc r h' 0 0)) (b.beq 77) := fun _ _ => rfl
      cases hb : b.beq 77 with
      | false =>
        rw [hb] at hh
        exact sx_inv_ok (okr := fun _ => true) hP hsf hC (fun _ _ _ _ => rfl) hh hal hS hls hst (fun cl ih' => by rw [hstep, hb])
      | true =>
        rw [hb] at hh
        exact sx_cpy_ok hP hsf hh hal hS hls hst (fun cl ih' => by rw [hstep, hb])
    | ireturn =>
      rcases st with _ | ⟨f | f | f | ks, _ | ⟨g, r⟩⟩
      all_goals first
        | cases hh
        | skip
      obtain ⟨ax, s, rfl, hv, hs⟩ := sx_vs_c hst
      have hs := sx_vs_n hs
      subst hs
      have hv2 := hv
      obtain ⟨bX, x, rfl, ex⟩ := hv
      match hrt : rt, hh with
      | 0, hh => exact sx_G_ret (o := (some (.inl x), h)) (fun _ _ => rfl) (hRt (some (sx_vi f)) n tb cs hp σ h _ hh hal hS hv2)
      | 1, hh =>
        replace hh : (sx_in lv tb cs 0 1 f && ret (some (sx_vi f)) n tb cs hp) = true := hh
        rw [Bool.and_eq_true] at hh
        have hin := sx_in_ok hS.2.1 hh.1
        rw [← ex] at hin
        refine sx_G_ret (o := (some (.inl x), h)) (fun _ _ => ?_) (hRt (some (sx_vi f)) n tb cs hp σ h _ hh.2 hal hS hv2)
        show (if (rv_fit 1 (.inl x) && Nat.ble 1 1) = true then some (0, 0, [(some (.inl x : rv_A), h)]) else none) = _
        rw [sx_01 hin.1 hin.2]
        rfl
      | (m + 2), hh => cases hh
    | lreturn =>
      rcases st with _ | ⟨f | f | f | ks, _ | ⟨g, r⟩⟩
      all_goals first
        | cases hh
        | skip
      obtain ⟨ax, s, rfl, hv, hs⟩ := sx_vs_c hst
      have hs := sx_vs_n hs
      subst hs
      have hv2 := hv
      obtain ⟨bX, x, rfl, ex⟩ := hv
      replace hh : (rt.beq 2 && ret (some (sx_vl f)) n tb cs hp) = true := hh
      rw [Bool.and_eq_true] at hh
      refine sx_G_ret (o := (some (rv_lng x), h)) (fun _ _ => ?_) (hRt (some (sx_vl f)) n tb cs hp σ h _ hh.2 hal hS hv2)
      show (if (rv_isL (rv_lng x) && rt.beq 2) = true then some (0, 0, [(some (rv_lng x), h)]) else none) = _
      rw [hh.1]
      rfl
    | return_ =>
      cases st with
      | cons v r => cases hh
      | nil =>
        have hs := sx_vs_n hst
        subst hs
        replace hh : (rt.beq 4 && ret none n tb cs hp) = true := hh
        rw [Bool.and_eq_true] at hh
        refine sx_G_ret (o := (none, h)) (fun _ _ => ?_) (hRt none n tb cs hp σ h none hh.2 hal hS True.intro)
        show (if rt.beq 4 = true then some (0, 0, [((none : Option rv_A), h)]) else none) = _
        rw [hh.1]
        rfl
    | _ => cases hh
/-- a walk without heads -/
theorem sx_wk_ok {lv : Nat} {cal : sx_Kc} {ret : sx_Kr} {hd : sx_Kw → sx_Kw} (hH : ∀ w, sx_P l ρ d m0 σ0 body nL rt Q w → sx_P l ρ d m0 σ0 body nL rt Q (hd w)) (hC : sx_Pc l ρ d cal) (hRt : sx_Pr m0 σ0 Q ret) : ∀ m, sx_P l ρ d m0 σ0 body nL rt Q (sx_wk lv cal ret hd body nL rt m) := by
  intro m
  induction m with
  | zero => intro code hsf ls st n tb cs hp σ lc sc h hh; cases hh
  | succ m ih => exact hH _ (sx_stp_ok ih hC hRt)
end SXA
