section SXX
variable {l : Launch} {ρ : rv_ρ} {d : Nat} {m0 : Nat} {σ0 : Nat → Int} {body : List rv_I} {nL rt : Nat} {Q : rv_O → Prop}
theorem rv_ld_f {f : rv_A → Bool} {ls : rv_L} {i : Nat} {a : rv_A} {k : rv_A → Option rv_R} (h : rv_lget ls i = some a) (hf : f a = true) : rv_ld f ls i k = k a := by
  unfold rv_ld
  rw [h]
  exact if_pos hf
theorem rv_st1_f {f : rv_A → Bool} {nL i : Nat} {ls : rv_L} {a : rv_A} {s : List rv_A} {k : rv_L → List rv_A → Option rv_R} (hf : f a = true) (hi : i < nL) : rv_st1 f nL ls i (a :: s) k = k ((i, a) :: ls.filter (rv_keep1 i)) s := by
  show (if f a && decide (i < nL) then rv_flt (rv_keep1 i) ls (fun t => k ((i, a) :: t) s) else none) = _
  rw [if_pos (by rw [hf, decide_eq_true hi]; rfl), sx_flt_eq]
theorem rv_st2_f {nL i : Nat} {ls : rv_L} {a : rv_A} {s : List rv_A} {k : rv_L → List rv_A → Option rv_R} (hf : rv_isL a = true) (hi : i + 1 < nL) : rv_st2 nL ls i (a :: s) k = k ((i, a) :: ls.filter (rv_keep2 i)) s := by
  show (if rv_isL a && decide (i + 1 < nL) then rv_flt (rv_keep2 i) ls (fun t => k ((i, a) :: t) s) else none) = _
  rw [if_pos (by rw [hf, decide_eq_true hi]; rfl), sx_flt_eq]
theorem rv_inc_f {nL i : Nat} {ls : rv_L} {x : Int32} {c : Int} {k : rv_L → Option rv_R} (h : rv_lget ls i = some (.inl x)) (hi : i < nL) : rv_inc nL ls i c k = k ((i, .inl (x + Int32.ofInt c)) :: ls.filter (rv_keep1 i)) := by
  unfold rv_inc
  rw [h]
  show (if i < nL then rv_fI (x + Int32.ofInt c) (fun z => rv_flt (rv_keep1 i) ls (fun t => k ((i, .inl z) :: t))) else none) = _
  rw [if_pos hi, rv_fI_eq, sx_flt_eq]
section SXX1
variable {n : Nat} {σ : Nat → Int} {ls : sx_Ls} {lc : rv_L} {i : Nat}
theorem sx_ld0 {k : sx_V → Bool} (hh : sx_ld 0 ls i k = true) (hl : sx_lm n σ ls lc) : ∃ f x, k (sx_vi f) = true ∧ rv_lget lc i = some (.inl x) ∧ sx_b n f ∧ x.toInt = sx_d σ f := by
  obtain ⟨v, hm, hk, hp⟩ := sx_ld_i hh
  obtain ⟨a, hg, hv⟩ := hl _ hm
  rcases hp with ⟨-, f, rfl⟩ | ⟨h0, -⟩ | ⟨h0, -⟩
  · obtain ⟨hb, x, rfl, hx⟩ := hv
    exact ⟨f, x, hk, hg, hb, hx⟩
  · cases h0
  · cases h0
theorem sx_ld1 {k : sx_V → Bool} (hh : sx_ld 1 ls i k = true) (hl : sx_lm n σ ls lc) : ∃ f x, k (sx_vl f) = true ∧ rv_lget lc i = some (rv_lng x) ∧ sx_b n f ∧ x.toInt = sx_d σ f := by
  obtain ⟨v, hm, hk, hp⟩ := sx_ld_i hh
  obtain ⟨a, hg, hv⟩ := hl _ hm
  rcases hp with ⟨h0, -⟩ | ⟨-, f, rfl⟩ | ⟨h0, -⟩
  · cases h0
  · obtain ⟨hb, x, rfl, hx⟩ := hv
    exact ⟨f, x, hk, hg, hb, hx⟩
  · cases h0
theorem sx_ld2 {k : sx_V → Bool} (hh : sx_ld 2 ls i k = true) (hl : sx_lm n σ ls lc) : ∃ ks q, k (sx_vr ks) = true ∧ rv_lget lc i = some (rv_ref q) ∧ q ∈ ks := by
  obtain ⟨v, hm, hk, hp⟩ := sx_ld_i hh
  obtain ⟨a, hg, hv⟩ := hl _ hm
  rcases hp with ⟨h0, -⟩ | ⟨h0, -⟩ | ⟨-, ks, rfl⟩
  · cases h0
  · cases h0
  · obtain ⟨q, hq, rfl⟩ := hv
    exact ⟨ks, q, hk, hg, hq⟩
theorem sx_st0 {nL : Nat} {st : List sx_V} {sc : List rv_A} {k : sx_Ls → List sx_V → Bool} (hh : sx_st1 0 nL ls i st k = true) (hl : sx_lm n σ ls lc) (hs : sx_vs n σ st sc) : ∃ f r x s, st = sx_vi f :: r ∧ sc = .inl x :: s ∧ i < nL ∧ k ((i, sx_vi f) :: ls.filter (sx_k1 i)) r = true ∧ sx_lm n σ ((i, sx_vi f) :: ls.filter (sx_k1 i)) ((i, .inl x) :: lc.filter (rv_keep1 i)) ∧ sx_vs n σ r s := by
  obtain ⟨v, r, rfl, hp⟩ := sx_st1_i hh
  obtain ⟨a, s, rfl, hv, hs2⟩ := sx_vs_c hs
  rcases hp with ⟨-, ⟨f, rfl⟩, hi, hk⟩ | ⟨h0, -⟩ | ⟨h0, -⟩
  · have hl2 := sx_lm_1 (i := i) hl hv
    obtain ⟨hb, x, rfl, hx⟩ := hv
    exact ⟨f, r, x, s, rfl, rfl, hi, hk, hl2, hs2⟩
  · cases h0
  · cases h0
theorem sx_stL {nL : Nat} {st : List sx_V} {sc : List rv_A} {k : sx_Ls → List sx_V → Bool} (hh : sx_st1 1 nL ls i st k = true) (hl : sx_lm n σ ls lc) (hs : sx_vs n σ st sc) : ∃ f r x s, st = sx_vl f :: r ∧ sc = rv_lng x :: s ∧ i + 1 < nL ∧ k ((i, sx_vl f) :: ls.filter (sx_k2 i)) r = true ∧ sx_lm n σ ((i, sx_vl f) :: ls.filter (sx_k2 i)) ((i, rv_lng x) :: lc.filter (rv_keep2 i)) ∧ sx_vs n σ r s := by
  obtain ⟨v, r, rfl, hp⟩ := sx_st1_i hh
  obtain ⟨a, s, rfl, hv, hs2⟩ := sx_vs_c hs
  rcases hp with ⟨h0, -⟩ | ⟨-, ⟨f, rfl⟩, hi, hk⟩ | ⟨h0, -⟩
  · cases h0
  · have hl2 := sx_lm_2 (i := i) hl hv
    obtain ⟨hb, x, rfl, hx⟩ := hv
    exact ⟨f, r, x, s, rfl, rfl, hi, hk, hl2, hs2⟩
  · cases h0
theorem sx_stR {nL : Nat} {st : List sx_V} {sc : List rv_A} {k : sx_Ls → List sx_V → Bool} (hh : sx_st1 2 nL ls i st k = true) (hl : sx_lm n σ ls lc) (hs : sx_vs n σ st sc) : ∃ v r q s, st = v :: r ∧ sc = rv_ref q :: s ∧ i < nL ∧ k ((i, v) :: ls.filter (sx_k1 i)) r = true ∧ sx_lm n σ ((i, v) :: ls.filter (sx_k1 i)) ((i, rv_ref q) :: lc.filter (rv_keep1 i)) ∧ sx_vs n σ r s := by
  obtain ⟨v, r, rfl, hp⟩ := sx_st1_i hh
  obtain ⟨a, s, rfl, hv, hs2⟩ := sx_vs_c hs
  rcases hp with ⟨h0, -⟩ | ⟨h0, -⟩ | ⟨-, ⟨ks, rfl⟩, hi, hk⟩
  · cases h0
  · cases h0
  · have hl2 := sx_lm_1 (i := i) hl hv
    obtain ⟨q, hq, rfl⟩ := hv
    exact ⟨_, r, q, s, rfl, rfl, hi, hk, hl2, hs2⟩
end SXX1
theorem sx_cdn_ok {lv n : Nat} {tb : sx_T} {cs : List sx_F} {σ : Nat → Int} {c : ClassFile.Cond} {f : sx_F} {k : sx_KT} (h : sx_S sx_sr n tb cs σ) (hb : sx_b n f) (hf : sx_ct1 c (sx_d σ f)) (hh : sx_cdn lv tb cs c f k = true) : ∃ tb' cs', k tb' cs' = true ∧ sx_S sx_sr n tb' cs' σ := by
  unfold sx_cdn at hh
  cases hl : Nat.ble 40 lv with
  | false => rw [hl] at hh; exact sx_cd_ok h hb hf hh
  | true =>
    rw [hl] at hh
    cases c with
    | ne =>
      replace hh : (sx_cd sx_sr tb cs .gt f k && sx_cd sx_sr tb cs .lt f k) = true := hh
      rw [Bool.and_eq_true] at hh
      have hf : sx_d σ f ≠ 0 := hf
      by_cases e : 0 < sx_d σ f
      · exact sx_cd_ok (c := .gt) h hb e hh.1
      · exact sx_cd_ok (c := .lt) h hb (show sx_d σ f < 0 by omega) hh.2
    | eq => exact sx_cd_ok h hb hf hh
    | lt => exact sx_cd_ok h hb hf hh
    | ge => exact sx_cd_ok h hb hf hh
    | gt => exact sx_cd_ok h hb hf hh
    | le => exact sx_cd_ok h hb hf hh
theorem sx_cmp_i {lv : Nat} {c : ClassFile.Cond} {f : sx_F} {n : Nat} {tb : sx_T} {cs : List sx_F} {hp : sx_Hp} {kt kf : sx_Kx} (hh : sx_cmp lv c f n tb cs hp kt kf = true) : sx_cdn lv tb cs c f (fun tb' cs' => kt n tb' cs' hp) = true ∧ sx_cdn lv tb cs (sx_ng c) f (fun tb' cs' => kf n tb' cs' hp) = true := by
  unfold sx_cmp at hh
  rw [Bool.and_eq_true] at hh
  cases c <;> exact hh
/-- a branch: x stands to y as f to 0 -/
theorem sx_br {lv : Nat} {c : ClassFile.Cond} {f : sx_F} {n : Nat} {tb : sx_T} {cs : List sx_F} {hp : sx_Hp} {σ : Nat → Int} {h : List rv_C} {ih : sx_Kw} {ct cf : List rv_I} {ls : sx_Ls} {r : List sx_V} {lc : rv_L} {s : List rv_A} {code : List rv_I} {sc : List rv_A} {x y : Int32} (hP : sx_P l ρ d m0 σ0 body nL rt Q ih) (hs1 : sx_sf body ct) (hs2 : sx_sf body cf) (hh : sx_cmp lv c f n tb cs hp (ih ct ls r) (ih cf ls r) = true) (hal : sx_ba m0 σ0 n σ) (hS : sx_St n tb cs hp σ h) (hls : sx_lm n σ ls lc) (hs : sx_vs n σ r s) (hb : sx_b n f) (hxy : sx_ct1 c (x.toInt - y.toInt) ↔ sx_ct1 c (sx_d σ f)) (hst : ∀ (cl : sx_K) (ih' : rv_K), rv_step cl rv_nw rv_ct body nL rt ih' code lc sc h 0 0 = rv_br (rv_cmp c (.inl x) (.inl y)) (ih' ct lc s h 0 0) (ih' cf lc s h 0 0)) : sx_G l ρ d body nL rt code lc sc h Q := by
  obtain ⟨h1, h2⟩ := sx_cmp_i hh
  obtain ⟨q1, q2⟩ := sx_rcmp c x y
  by_cases hc : sx_ct1 c (sx_d σ f)
  · obtain ⟨tb', cs', hk, hS'⟩ := sx_cdn_ok hS.2.1 hb hc h1
    refine sx_G_of (code' := ct) (ls' := lc) (st' := s) (h' := h) (fun cl ih' => ?_) (hP _ hs1 _ _ _ _ _ _ σ lc _ h hk hal ⟨hS.1, hS', hS.2.2⟩ hls hs)
    rw [hst, q1 (hxy.mpr hc)]
    rfl
  · obtain ⟨tb', cs', hk, hS'⟩ := sx_cdn_ok hS.2.1 hb (sx_ct_ng hc) h2
    refine sx_G_of (code' := cf) (ls' := lc) (st' := s) (h' := h) (fun cl ih' => ?_) (hP _ hs2 _ _ _ _ _ _ σ lc _ h hk hal ⟨hS.1, hS', hS.2.2⟩ hls hs)
    rw [hst, q2 (fun z => hc (hxy.mp z))]
    rfl
/-- a sign stands to 0 as the difference does -/
theorem sx_sgn {c : ClassFile.Cond} {x : Int32} {z : Int} (h : (x = 1 ∧ 0 < z) ∨ (x = 0 ∧ z = 0) ∨ (x = -1 ∧ z < 0)) : sx_ct1 c (x.toInt - (0 : Int32).toInt) ↔ sx_ct1 c z := by
  have e0 : (0 : Int32).toInt = 0 := by decide
  have e1 : (1 : Int32).toInt = 1 := by decide
  have e2 : (-1 : Int32).toInt = -1 := by decide
  rcases h with ⟨rfl, hz⟩ | ⟨rfl, hz⟩ | ⟨rfl, hz⟩
  · rw [e0, e1]
    cases c
    · show (1 : Int) - 0 = 0 ↔ z = 0; omega
    · show (1 : Int) - 0 ≠ 0 ↔ z ≠ 0; omega
    · show (1 : Int) - 0 < 0 ↔ z < 0; omega
    · show 0 ≤ (1 : Int) - 0 ↔ 0 ≤ z; omega
    · show 0 < (1 : Int) - 0 ↔ 0 < z; omega
    · show (1 : Int) - 0 ≤ 0 ↔ z ≤ 0; omega
  · rw [e0]
    cases c
    · show (0 : Int) - 0 = 0 ↔ z = 0; omega
    · show (0 : Int) - 0 ≠ 0 ↔ z ≠ 0; omega
    · show (0 : Int) - 0 < 0 ↔ z < 0; omega
    · show 0 ≤ (0 : Int) - 0 ↔ 0 ≤ z; omega
    · show 0 < (0 : Int) - 0 ↔ 0 < z; omega
    · show (0 : Int) - 0 ≤ 0 ↔ z ≤ 0; omega
  · rw [e0, e2]
    cases c
    · show (-1 : Int) - 0 = 0 ↔ z = 0; omega
    · show (-1 : Int) - 0 ≠ 0 ↔ z ≠ 0; omega
    · show (-1 : Int) - 0 < 0 ↔ z < 0; omega
    · show 0 ≤ (-1 : Int) - 0 ↔ 0 ≤ z; omega
    · show 0 < (-1 : Int) - 0 ↔ 0 < z; omega
    · show (-1 : Int) - 0 ≤ 0 ↔ z ≤ 0; omega
theorem sx_lcmp (x y : Int64) : (lg_cmp x y = 1 ∧ 0 < x.toInt - y.toInt) ∨ (lg_cmp x y = 0 ∧ x.toInt - y.toInt = 0) ∨ (lg_cmp x y = -1 ∧ x.toInt - y.toInt < 0) := by
  unfold lg_cmp
  split
  · rename_i h
    have := Int64.lt_iff_toInt_lt.mp h
    left
    exact ⟨rfl, by omega⟩
  · rename_i h
    split
    · rename_i h2
      subst h2
      right; left
      exact ⟨rfl, by omega⟩
    · rename_i h2
      have h3 : ¬ y.toInt < x.toInt := fun z => h (Int64.lt_iff_toInt_lt.mpr z)
      have h4 : x.toInt ≠ y.toInt := fun z => h2 (Int64.toInt_inj.mp z)
      right; right
      exact ⟨rfl, by omega⟩
end SXX
