section SXW
variable {l : Launch} {ρ : rv_ρ} {d : Nat} {m0 : Nat} {σ0 : Nat → Int} {body : List rv_I} {nL rt : Nat} {Q : rv_O → Prop}
def sx_ba (m0 : Nat) (σ0 : Nat → Int) (n : Nat) (σ : Nat → Int) : Prop := m0 ≤ n ∧ sx_al m0 σ0 σ
theorem sx_ba_t {m0 n n' : Nat} {σ0 σ σ' : Nat → Int} (h : sx_ba m0 σ0 n σ) (ha : sx_al n σ σ') (hn : n ≤ n') : sx_ba m0 σ0 n' σ' := ⟨Nat.le_trans h.1 hn, sx_al_t h.2 ha h.1⟩
/-- the code is a tail of the body -/
def sx_sf (body code : List rv_I) : Prop := ∃ pre, body = pre ++ code
theorem sx_sf_c {body rest : List rv_I} {e : rv_I} (h : sx_sf body (e :: rest)) : sx_sf body rest := by
  obtain ⟨pre, h⟩ := h
  exact ⟨pre ++ [e], by rw [h, List.append_assoc]; rfl⟩
theorem sx_sf_d {body : List rv_I} {a : Nat} : sx_sf body (rv_drop a body) := ⟨body.take a, by rw [rv_drop_eq]; exact (List.take_append_drop a body).symm⟩
/-- what a walk's word is worth -/
def sx_P (l : Launch) (ρ : rv_ρ) (d m0 : Nat) (σ0 : Nat → Int) (body : List rv_I) (nL rt : Nat) (Q : rv_O → Prop) (ih : sx_Kw) : Prop := ∀ (code : List rv_I), sx_sf body code → ∀ (ls : sx_Ls) (st : List sx_V) (n : Nat) (tb : sx_T) (cs : List sx_F) (hp : sx_Hp) (σ : Nat → Int) (lc : rv_L) (sc : List rv_A) (h : List rv_C), ih code ls st n tb cs hp = true → sx_ba m0 σ0 n σ → sx_St n tb cs hp σ h → sx_lm n σ ls lc → sx_vs n σ st sc → sx_G l ρ d body nL rt code lc sc h Q
def sx_Pr (m0 : Nat) (σ0 : Nat → Int) (Q : rv_O → Prop) (ret : sx_Kr) : Prop := ∀ (rv : Option sx_V) (n : Nat) (tb : sx_T) (cs : List sx_F) (hp : sx_Hp) (σ : Nat → Int) (h : List rv_C) (o : Option rv_A), ret rv n tb cs hp = true → sx_ba m0 σ0 n σ → sx_St n tb cs hp σ h → sx_om n σ rv o → Q (o, h)
def sx_Qc (n : Nat) (σ : Nat → Int) (k : sx_Kr) (o : rv_O) : Prop := ∃ (rv : Option sx_V) (n' : Nat) (tb' : sx_T) (cs' : List sx_F) (hp' : sx_Hp) (σ' : Nat → Int), k rv n' tb' cs' hp' = true ∧ sx_al n σ σ' ∧ n ≤ n' ∧ sx_St n' tb' cs' hp' σ' o.2 ∧ sx_om n' σ' rv o.1
def sx_Pc (l : Launch) (ρ : rv_ρ) (d : Nat) (cal : sx_Kc) : Prop := ∀ (mi : Nat) (as : List sx_V) (k : sx_Kr) (n : Nat) (tb : sx_T) (cs : List sx_F) (hp : sx_Hp) (σ : Nat → Int) (ac : List rv_A) (h : List rv_C), cal mi as k n tb cs hp = true → sx_St n tb cs hp σ h → sx_vs n σ as ac → sx_Ct l ρ d mi ac h (sx_Qc n σ k)
section SXW1
variable {ih : sx_Kw} {rest : List rv_I} {ls : sx_Ls} {t : List sx_V} {n : Nat} {tb : sx_T} {cs : List sx_F} {hp : sx_Hp} {σ : Nat → Int} {lc : rv_L} {s : List rv_A} {h : List rv_C}
theorem sx_St_m {n' : Nat} {tb' : sx_T} {cs' : List sx_F} {σ' : Nat → Int} (hS : sx_St n tb cs hp σ h) (h1 : sx_S sx_sr n' tb' cs' σ') (ha : sx_al n σ σ') (hn : n ≤ n') : sx_St n' tb' cs' hp σ' h := ⟨Nat.le_trans hS.1 hn, h1, sx_H_m hS.1 hn ha hS.2.2⟩
theorem sx_goi {z : Int32} (hP : sx_P l ρ d m0 σ0 body nL rt Q ih) (hsf : sx_sf body rest) (hR : sx_R sx_sr n σ (fun r n' tb' cs' => ih rest ls (sx_vi r :: t) n' tb' cs' hp) z.toInt) (hal : sx_ba m0 σ0 n σ) (hS : sx_St n tb cs hp σ h) (hls : sx_lm n σ ls lc) (hst : sx_vs n σ t s) : sx_G l ρ d body nL rt rest lc (.inl z :: s) h Q := by
  obtain ⟨r, n', tb', cs', σ', hk, h1, ha, hn, hb, hv⟩ := hR
  exact hP _ hsf _ _ _ _ _ _ σ' lc _ h hk (sx_ba_t hal ha hn) (sx_St_m hS h1 ha hn) (sx_lm_m hn ha hls) ⟨⟨hb, z, rfl, hv⟩, sx_vs_m hn ha hst⟩
theorem sx_gol {z : Int64} (hP : sx_P l ρ d m0 σ0 body nL rt Q ih) (hsf : sx_sf body rest) (hR : sx_R sx_sr n σ (fun r n' tb' cs' => ih rest ls (sx_vl r :: t) n' tb' cs' hp) z.toInt) (hal : sx_ba m0 σ0 n σ) (hS : sx_St n tb cs hp σ h) (hls : sx_lm n σ ls lc) (hst : sx_vs n σ t s) : sx_G l ρ d body nL rt rest lc (rv_lng z :: s) h Q := by
  obtain ⟨r, n', tb', cs', σ', hk, h1, ha, hn, hb, hv⟩ := hR
  exact hP _ hsf _ _ _ _ _ _ σ' lc _ h hk (sx_ba_t hal ha hn) (sx_St_m hS h1 ha hn) (sx_lm_m hn ha hls) ⟨⟨hb, z, rfl, hv⟩, sx_vs_m hn ha hst⟩
end SXW1
theorem sx_bi_i {op : sx_Op} {st : List sx_V} {n : Nat} {tb : sx_T} {cs : List sx_F} {k : List sx_V → Nat → sx_T → List sx_F → Bool} (hh : sx_bi op st n tb cs k = true) : ∃ y x r, st = sx_vi y :: sx_vi x :: r ∧ op x y n tb cs (fun f n' tb' cs' => k (sx_vi f :: r) n' tb' cs') = true := by
  unfold sx_bi at hh
  split at hh
  · exact ⟨_, _, _, rfl, hh⟩
  · cases hh
theorem sx_bl_i {op : sx_Op} {st : List sx_V} {n : Nat} {tb : sx_T} {cs : List sx_F} {k : List sx_V → Nat → sx_T → List sx_F → Bool} (hh : sx_bl op st n tb cs k = true) : ∃ y x r, st = sx_vl y :: sx_vl x :: r ∧ op x y n tb cs (fun f n' tb' cs' => k (sx_vl f :: r) n' tb' cs') = true := by
  unfold sx_bl at hh
  split at hh
  · exact ⟨_, _, _, rfl, hh⟩
  · cases hh
theorem sx_bs_i {op : sx_Op} {st : List sx_V} {n : Nat} {tb : sx_T} {cs : List sx_F} {k : List sx_V → Nat → sx_T → List sx_F → Bool} (hh : sx_bs op st n tb cs k = true) : ∃ y x r, st = sx_vi y :: sx_vl x :: r ∧ op x y n tb cs (fun f n' tb' cs' => k (sx_vl f :: r) n' tb' cs') = true := by
  unfold sx_bs at hh
  split at hh
  · exact ⟨_, _, _, rfl, hh⟩
  · cases hh
theorem sx_ld_i {p : Nat} {ls : sx_Ls} {i : Nat} {k : sx_V → Bool} (hh : sx_ld p ls i k = true) : ∃ v, (i, v) ∈ ls ∧ k v = true ∧ ((p = 0 ∧ ∃ f, v = sx_vi f) ∨ (p = 1 ∧ ∃ f, v = sx_vl f) ∨ (p = 2 ∧ ∃ ks, v = sx_vr ks)) := by
  unfold sx_ld at hh
  split at hh
  · rename_i v hv
    have hm := sx_lg_i hv
    split at hh
    · exact ⟨_, hm, hh, Or.inl ⟨rfl, _, rfl⟩⟩
    · exact ⟨_, hm, hh, Or.inr (Or.inl ⟨rfl, _, rfl⟩)⟩
    · exact ⟨_, hm, hh, Or.inr (Or.inr ⟨rfl, _, rfl⟩)⟩
    · cases hh
  · cases hh
theorem sx_flt_eq {α β : Type} (f : α → Bool) : ∀ (l : List α) (k : List α → β), rv_flt f l k = k (l.filter f) := by
  intro l
  induction l with
  | nil => intro k; rfl
  | cons a t ih =>
    intro k
    show Bool.rec (motive := fun _ => β) (rv_flt f t k) (rv_flt f t (fun t' => k (a :: t'))) (f a) = _
    cases hf : f a with
    | false => rw [List.filter_cons_of_neg (by simp [hf])]; exact ih k
    | true => rw [List.filter_cons_of_pos hf]; exact ih _
theorem sx_st1_i {p nL : Nat} {ls : sx_Ls} {i : Nat} {st : List sx_V} {k : sx_Ls → List sx_V → Bool} (hh : sx_st1 p nL ls i st k = true) : ∃ v r, st = v :: r ∧ ((p = 0 ∧ (∃ f, v = sx_vi f) ∧ i < nL ∧ k ((i, v) :: ls.filter (sx_k1 i)) r = true) ∨ (p = 1 ∧ (∃ f, v = sx_vl f) ∧ i + 1 < nL ∧ k ((i, v) :: ls.filter (sx_k2 i)) r = true) ∨ (p = 2 ∧ (∃ ks, v = sx_vr ks) ∧ i < nL ∧ k ((i, v) :: ls.filter (sx_k1 i)) r = true)) := by
  unfold sx_st1 at hh
  split at hh
  · rename_i v r
    refine ⟨v, r, rfl, ?_⟩
    split at hh
    · rw [Bool.and_eq_true, sx_flt_eq] at hh
      exact Or.inl ⟨rfl, ⟨_, rfl⟩, Nat.le_of_ble_eq_true hh.1, hh.2⟩
    · rw [Bool.and_eq_true, sx_flt_eq] at hh
      exact Or.inr (Or.inl ⟨rfl, ⟨_, rfl⟩, Nat.le_of_ble_eq_true hh.1, hh.2⟩)
    · rw [Bool.and_eq_true, sx_flt_eq] at hh
      exact Or.inr (Or.inr ⟨rfl, ⟨_, rfl⟩, Nat.le_of_ble_eq_true hh.1, hh.2⟩)
    · cases hh
  · cases hh
theorem sx_in_ok {n : Nat} {tb : sx_T} {cs : List sx_F} {σ : Nat → Int} {lv : Nat} {lo hi : Int} {f : sx_F} (h : sx_S sx_sr n tb cs σ) (hh : sx_in lv tb cs lo hi f = true) : lo ≤ sx_d σ f ∧ sx_d σ f ≤ hi := by
  unfold sx_in at hh
  rw [Bool.and_eq_true] at hh
  obtain ⟨g1, a1, a2, -⟩ := sx_ad_ok (β := Bool) (-1) f (lo, [])
  obtain ⟨g2, b1, b2, -⟩ := sx_ad_ok (β := Bool) (-1) (hi, []) f
  rw [a1, b1] at hh
  have c1 := sx_ge_ok h hh.1
  have c2 := sx_ge_ok h hh.2
  rw [a2] at c1
  rw [b2] at c2
  have d1 : sx_d σ ((lo, []) : sx_F) = lo := by simp [sx_d, sx_dl]
  have d2 : sx_d σ ((hi, []) : sx_F) = hi := by simp [sx_d, sx_dl]
  rw [d1] at c1
  rw [d2] at c2
  omega
def sx_ng (c : ClassFile.Cond) : ClassFile.Cond := match c with
  | .eq => .ne
  | .ne => .eq
  | .lt => .ge
  | .ge => .lt
  | .gt => .le
  | .le => .gt
theorem sx_ct_ng {c : ClassFile.Cond} {x : Int} (h : ¬ sx_ct1 c x) : sx_ct1 (sx_ng c) x := by
  cases c
  · exact h
  · show x = 0
    exact Decidable.of_not_not h
  · exact Int.not_lt.mp h
  · exact Int.not_le.mp h
  · exact Int.not_lt.mp h
  · exact Int.not_le.mp h
/-- how ints stand to each other, by their difference -/
theorem sx_rcmp (c : ClassFile.Cond) (x y : Int32) : (sx_ct1 c (x.toInt - y.toInt) → rv_cmp c (.inl x) (.inl y) = some true) ∧ (¬ sx_ct1 c (x.toInt - y.toInt) → rv_cmp c (.inl x) (.inl y) = some false) := by
  have hlt : ∀ x y : Int32, (x.toInt < y.toInt → rv_ltq (.inl x) (.inl y) = some true) ∧ (¬ x.toInt < y.toInt → rv_ltq (.inl x) (.inl y) = some false) := by
    intro x y
    refine ⟨fun h => ?_, fun h => ?_⟩
    · unfold rv_ltq
      rw [if_pos (show rv_hi (.inl x) < rv_lo (.inl y) from Int32.lt_iff_toInt_lt.mpr h)]
    · unfold rv_ltq
      rw [if_neg (show ¬ rv_hi (.inl x) < rv_lo (.inl y) from fun z => h (Int32.lt_iff_toInt_lt.mp z)), if_pos (show rv_hi (.inl y) ≤ rv_lo (.inl x) from Int32.le_iff_toInt_le.mpr (by show y.toInt ≤ x.toInt; omega))]
  have heq : (x.toInt = y.toInt → rv_eqq (.inl x) (.inl y) = some true) ∧ (¬ x.toInt = y.toInt → rv_eqq (.inl x) (.inl y) = some false) := by
    refine ⟨fun h => ?_, fun h => ?_⟩
    · have e : x = y := Int32.toInt_inj.mp h
      subst e
      unfold rv_eqq
      rw [if_neg (show ¬ rv_hi (.inl x) < rv_lo (.inl x) from Int32.lt_irrefl), if_neg (show ¬ rv_hi (.inl x) < rv_lo (.inl x) from Int32.lt_irrefl), if_pos ⟨rfl, rfl⟩]
    · unfold rv_eqq
      by_cases h1 : x.toInt < y.toInt
      · rw [if_pos (show rv_hi (.inl x) < rv_lo (.inl y) from Int32.lt_iff_toInt_lt.mpr h1)]
      · rw [if_neg (show ¬ rv_hi (.inl x) < rv_lo (.inl y) from fun z => h1 (Int32.lt_iff_toInt_lt.mp z)), if_pos (show rv_hi (.inl y) < rv_lo (.inl x) from Int32.lt_iff_toInt_lt.mpr (by show y.toInt < x.toInt; omega))]
  cases c with
  | eq => exact ⟨fun h => heq.1 (by have h : x.toInt - y.toInt = 0 := h; omega), fun h => heq.2 (fun z => h (by show x.toInt - y.toInt = 0; omega))⟩
  | ne => exact ⟨fun h => by show rv_not _ = _; rw [heq.2 (fun z => h (by show x.toInt - y.toInt = 0; omega))]; rfl, fun h => by show rv_not _ = _; rw [heq.1 (by have h : ¬ (x.toInt - y.toInt ≠ 0) := h; omega)]; rfl⟩
  | lt => exact ⟨fun h => (hlt x y).1 (by have h : x.toInt - y.toInt < 0 := h; omega), fun h => (hlt x y).2 (fun z => h (by show x.toInt - y.toInt < 0; omega))⟩
  | ge => exact ⟨fun h => by show rv_not _ = _; rw [(hlt x y).2 (by have h : 0 ≤ x.toInt - y.toInt := h; omega)]; rfl, fun h => by show rv_not _ = _; rw [(hlt x y).1 (by have h : ¬ 0 ≤ x.toInt - y.toInt := h; omega)]; rfl⟩
  | gt => exact ⟨fun h => (hlt y x).1 (by have h : 0 < x.toInt - y.toInt := h; omega), fun h => (hlt y x).2 (fun z => h (by show 0 < x.toInt - y.toInt; omega))⟩
  | le => exact ⟨fun h => by show rv_not _ = _; rw [(hlt y x).2 (by have h : x.toInt - y.toInt ≤ 0 := h; omega)]; rfl, fun h => by show rv_not _ = _; rw [(hlt y x).1 (by have h : ¬ x.toInt - y.toInt ≤ 0 := h; omega)]; rfl⟩
end SXW
