/-! what the evaluator's values, locals and cells stand for -/
def rv_V (ρ : rv_ρ) (L : List Nat) (a : rv_A) (v : Value) : Prop := match a with
  | .inl x => v = .int x
  | .inr (.inl (lo, hi)) => ∃ x : Int32, v = .int x ∧ lo ≤ x ∧ x ≤ hi
  | .inr (.inr (.inl x)) => v = .long x
  | .inr (.inr (.inr (.inl n))) => ∃ x : Int64, v = .long x ∧ ∀ k, n = k + 1 → x = ρ.1 k
  | .inr (.inr (.inr (.inr none))) => v = .null
  | .inr (.inr (.inr (.inr (some k)))) => ∃ q, (if k < 100000 then L[k]? else some (ρ.2.1 (k - 100000))) = some q ∧ v = .ref q
def rv_Vs (ρ : rv_ρ) (L : List Nat) : List rv_A → List Value → Prop
  | [], [] => True
  | a :: as, v :: vs => rv_V ρ L a v ∧ rv_Vs ρ L as vs
  | _, _ => False
def rv_Ls (ρ : rv_ρ) (L : List Nat) : rv_L → List (Nat × Value) → Prop
  | [], [] => True
  | a :: as, v :: vs => a.1 = v.1 ∧ rv_V ρ L a.2 v.2 ∧ rv_Ls ρ L as vs
  | _, _ => False
section RVC
variable {ρ : rv_ρ} {L L' : List Nat}
theorem rv_Vs_c {a : rv_A} {as : List rv_A} {stk : List Value} (h : rv_Vs ρ L (a :: as) stk) : ∃ v vs, stk = v :: vs ∧ rv_V ρ L a v ∧ rv_Vs ρ L as vs := by
  cases stk with
  | nil => cases h
  | cons v vs => exact ⟨v, vs, rfl, h.1, h.2⟩
theorem rv_Vs_n {stk : List Value} (h : rv_Vs ρ L [] stk) : stk = [] := by
  cases stk with
  | nil => rfl
  | cons v vs => cases h
theorem rv_Ls_c {a : Nat × rv_A} {as : rv_L} {lv : List (Nat × Value)} (h : rv_Ls ρ L (a :: as) lv) : ∃ v vs, lv = v :: vs ∧ a.1 = v.1 ∧ rv_V ρ L a.2 v.2 ∧ rv_Ls ρ L as vs := by
  cases lv with
  | nil => cases h
  | cons v vs => exact ⟨v, vs, rfl, h.1, h.2.1, h.2.2⟩
theorem rv_V_top (x : Int32) : rv_V ρ L rv_top (.int x) := by
  refine ⟨x, rfl, ?_, ?_⟩
  · rw [Int32.le_iff_toInt_le]
    have := x.le_toInt
    exact this
  · rw [Int32.le_iff_toInt_le]
    have := x.toInt_lt
    have e : (2147483647 : Int32).toInt = 2147483647 := by decide
    rw [e]
    omega
theorem rv_V_any (x : Int64) : rv_V ρ L (rv_sym 0) (.long x) := ⟨x, rfl, fun k h => by cases h⟩
theorem rv_V_I {a : rv_A} {v : Value} (hi : rv_isI a = true) (h : rv_V ρ L a v) : ∃ x : Int32, v = .int x ∧ rv_lo a ≤ x ∧ x ≤ rv_hi a := by
  unfold rv_isI at hi
  split at hi
  · exact ⟨_, h, Int32.le_refl _, Int32.le_refl _⟩
  · obtain ⟨x, h1, h2, h3⟩ := h
    exact ⟨x, h1, h2, h3⟩
  · cases hi
theorem rv_V_L {a : rv_A} {v : Value} (hi : rv_isL a = true) (h : rv_V ρ L a v) : ∃ x : Int64, v = .long x := by
  unfold rv_isL at hi
  split at hi
  · exact ⟨_, h⟩
  · obtain ⟨x, h1, -⟩ := h
    exact ⟨x, h1⟩
  · cases hi
theorem rv_V_R {a : rv_A} {v : Value} (hi : rv_isR a = true) (h : rv_V ρ L a v) : ∃ q, v = .ref q := by
  unfold rv_isR at hi
  split at hi
  · obtain ⟨q, -, h1⟩ := h
    exact ⟨q, h1⟩
  · cases hi
theorem rv_V_cat {a : rv_A} {v : Value} (h : rv_V ρ L a v) : v.category = rv_cat a := by
  unfold rv_V at h
  split at h
  · rw [h]; rfl
  · obtain ⟨x, h1, -⟩ := h; rw [h1]; rfl
  · rw [h]; rfl
  · obtain ⟨x, h1, -⟩ := h; rw [h1]; rfl
  · rw [h]; rfl
  · obtain ⟨x, -, h1⟩ := h; rw [h1]; rfl
theorem rv_V_c1 {a : rv_A} {v : Value} (hl : rv_isL a = false) (h : rv_V ρ L a v) : v.category = 1 := by
  rw [rv_V_cat h]; unfold rv_cat; rw [hl]; rfl
theorem rv_V_mono {a : rv_A} {v : Value} (hL : ∀ (k q : Nat), L[k]? = some q → L'[k]? = some q) (h : rv_V ρ L a v) : rv_V ρ L' a v := by
  unfold rv_V at h ⊢
  split at h
  · exact h
  · exact h
  · exact h
  · exact h
  · exact h
  · obtain ⟨q, h1, h2⟩ := h
    refine ⟨q, ?_, h2⟩
    split at h1
    · rename_i hk
      rw [if_pos hk]
      exact hL _ _ h1
    · rename_i hk
      rw [if_neg hk]
      exact h1
theorem rv_Vs_mono (hL : ∀ (k q : Nat), L[k]? = some q → L'[k]? = some q) : ∀ {as : List rv_A} {vs : List Value}, rv_Vs ρ L as vs → rv_Vs ρ L' as vs := by
  intro as
  induction as with
  | nil => intro vs h; rw [rv_Vs_n h]; exact True.intro
  | cons a t ih =>
    intro vs h
    obtain ⟨v, vs, rfl, h1, h2⟩ := rv_Vs_c h
    exact ⟨rv_V_mono hL h1, ih h2⟩
theorem rv_Ls_mono (hL : ∀ (k q : Nat), L[k]? = some q → L'[k]? = some q) : ∀ {as : rv_L} {vs : List (Nat × Value)}, rv_Ls ρ L as vs → rv_Ls ρ L' as vs := by
  intro as
  induction as with
  | nil => intro vs h; cases vs with
    | nil => exact True.intro
    | cons v vs => cases h
  | cons a t ih =>
    intro vs h
    obtain ⟨v, vs, rfl, h0, h1, h2⟩ := rv_Ls_c h
    exact ⟨h0, rv_V_mono hL h1, ih h2⟩
-- arithmetic
theorem rv_ib_i {f : Int32 → Int32 → Int32} {st : List rv_A} {k : List rv_A → Option rv_R} {res : rv_R} (h : rv_ib f st k = some res) : ∃ st', k st' = some res ∧ ∀ (ρ : rv_ρ) (L : List Nat) (stk : List Value), rv_Vs ρ L st stk → ∃ (x y : Int32) (r : List Value), stk = .int y :: .int x :: r ∧ rv_Vs ρ L st' (.int (f x y) :: r) := by
  unfold rv_ib at h
  split at h
  · rw [rv_fI_eq] at h
    refine ⟨_, h, fun ρ L stk hs => ?_⟩
    obtain ⟨v, vs, rfl, h1, hs1⟩ := rv_Vs_c hs
    obtain ⟨w, ws, rfl, h2, hs2⟩ := rv_Vs_c hs1
    cases h1; cases h2
    exact ⟨_, _, ws, rfl, rfl, hs2⟩
  · split at h
    · rename_i hq
      rw [Bool.and_eq_true] at hq
      refine ⟨_, h, fun ρ L stk hs => ?_⟩
      obtain ⟨v, vs, rfl, h1, hs1⟩ := rv_Vs_c hs
      obtain ⟨w, ws, rfl, h2, hs2⟩ := rv_Vs_c hs1
      obtain ⟨y, rfl, -, -⟩ := rv_V_I hq.1 h1
      obtain ⟨x, rfl, -, -⟩ := rv_V_I hq.2 h2
      exact ⟨x, y, ws, rfl, rv_V_top _, hs2⟩
    · cases h
  · cases h
theorem rv_iu_i {f : Int32 → Int32} {st : List rv_A} {k : List rv_A → Option rv_R} {res : rv_R} (h : rv_iu f st k = some res) : ∃ st', k st' = some res ∧ ∀ (ρ : rv_ρ) (L : List Nat) (stk : List Value), rv_Vs ρ L st stk → ∃ (x : Int32) (r : List Value), stk = .int x :: r ∧ rv_Vs ρ L st' (.int (f x) :: r) := by
  unfold rv_iu at h
  split at h
  · rw [rv_fI_eq] at h
    refine ⟨_, h, fun ρ L stk hs => ?_⟩
    obtain ⟨v, vs, rfl, h1, hs1⟩ := rv_Vs_c hs
    cases h1
    exact ⟨_, vs, rfl, rfl, hs1⟩
  · split at h
    · rename_i hq
      refine ⟨_, h, fun ρ L stk hs => ?_⟩
      obtain ⟨v, vs, rfl, h1, hs1⟩ := rv_Vs_c hs
      obtain ⟨y, rfl, -, -⟩ := rv_V_I hq h1
      exact ⟨y, vs, rfl, rv_V_top _, hs1⟩
    · cases h
  · cases h
theorem rv_lb_i {f : Int64 → Int64 → Int64} {st : List rv_A} {k : List rv_A → Option rv_R} {res : rv_R} (h : rv_lb f st k = some res) : ∃ st', k st' = some res ∧ ∀ (ρ : rv_ρ) (L : List Nat) (stk : List Value), rv_Vs ρ L st stk → ∃ (x y : Int64) (r : List Value), stk = .long y :: .long x :: r ∧ rv_Vs ρ L st' (.long (f x y) :: r) := by
  unfold rv_lb at h
  split at h
  · rw [rv_fL_eq] at h
    refine ⟨_, h, fun ρ L stk hs => ?_⟩
    obtain ⟨v, vs, rfl, h1, hs1⟩ := rv_Vs_c hs
    obtain ⟨w, ws, rfl, h2, hs2⟩ := rv_Vs_c hs1
    cases h1; cases h2
    exact ⟨_, _, ws, rfl, rfl, hs2⟩
  · split at h
    · rename_i hq
      rw [Bool.and_eq_true] at hq
      refine ⟨_, h, fun ρ L stk hs => ?_⟩
      obtain ⟨v, vs, rfl, h1, hs1⟩ := rv_Vs_c hs
      obtain ⟨w, ws, rfl, h2, hs2⟩ := rv_Vs_c hs1
      obtain ⟨y, rfl⟩ := rv_V_L hq.1 h1
      obtain ⟨x, rfl⟩ := rv_V_L hq.2 h2
      exact ⟨x, y, ws, rfl, rv_V_any _, hs2⟩
    · cases h
  · cases h
theorem rv_ls_i {f : Int64 → Int32 → Int64} {st : List rv_A} {k : List rv_A → Option rv_R} {res : rv_R} (h : rv_ls f st k = some res) : ∃ st', k st' = some res ∧ ∀ (ρ : rv_ρ) (L : List Nat) (stk : List Value), rv_Vs ρ L st stk → ∃ (x : Int64) (y : Int32) (r : List Value), stk = .int y :: .long x :: r ∧ rv_Vs ρ L st' (.long (f x y) :: r) := by
  unfold rv_ls at h
  split at h
  · rw [rv_fL_eq] at h
    refine ⟨_, h, fun ρ L stk hs => ?_⟩
    obtain ⟨v, vs, rfl, h1, hs1⟩ := rv_Vs_c hs
    obtain ⟨w, ws, rfl, h2, hs2⟩ := rv_Vs_c hs1
    cases h1; cases h2
    exact ⟨_, _, ws, rfl, rfl, hs2⟩
  · split at h
    · rename_i hq
      rw [Bool.and_eq_true] at hq
      refine ⟨_, h, fun ρ L stk hs => ?_⟩
      obtain ⟨v, vs, rfl, h1, hs1⟩ := rv_Vs_c hs
      obtain ⟨w, ws, rfl, h2, hs2⟩ := rv_Vs_c hs1
      obtain ⟨y, rfl, -, -⟩ := rv_V_I hq.1 h1
      obtain ⟨x, rfl⟩ := rv_V_L hq.2 h2
      exact ⟨x, y, ws, rfl, rv_V_any _, hs2⟩
    · cases h
  · cases h
theorem rv_il_i {st : List rv_A} {k : List rv_A → Option rv_R} {res : rv_R} (h : rv_il st k = some res) : ∃ st', k st' = some res ∧ ∀ (ρ : rv_ρ) (L : List Nat) (stk : List Value), rv_Vs ρ L st stk → ∃ (x : Int32) (r : List Value), stk = .int x :: r ∧ rv_Vs ρ L st' (.long x.toInt64 :: r) := by
  unfold rv_il at h
  split at h
  · rw [rv_fL_eq] at h
    refine ⟨_, h, fun ρ L stk hs => ?_⟩
    obtain ⟨v, vs, rfl, h1, hs1⟩ := rv_Vs_c hs
    cases h1
    exact ⟨_, vs, rfl, rfl, hs1⟩
  · split at h
    · rename_i hq
      refine ⟨_, h, fun ρ L stk hs => ?_⟩
      obtain ⟨v, vs, rfl, h1, hs1⟩ := rv_Vs_c hs
      obtain ⟨y, rfl, -, -⟩ := rv_V_I hq h1
      exact ⟨y, vs, rfl, rv_V_any _, hs1⟩
    · cases h
  · cases h
theorem rv_li_i {st : List rv_A} {k : List rv_A → Option rv_R} {res : rv_R} (h : rv_li st k = some res) : ∃ st', k st' = some res ∧ ∀ (ρ : rv_ρ) (L : List Nat) (stk : List Value), rv_Vs ρ L st stk → ∃ (x : Int64) (r : List Value), stk = .long x :: r ∧ rv_Vs ρ L st' (.int x.toInt32 :: r) := by
  unfold rv_li at h
  split at h
  · rw [rv_fI_eq] at h
    refine ⟨_, h, fun ρ L stk hs => ?_⟩
    obtain ⟨v, vs, rfl, h1, hs1⟩ := rv_Vs_c hs
    cases h1
    exact ⟨_, vs, rfl, rfl, hs1⟩
  · split at h
    · rename_i hq
      refine ⟨_, h, fun ρ L stk hs => ?_⟩
      obtain ⟨v, vs, rfl, h1, hs1⟩ := rv_Vs_c hs
      obtain ⟨y, rfl⟩ := rv_V_L hq h1
      exact ⟨y, vs, rfl, rv_V_top _, hs1⟩
    · cases h
  · cases h
theorem rv_lc_i {st : List rv_A} {k : List rv_A → Option rv_R} {res : rv_R} (h : rv_lc st k = some res) : ∃ st', k st' = some res ∧ ∀ (ρ : rv_ρ) (L : List Nat) (stk : List Value), rv_Vs ρ L st stk → ∃ (x y : Int64) (r : List Value), stk = .long y :: .long x :: r ∧ rv_Vs ρ L st' (.int (lg_cmp x y) :: r) := by
  unfold rv_lc at h
  split at h
  · rw [rv_fI_eq] at h
    refine ⟨_, h, fun ρ L stk hs => ?_⟩
    obtain ⟨v, vs, rfl, h1, hs1⟩ := rv_Vs_c hs
    obtain ⟨w, ws, rfl, h2, hs2⟩ := rv_Vs_c hs1
    cases h1; cases h2
    exact ⟨_, _, ws, rfl, rfl, hs2⟩
  · split at h
    · rename_i hq
      rw [Bool.and_eq_true] at hq
      refine ⟨_, h, fun ρ L stk hs => ?_⟩
      obtain ⟨v, vs, rfl, h1, hs1⟩ := rv_Vs_c hs
      obtain ⟨w, ws, rfl, h2, hs2⟩ := rv_Vs_c hs1
      obtain ⟨y, rfl⟩ := rv_V_L hq.1 h1
      obtain ⟨x, rfl⟩ := rv_V_L hq.2 h2
      exact ⟨x, y, ws, rfl, rv_V_top _, hs2⟩
    · cases h
  · cases h
-- comparisons
theorem rv_ltq_t {a b : rv_A} {x y : Int32} (hx1 : x ≤ rv_hi a) (hy : rv_lo b ≤ y) (h : rv_ltq a b = some true) : x < y := by
  unfold rv_ltq at h
  split at h
  · rename_i q
    exact Int32.lt_of_le_of_lt hx1 (Int32.lt_of_lt_of_le q hy)
  · split at h <;> cases h
theorem rv_ltq_f {a b : rv_A} {x y : Int32} (hx : rv_lo a ≤ x) (hy : y ≤ rv_hi b) (h : rv_ltq a b = some false) : ¬ x < y := by
  unfold rv_ltq at h
  split at h
  · cases h
  · split at h
    · rename_i q
      exact Int32.not_lt.mpr (Int32.le_trans hy (Int32.le_trans q hx))
    · cases h
theorem rv_eqq_t {a b : rv_A} {x y : Int32} (hx : rv_lo a ≤ x) (hx1 : x ≤ rv_hi a) (hy : rv_lo b ≤ y) (hy1 : y ≤ rv_hi b) (h : rv_eqq a b = some true) : x = y := by
  unfold rv_eqq at h
  split at h
  · cases h
  · rename_i q1
    split at h
    · cases h
    · rename_i q2
      split at h
      · rename_i q3
        have e1 : x = rv_lo a := Int32.le_antisymm (by rw [q3.1]; exact hx1) hx
        have e2 : y = rv_lo b := Int32.le_antisymm (by rw [q3.2]; exact hy1) hy
        rw [e1, e2]
        exact Int32.le_antisymm (by rw [q3.2]; exact Int32.not_lt.mp q2) (by rw [q3.1]; exact Int32.not_lt.mp q1)
      · cases h
theorem rv_eqq_f {a b : rv_A} {x y : Int32} (hx : rv_lo a ≤ x) (hx1 : x ≤ rv_hi a) (hy : rv_lo b ≤ y) (hy1 : y ≤ rv_hi b) (h : rv_eqq a b = some false) : ¬ x = y := by
  unfold rv_eqq at h
  split at h
  · rename_i q
    intro e
    subst e
    exact Int32.lt_irrefl (Int32.lt_of_le_of_lt hx1 (Int32.lt_of_lt_of_le q hy))
  · split at h
    · rename_i q
      intro e
      subst e
      exact Int32.lt_irrefl (Int32.lt_of_le_of_lt hy1 (Int32.lt_of_lt_of_le q hx))
    · split at h <;> cases h
theorem rv_not_t {b : Option Bool} (h : rv_not b = some true) : b = some false := by
  unfold rv_not at h
  split at h <;> first | rfl | cases h
theorem rv_not_f {b : Option Bool} (h : rv_not b = some false) : b = some true := by
  unfold rv_not at h
  split at h <;> first | rfl | cases h
-- locals
theorem rv_lget_i {i : Nat} {a : rv_A} : ∀ {ls : rv_L}, rv_lget ls i = some a → ∀ {lv : List (Nat × Value)}, rv_Ls ρ L ls lv → ∃ (k : Nat) (v : Value), lv[k]? = some (i, v) ∧ rv_V ρ L a v := by
  intro ls
  induction ls with
  | nil => intro h; cases h
  | cons q t ih =>
    intro h lv hl
    obtain ⟨v, vs, rfl, h0, h1, h2⟩ := rv_Ls_c hl
    have e : rv_lget (q :: t) i = Bool.rec (motive := fun _ => Option rv_A) (rv_lget t i) (some q.2) (q.1.beq i) := rfl
    rw [e] at h
    cases hb : q.1.beq i with
    | true =>
      rw [hb] at h
      cases h
      have hq : q.1 = i := Nat.eq_of_beq_eq_true hb
      refine ⟨0, v.2, ?_, h1⟩
      show some v = some (i, v.2)
      rw [← hq, h0]
    | false =>
      rw [hb] at h
      obtain ⟨k, w, e1, e2⟩ := ih h h2
      exact ⟨k + 1, w, by simpa using e1, e2⟩
theorem rv_keep1_e {i : Nat} {a : Nat × rv_A} {v : Nat × Value} (h0 : a.1 = v.1) (h1 : rv_V ρ L a.2 v.2) : rv_keep1 i a = (!(v.1 == i) && !(v.1 + 1 == i && v.2.category == 2)) := by
  unfold rv_keep1
  rw [h0, rv_V_cat h1]
  unfold rv_cat
  cases rv_isL a.2 <;> rfl
theorem rv_keep2_e {i : Nat} {a : Nat × rv_A} {v : Nat × Value} (h0 : a.1 = v.1) (h1 : rv_V ρ L a.2 v.2) : rv_keep2 i a = (!(v.1 == i) && (!(v.1 == i + 1) && !(v.1 + 1 == i && v.2.category == 2))) := by
  unfold rv_keep2
  rw [h0, rv_V_cat h1]
  unfold rv_cat
  cases rv_isL a.2 <;> rfl
theorem rv_Ls_f {f : Nat × rv_A → Bool} {g : Nat × Value → Bool} (hfg : ∀ a v, a.1 = v.1 → rv_V ρ L a.2 v.2 → f a = g v) : ∀ {ls : rv_L} {lv : List (Nat × Value)}, rv_Ls ρ L ls lv → rv_Ls ρ L (ls.filter f) (lv.filter g) := by
  intro ls
  induction ls with
  | nil => intro lv h; cases lv with
    | nil => exact True.intro
    | cons v vs => cases h
  | cons a t ih =>
    intro lv h
    obtain ⟨v, vs, rfl, h0, h1, h2⟩ := rv_Ls_c h
    have e := hfg a v h0 h1
    cases hf : f a with
    | true =>
      rw [List.filter_cons_of_pos hf, List.filter_cons_of_pos (by rw [← e]; exact hf)]
      exact ⟨h0, h1, ih h2⟩
    | false =>
      rw [List.filter_cons_of_neg (by simp [hf]), List.filter_cons_of_neg (by rw [← e]; simp [hf])]
      exact ih h2
end RVC
