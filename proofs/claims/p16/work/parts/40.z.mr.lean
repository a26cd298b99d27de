/-! MUSTS: sets of the class (ap: apart, bd: bound) and rows of the reference (ma, mb, mt) say the same -/
def lw_mr (ap bd ma mb mt : Nat → Int) (K M : Int) : Prop :=
  (∀ m : Nat, m < 12 → (m : Int) < M → 0 ≤ ma m ∧ ma m < K ∧ 0 ≤ mb m ∧ mb m < K ∧ ma m ≠ mb m ∧ (mt m = 0 ∨ mt m = 1)) ∧
  (∀ p q : Nat, p < 8 → q < 8 → ((ap p).toNat.testBit q = true ↔ ∃ m : Nat, m < 12 ∧ (m : Int) < M ∧ mt m = 0 ∧ ((ma m = p ∧ mb m = q) ∨ (ma m = q ∧ mb m = p)))) ∧
  (∀ p q : Nat, p < 8 → q < 8 → ((bd p).toNat.testBit q = true ↔ ∃ m : Nat, m < 12 ∧ (m : Int) < M ∧ mt m = 1 ∧ ((ma m = p ∧ mb m = q) ∨ (ma m = q ∧ mb m = p))))
theorem lw_mr_cg {ap bd ma mb mt ap' bd' ma' mb' mt' : Nat → Int} {K M : Int} (h1 : ∀ p, p < 8 → ap' p = ap p) (h2 : ∀ p, p < 8 → bd' p = bd p) (h3 : ∀ m, m < 12 → ma' m = ma m) (h4 : ∀ m, m < 12 → mb' m = mb m) (h5 : ∀ m, m < 12 → mt' m = mt m) (h : lw_mr ap bd ma mb mt K M) : lw_mr ap' bd' ma' mb' mt' K M := by
  obtain ⟨a, b, c⟩ := h
  refine ⟨fun m hm hM => ?_, fun p q hp hq => ?_, fun p q hp hq => ?_⟩
  · rw [h3 m hm, h4 m hm, h5 m hm]
    exact a m hm hM
  · rw [h1 p hp, b p q hp hq]
    constructor
    · rintro ⟨m, e1, e2, e3, e4⟩
      exact ⟨m, e1, e2, by rw [h5 m e1]; exact e3, by rw [h3 m e1, h4 m e1]; exact e4⟩
    · rintro ⟨m, e1, e2, e3, e4⟩
      exact ⟨m, e1, e2, by rw [← h5 m e1]; exact e3, by rw [← h3 m e1, ← h4 m e1]; exact e4⟩
  · rw [h2 p hp, c p q hp hq]
    constructor
    · rintro ⟨m, e1, e2, e3, e4⟩
      exact ⟨m, e1, e2, by rw [h5 m e1]; exact e3, by rw [h3 m e1, h4 m e1]; exact e4⟩
    · rintro ⟨m, e1, e2, e3, e4⟩
      exact ⟨m, e1, e2, by rw [← h5 m e1]; exact e3, by rw [← h3 m e1, ← h4 m e1]; exact e4⟩
theorem lw_mr_K {ap bd ma mb mt : Nat → Int} {K K2 M : Int} (hK : K ≤ K2) (h : lw_mr ap bd ma mb mt K M) : lw_mr ap bd ma mb mt K2 M := by
  obtain ⟨a, b, c⟩ := h
  refine ⟨fun m hm hM => ?_, b, c⟩
  obtain ⟨a1, a2, a3, a4, a5, a6⟩ := a m hm hM
  exact ⟨a1, by omega, a3, by omega, a5, a6⟩
theorem lw_mr_0 {ap bd ma mb mt : Nat → Int} {K : Int} (h1 : ∀ p, p < 8 → ap p = 0) (h2 : ∀ p, p < 8 → bd p = 0) : lw_mr ap bd ma mb mt K 0 := by
  refine ⟨fun m hm hM => (by omega), fun p q hp hq => ?_, fun p q hp hq => ?_⟩
  · rw [h1 p hp]
    constructor
    · intro h; simp at h
    · rintro ⟨m, e1, e2, -⟩; omega
  · rw [h2 p hp]
    constructor
    · intro h; simp at h
    · rintro ⟨m, e1, e2, -⟩; omega
/-- what a must does to sets: z before, z' behind -/
def lw_ti (a b : Nat) (z z' : Nat → Int) : Prop := ∀ j : Nat, j < 8 → z' j = if j = a then (((z j).toNat ||| 2 ^ b : Nat) : Int) else if j = b then (((z j).toNat ||| 2 ^ a : Nat) : Int) else z j
theorem lw_ti_b {a b : Nat} {z z' : Nat → Int} (h : lw_ti a b z z') (hab : a ≠ b) {p q : Nat} (hp : p < 8) (hq : q < 8) : ((z' p).toNat.testBit q = true ↔ (z p).toNat.testBit q = true ∨ ((p = a ∧ q = b) ∨ (p = b ∧ q = a))) := by
  rw [h p hp]
  by_cases e : p = a
  · subst e
    rw [if_pos rfl, Int.toNat_natCast, Nat.testBit_or, Nat.testBit_two_pow]
    simp only [Bool.or_eq_true, decide_eq_true_eq]
    constructor
    · rintro (h1 | h1)
      · exact Or.inl h1
      · exact Or.inr (Or.inl ⟨trivial, h1.symm⟩)
    · rintro (h1 | ⟨-, h1⟩ | ⟨h1, -⟩)
      · exact Or.inl h1
      · exact Or.inr h1.symm
      · exact absurd h1 hab
  · rw [if_neg e]
    by_cases e2 : p = b
    · subst e2
      rw [if_pos rfl, Int.toNat_natCast, Nat.testBit_or, Nat.testBit_two_pow]
      simp only [Bool.or_eq_true, decide_eq_true_eq]
      constructor
      · rintro (h1 | h1)
        · exact Or.inl h1
        · exact Or.inr (Or.inr ⟨trivial, h1.symm⟩)
      · rintro (h1 | ⟨h1, -⟩ | ⟨-, h1⟩)
        · exact Or.inl h1
        · exact absurd h1.symm hab
        · exact Or.inr h1.symm
    · rw [if_neg e2]
      constructor
      · exact Or.inl
      · rintro (h1 | ⟨h1, -⟩ | ⟨h1, -⟩)
        · exact h1
        · exact absurd h1 e
        · exact absurd h1 e2
theorem lw_mr_1 {ap bd ma mb mt ap' bd' ma' mb' mt' : Nat → Int} {K M t : Int} {a b c : Nat} (h : lw_mr ap bd ma mb mt K M) (hc : (c : Int) = M) (hM : c < 12) (ha : (a : Int) < K) (hb : (b : Int) < K) (hab : a ≠ b)
    (ht : (t = 1 ∧ lw_ti a b bd bd' ∧ ∀ j, j < 8 → ap' j = ap j) ∨ (t = 0 ∧ lw_ti a b ap ap' ∧ ∀ j, j < 8 → bd' j = bd j))
    (h3 : ∀ m, m < 12 → ma' m = if m = c then (a : Int) else ma m) (h4 : ∀ m, m < 12 → mb' m = if m = c then (b : Int) else mb m) (h5 : ∀ m, m < 12 → mt' m = if m = c then t else mt m) : lw_mr ap' bd' ma' mb' mt' K (M + 1) := by
  obtain ⟨r1, r2, r3⟩ := h
  have ht01 : t = 0 ∨ t = 1 := by
    rcases ht with ⟨e, -⟩ | ⟨e, -⟩
    · exact Or.inr e
    · exact Or.inl e
  have hex : ∀ (v : Int) (p q : Nat), (∃ m : Nat, m < 12 ∧ (m : Int) < M + 1 ∧ mt' m = v ∧ ((ma' m = p ∧ mb' m = q) ∨ (ma' m = q ∧ mb' m = p))) ↔ (∃ m : Nat, m < 12 ∧ (m : Int) < M ∧ mt m = v ∧ ((ma m = p ∧ mb m = q) ∨ (ma m = q ∧ mb m = p))) ∨ (t = v ∧ ((p = a ∧ q = b) ∨ (p = b ∧ q = a))) := by
    intro v p q
    constructor
    · rintro ⟨m, e1, e2, e3, e4⟩
      by_cases e : m = c
      · rw [h5 m e1, if_pos e] at e3
        rw [h3 m e1, h4 m e1, if_pos e, if_pos e] at e4
        refine Or.inr ⟨e3, ?_⟩
        rcases e4 with ⟨u1, u2⟩ | ⟨u1, u2⟩
        · exact Or.inl ⟨by omega, by omega⟩
        · exact Or.inr ⟨by omega, by omega⟩
      · rw [h5 m e1, if_neg e] at e3
        rw [h3 m e1, h4 m e1, if_neg e, if_neg e] at e4
        exact Or.inl ⟨m, e1, by omega, e3, e4⟩
    · rintro (⟨m, e1, e2, e3, e4⟩ | ⟨e3, e4⟩)
      · have e : m ≠ c := by omega
        exact ⟨m, e1, by omega, by rw [h5 m e1, if_neg e]; exact e3, by rw [h3 m e1, h4 m e1, if_neg e, if_neg e]; exact e4⟩
      · refine ⟨c, hM, by omega, by rw [h5 c hM, if_pos rfl]; exact e3, ?_⟩
        rw [h3 c hM, h4 c hM, if_pos rfl, if_pos rfl]
        rcases e4 with ⟨rfl, rfl⟩ | ⟨rfl, rfl⟩
        · exact Or.inl ⟨rfl, rfl⟩
        · exact Or.inr ⟨rfl, rfl⟩
  refine ⟨fun m hm hM2 => ?_, fun p q hp hq => ?_, fun p q hp hq => ?_⟩
  · rw [h3 m hm, h4 m hm, h5 m hm]
    by_cases e : m = c
    · rw [if_pos e, if_pos e, if_pos e]
      exact ⟨by omega, ha, by omega, hb, by omega, ht01⟩
    · rw [if_neg e, if_neg e, if_neg e]
      exact r1 m hm (by omega)
  · rw [hex 0 p q]
    rcases ht with ⟨e, -, k⟩ | ⟨e, k, -⟩
    · rw [k p hp, r2 p q hp hq]
      constructor
      · exact Or.inl
      · rintro (u | ⟨u, -⟩)
        · exact u
        · omega
    · rw [lw_ti_b k hab hp hq, r2 p q hp hq]
      constructor
      · rintro (u | u)
        · exact Or.inl u
        · exact Or.inr ⟨e, u⟩
      · rintro (u | ⟨-, u⟩)
        · exact Or.inl u
        · exact Or.inr u
  · rw [hex 1 p q]
    rcases ht with ⟨e, k, -⟩ | ⟨e, -, k⟩
    · rw [lw_ti_b k hab hp hq, r3 p q hp hq]
      constructor
      · rintro (u | u)
        · exact Or.inl u
        · exact Or.inr ⟨e, u⟩
      · rintro (u | ⟨-, u⟩)
        · exact Or.inl u
        · exact Or.inr u
    · rw [k p hp, r3 p q hp hq]
      constructor
      · exact Or.inl
      · rintro (u | ⟨u, -⟩)
        · exact u
        · omega
/-- a bit of P as a number -/
def lw_bt (P : Int) (i : Int) : Int := sx_fshr P i % 2
theorem lw_bt_1 {P : Int} {i : Nat} (h0 : 0 ≤ P) : lw_bt P i = 1 ↔ P.toNat.testBit i = true := by
  unfold lw_bt sx_fshr
  rw [Int.toNat_natCast, Nat.testBit_eq_decide_div_mod_eq, decide_eq_true_eq]
  have e : P / ((2 ^ i : Nat) : Int) = ((P.toNat / 2 ^ i : Nat) : Int) := by
    rw [Int.natCast_ediv]
    rw [show ((P.toNat : Nat) : Int) = P by omega]
  rw [e]
  generalize P.toNat / 2 ^ i = q
  omega
theorem lw_bt_01 {P i : Int} : lw_bt P i = 0 ∨ lw_bt P i = 1 := by
  unfold lw_bt
  omega
theorem lw_an0 {x y : Nat} (hx : x < 256) : (x &&& y = 0 ↔ ∀ q, q < 8 → x.testBit q = true → y.testBit q = false) := by
  constructor
  · intro h q hq hb
    have h1 := congrArg (fun z => z.testBit q) h
    simp only [Nat.testBit_and, hb, Nat.zero_testBit, Bool.true_and] at h1
    exact h1
  · intro h
    apply Nat.eq_of_testBit_eq
    intro q
    rw [Nat.testBit_and, Nat.zero_testBit]
    cases hb : x.testBit q with
    | false => rfl
    | true =>
      have hq : q < 8 := by
        have := Nat.ge_two_pow_of_testBit hb
        apply Classical.byContradiction
        intro hn
        have h8 : 2 ^ 8 ≤ 2 ^ q := Nat.pow_le_pow_right (by decide) (by omega)
        omega
      rw [h q hq hb]
      rfl
theorem lw_an1 {x y : Nat} (hx : x < 256) : (x &&& y = x ↔ ∀ q, q < 8 → x.testBit q = true → y.testBit q = true) := by
  constructor
  · intro h q hq hb
    have h1 := congrArg (fun z => z.testBit q) h
    simp only [Nat.testBit_and, hb, Bool.true_and] at h1
    exact h1
  · intro h
    apply Nat.eq_of_testBit_eq
    intro q
    rw [Nat.testBit_and]
    cases hb : x.testBit q with
    | false => rfl
    | true =>
      have hq : q < 8 := by
        have := Nat.ge_two_pow_of_testBit hb
        apply Classical.byContradiction
        intro hn
        have h8 : 2 ^ 8 ≤ 2 ^ q := Nat.pow_le_pow_right (by decide) (by omega)
        omega
      rw [h q hq hb]
      rfl
/-- the class's loop and the reference's loop say the same of a group P -/
theorem lw_law_eq {ap bd ma mb mt : Nat → Int} {K M P : Int} (h : lw_mr ap bd ma mb mt K M) (hK : K ≤ 8) (hP : 0 ≤ P) (hap : ∀ j, j < 8 → 0 ≤ ap j ∧ ap j ≤ 255) (hbd : ∀ j, j < 8 → 0 ≤ bd j ∧ bd j ≤ 255) :
    (∀ j : Nat, j < 8 → (j : Int) < K → lw_bt P j = 0 ∨ ((ap j).toNat &&& P.toNat = 0 ∧ (bd j).toNat &&& P.toNat = (bd j).toNat)) ↔ (∀ m : Nat, m < 12 → (m : Int) < M → (1 ≤ mt m → lw_bt P (ma m) = lw_bt P (mb m)) ∧ (mt m ≤ 0 → lw_bt P (ma m) + lw_bt P (mb m) ≤ 1)) := by
  obtain ⟨r1, r2, r3⟩ := h
  constructor
  · intro h m hm hM
    obtain ⟨a1, a2, a3, a4, a5, a6⟩ := r1 m hm hM
    obtain ⟨a, ha⟩ : ∃ a : Nat, ma m = (a : Int) := ⟨(ma m).toNat, by omega⟩
    obtain ⟨b, hb⟩ : ∃ b : Nat, mb m = (b : Int) := ⟨(mb m).toNat, by omega⟩
    have ha8 : a < 8 := by omega
    have hb8 : b < 8 := by omega
    have ka := h a ha8 (by omega)
    have kb := h b hb8 (by omega)
    rw [ha, hb]
    have wa := lw_bt_01 (P := P) (i := (a : Int))
    have wb := lw_bt_01 (P := P) (i := (b : Int))
    refine ⟨fun t1 => ?_, fun t0 => ?_⟩
    · have t1 : mt m = 1 := by omega
      have ab := (r3 a b ha8 hb8).mpr ⟨m, hm, hM, t1, Or.inl ⟨ha, hb⟩⟩
      have ba := (r3 b a hb8 ha8).mpr ⟨m, hm, hM, t1, Or.inr ⟨ha, hb⟩⟩
      have fa : lw_bt P (a : Int) = 1 → lw_bt P (b : Int) = 1 := fun e => by
        rcases ka with ka | ⟨-, ka⟩
        · omega
        · exact (lw_bt_1 hP).mpr ((lw_an1 (by have := hbd a ha8; omega)).mp ka b hb8 ab)
      have fb : lw_bt P (b : Int) = 1 → lw_bt P (a : Int) = 1 := fun e => by
        rcases kb with kb | ⟨-, kb⟩
        · omega
        · exact (lw_bt_1 hP).mpr ((lw_an1 (by have := hbd b hb8; omega)).mp kb a ha8 ba)
      rcases wa with wa | wa
      · rcases wb with wb | wb
        · omega
        · have := fb wb; omega
      · have := fa wa; omega
    · have t0 : mt m = 0 := by omega
      have ab := (r2 a b ha8 hb8).mpr ⟨m, hm, hM, t0, Or.inl ⟨ha, hb⟩⟩
      rcases wa with wa | wa
      · omega
      · rcases ka with ka | ⟨ka, -⟩
        · omega
        · have hf := (lw_an0 (by have := hap a ha8; omega)).mp ka b hb8 ab
          have : lw_bt P (b : Int) ≠ 1 := fun e => by
            rw [(lw_bt_1 hP).mp e] at hf
            cases hf
          omega
  · intro h j hj hK2
    rcases lw_bt_01 (P := P) (i := (j : Int)) with w | w
    · exact Or.inl w
    · refine Or.inr ⟨(lw_an0 (by have := hap j hj; omega)).mpr fun q hq hb => ?_, (lw_an1 (by have := hbd j hj; omega)).mpr fun q hq hb => ?_⟩
      · obtain ⟨m, m1, m2, m3, m4⟩ := (r2 j q hj hq).mp hb
        have k := (h m m1 m2).2 (by omega)
        cases hb2 : P.toNat.testBit q with
        | false => rfl
        | true =>
          have w2 := (lw_bt_1 hP).mpr hb2
          rcases m4 with ⟨e1, e2⟩ | ⟨e1, e2⟩
          · rw [e1, e2] at k; omega
          · rw [e1, e2] at k; omega
      · obtain ⟨m, m1, m2, m3, m4⟩ := (r3 j q hj hq).mp hb
        have k := (h m m1 m2).1 (by omega)
        apply (lw_bt_1 hP).mp
        rcases m4 with ⟨e1, e2⟩ | ⟨e1, e2⟩
        · rw [e1, e2] at k; omega
        · rw [e1, e2] at k; omega
