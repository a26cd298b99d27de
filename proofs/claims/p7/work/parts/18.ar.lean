/-! BITS and their stretches -/
theorem bv_nn {w : Nat} {x : BitVec w} (h : 0 ≤ x.toInt) : x.toInt = (x.toNat : Int) ∧ 2 * x.toNat < 2 ^ w := by
  have e := BitVec.toInt_eq_toNat_cond x
  by_cases hc : 2 * x.toNat < 2 ^ w
  · rw [if_pos hc] at e
    exact ⟨e, hc⟩
  · rw [if_neg hc] at e
    have := x.isLt
    have h2 : ((2 ^ w : Nat) : Int) = (2 : Int) ^ w := by simp
    omega
theorem bv_of {w : Nat} {x : BitVec w} {n : Nat} (e : x.toNat = n) (h : 2 * n < 2 ^ w) : x.toInt = (n : Int) := by
  rw [BitVec.toInt_eq_toNat_of_lt (by rw [e]; exact h), e]
theorem bv_and {w : Nat} {x y : BitVec w} (h : 0 ≤ x.toInt) : 0 ≤ (x &&& y).toInt ∧ (x &&& y).toInt ≤ x.toInt := by
  obtain ⟨h1, h2⟩ := bv_nn h
  have h3 : x.toNat &&& y.toNat ≤ x.toNat := Nat.and_le_left
  have h4 := bv_of (BitVec.toNat_and x y) (by omega)
  omega
theorem bv_and' {w : Nat} {x y : BitVec w} (h : 0 ≤ y.toInt) : 0 ≤ (x &&& y).toInt ∧ (x &&& y).toInt ≤ y.toInt := by
  rw [BitVec.and_comm]
  exact bv_and h
theorem bv_or {w k : Nat} {x y : BitVec w} (hx : 0 ≤ x.toInt) (hy : 0 ≤ y.toInt) (hk : k < w) (h1 : x.toInt < 2 ^ k) (h2 : y.toInt < 2 ^ k) : x.toInt ≤ (x ||| y).toInt ∧ y.toInt ≤ (x ||| y).toInt ∧ (x ||| y).toInt < 2 ^ k := by
  obtain ⟨e1, f1⟩ := bv_nn hx
  obtain ⟨e2, f2⟩ := bv_nn hy
  have hc : ((2 ^ k : Nat) : Int) = (2 : Int) ^ k := by simp
  have g1 : x.toNat < 2 ^ k := by omega
  have g2 : y.toNat < 2 ^ k := by omega
  have h3 : x.toNat ||| y.toNat < 2 ^ k := Nat.or_lt_two_pow g1 g2
  have h5 : 2 * 2 ^ k ≤ 2 ^ w := by
    rw [← Nat.pow_succ']
    exact Nat.pow_le_pow_right (by decide) hk
  have h4 := bv_of (BitVec.toNat_or x y) (by omega)
  have l1 : x.toNat ≤ x.toNat ||| y.toNat := Nat.left_le_or
  have l2 : y.toNat ≤ x.toNat ||| y.toNat := Nat.right_le_or
  omega
theorem bv_xor {w k : Nat} {x y : BitVec w} (hx : 0 ≤ x.toInt) (hy : 0 ≤ y.toInt) (hk : k < w) (h1 : x.toInt < 2 ^ k) (h2 : y.toInt < 2 ^ k) : 0 ≤ (x ^^^ y).toInt ∧ (x ^^^ y).toInt < 2 ^ k := by
  obtain ⟨e1, f1⟩ := bv_nn hx
  obtain ⟨e2, f2⟩ := bv_nn hy
  have hc : ((2 ^ k : Nat) : Int) = (2 : Int) ^ k := by simp
  have g1 : x.toNat < 2 ^ k := by omega
  have g2 : y.toNat < 2 ^ k := by omega
  have h3 : x.toNat ^^^ y.toNat < 2 ^ k := Nat.xor_lt_two_pow g1 g2
  have h5 : 2 * 2 ^ k ≤ 2 ^ w := by
    rw [← Nat.pow_succ']
    exact Nat.pow_le_pow_right (by decide) hk
  have h4 := bv_of (BitVec.toNat_xor x y) (by omega)
  omega
theorem nt_shr {m j : Nat} : m >>> j ≤ m ∧ (1 ≤ m → 1 ≤ j → m >>> j ≤ m - 1) := by
  rw [Nat.shiftRight_eq_div_pow]
  refine ⟨Nat.div_le_self _ _, fun h1 h2 => ?_⟩
  have h3 : 2 ≤ 2 ^ j := by
    have := Nat.pow_le_pow_right (n := 2) (by decide) h2
    simpa using this
  have := Nat.div_lt_self (n := m) (k := 2 ^ j) (by omega) (by omega)
  omega
theorem nt_shm {m M i j : Nat} (h : m ≤ M) (hj : i ≤ j) : m >>> j ≤ M >>> i := by
  rw [Nat.shiftRight_eq_div_pow, Nat.shiftRight_eq_div_pow]
  exact Nat.le_trans (Nat.div_le_div_right h) (Nat.div_le_div_left (Nat.pow_le_pow_right (by decide) hj) (Nat.two_pow_pos i))
theorem bv_sar {w j : Nat} {x : BitVec w} (h : 0 ≤ x.toInt) : (x.sshiftRight j).toInt = ((x.toNat >>> j : Nat) : Int) := by
  obtain ⟨h1, h2⟩ := bv_nn h
  rw [BitVec.toInt_sshiftRight, h1]
  rfl
theorem bv_shr {w j : Nat} {x : BitVec w} (h : 0 ≤ x.toInt) : (x >>> j).toInt = ((x.toNat >>> j : Nat) : Int) := by
  obtain ⟨h1, h2⟩ := bv_nn h
  have := (nt_shr (m := x.toNat) (j := j)).1
  exact bv_of (BitVec.toNat_ushiftRight x j) (by omega)
theorem bv_shl {w j : Nat} {x : BitVec w} (h : 0 ≤ x.toInt) (hf : 2 * (x.toNat * 2 ^ j) < 2 ^ w) : (x <<< j).toInt = ((x.toNat * 2 ^ j : Nat) : Int) := by
  refine bv_of ?_ hf
  rw [BitVec.toNat_shiftLeft, Nat.shiftLeft_eq, Nat.mod_eq_of_lt (by omega)]
theorem sx_sh5 : ∀ j : Fin 32, ((Int32.ofNat j.val).toBitVec.smod 32).toNat = j.val := by decide
theorem sx_sh6 : ∀ j : Fin 64, ((Int64.ofNat j.val).toBitVec.smod 64).toNat = j.val := by decide
theorem sx_nI {x : Int32} (h : 0 ≤ x.toInt) : x = Int32.ofNat x.toInt.toNat := by
  rw [← Int32.toInt_inj, Int32.toInt_ofNat_of_lt (by have := x.toInt_lt; omega)]
  omega
theorem sx_nL {x : Int64} (h : 0 ≤ x.toInt) : x = Int64.ofNat x.toInt.toNat := by
  rw [← Int64.toInt_inj, Int64.toInt_ofNat_of_lt (by have := x.toInt_lt; omega)]
  omega
/-- how far an int is shifted -/
theorem sx_sh (y : Int32) : ∃ j : Nat, j < 32 ∧ ((y &&& 31).toBitVec.smod 32).toNat = j ∧ (0 ≤ y.toInt → y.toInt ≤ 31 → y.toInt = (j : Int)) := by
  have h := bv_and' (x := y.toBitVec) (y := (31 : Int32).toBitVec) (by decide)
  have h31 : (31 : Int32).toBitVec.toInt = 31 := by decide
  have h0 : (y &&& 31).toInt = (y.toBitVec &&& (31 : Int32).toBitVec).toInt := rfl
  rw [← h0, h31] at h
  refine ⟨(y &&& 31).toInt.toNat, by omega, ?_, fun h1 h2 => ?_⟩
  · have e := sx_nI h.1
    have := sx_sh5 ⟨(y &&& 31).toInt.toNat, by omega⟩
    rw [← e] at this
    exact this
  · obtain ⟨e1, -⟩ := bv_nn (x := y.toBitVec) h1
    have e1 : y.toInt = (y.toBitVec.toNat : Int) := e1
    have e2 : (y.toBitVec &&& (31 : Int32).toBitVec).toNat = y.toBitVec.toNat &&& 31 := BitVec.toNat_and _ _
    have e3 : y.toBitVec.toNat &&& 31 = y.toBitVec.toNat % 2 ^ 5 := Nat.and_two_pow_sub_one_eq_mod (y.toBitVec.toNat) 5
    obtain ⟨e4, -⟩ := bv_nn (x := (y &&& 31).toBitVec) h.1
    have e4 : (y &&& 31).toInt = ((y.toBitVec &&& (31 : Int32).toBitVec).toNat : Int) := e4
    omega
theorem sx_shL (y : Int32) : ∃ j : Nat, j < 64 ∧ ((y.toInt64 &&& 63).toBitVec.smod 64).toNat = j ∧ (0 ≤ y.toInt → y.toInt ≤ 63 → y.toInt = (j : Int)) := by
  have h := bv_and' (x := y.toInt64.toBitVec) (y := (63 : Int64).toBitVec) (by decide)
  have h31 : (63 : Int64).toBitVec.toInt = 63 := by decide
  have h0 : (y.toInt64 &&& 63).toInt = (y.toInt64.toBitVec &&& (63 : Int64).toBitVec).toInt := rfl
  rw [← h0, h31] at h
  refine ⟨(y.toInt64 &&& 63).toInt.toNat, by omega, ?_, fun h1 h2 => ?_⟩
  · have e := sx_nL h.1
    have := sx_sh6 ⟨(y.toInt64 &&& 63).toInt.toNat, by omega⟩
    rw [← e] at this
    exact this
  · have hy := Int32.toInt_toInt64 y
    obtain ⟨e1, -⟩ := bv_nn (x := y.toInt64.toBitVec) (by rw [Int64.toInt_toBitVec, hy]; exact h1)
    have e1 : y.toInt64.toInt = (y.toInt64.toBitVec.toNat : Int) := e1
    have e2 : (y.toInt64.toBitVec &&& (63 : Int64).toBitVec).toNat = y.toInt64.toBitVec.toNat &&& 63 := BitVec.toNat_and _ _
    have e3 : y.toInt64.toBitVec.toNat &&& 63 = y.toInt64.toBitVec.toNat % 2 ^ 6 := Nat.and_two_pow_sub_one_eq_mod (y.toInt64.toBitVec.toNat) 6
    obtain ⟨e4, -⟩ := bv_nn (x := (y.toInt64 &&& 63).toBitVec) h.1
    have e4 : (y.toInt64 &&& 63).toInt = ((y.toInt64.toBitVec &&& (63 : Int64).toBitVec).toNat : Int) := e4
    omega
theorem sx_bm {x : Int} {w : Nat} (h1 : -(2 : Int) ^ w ≤ x) (h2 : x < 2 ^ w) : x.bmod (2 ^ (w + 1)) = x := by
  have e : ((2 ^ (w + 1) : Nat) : Int) = 2 * (2 : Int) ^ w := by
    rw [Nat.pow_succ]
    simp
    omega
  refine Int.bmod_eq_of_le ?_ ?_ <;> omega
theorem sx_m32 {x y : Int64} (hx : 0 ≤ x.toInt) (hy : y.toInt = 31) : (x &&& y).toInt = x.toInt % 32 := by
  have e : y = 31 := Int64.toInt_inj.mp (by rw [hy]; decide)
  subst e
  obtain ⟨e1, e2⟩ := bv_nn (x := x.toBitVec) hx
  have e1 : x.toInt = (x.toBitVec.toNat : Int) := e1
  have e3 : (x.toBitVec &&& (31 : Int64).toBitVec).toNat = x.toBitVec.toNat % 32 := by
    rw [BitVec.toNat_and]
    exact Nat.and_two_pow_sub_one_eq_mod x.toBitVec.toNat 5
  have h4 := bv_of e3 (by omega)
  show (x.toBitVec &&& (31 : Int64).toBitVec).toInt = _
  rw [h4, e1]
  omega
theorem sx_d32 {x : Int64} {y : Int32} (hx : 0 ≤ x.toInt) (hy : y.toInt = 5) : (x >>> (y.toInt64 &&& 63)).toInt = x.toInt / 32 := by
  obtain ⟨j, hj, hs, hjy⟩ := sx_shL y
  have hjy := hjy (by omega) (by omega)
  have h5 : j = 5 := by omega
  obtain ⟨e1, e2⟩ := bv_nn (x := x.toBitVec) hx
  have e1 : x.toInt = (x.toBitVec.toNat : Int) := e1
  have h6 : (x >>> (y.toInt64 &&& 63)).toInt = ((x.toBitVec.toNat >>> j : Nat) : Int) := by
    rw [← bv_sar (x := x.toBitVec) (j := j) hx]
    show (x.toBitVec.sshiftRight' ((y.toInt64 &&& 63).toBitVec.smod 64)).toInt = _
    rw [BitVec.sshiftRight_eq', hs]
  rw [h6, h5, e1, Nat.shiftRight_eq_div_pow]
  omega
