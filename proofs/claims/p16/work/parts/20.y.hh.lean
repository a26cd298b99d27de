/-! WHAT THE NUMBERS SAY of musts and of lawful groups (QM = 1: a group PG is asked; QM = 2: a must comes) -/
def sy_or (a b o : Int) : Prop := o = ((a.toNat ||| b.toNat : Nat) : Int)
def sy_par (s b : Int) : Prop := b = s % 2
def sy_12 (a0 a1 a2 a3 a4 a5 a6 a7 a8 a9 a10 a11 : Int) (f : Nat → Int) : Prop := f 0 = a0 ∧ f 1 = a1 ∧ f 2 = a2 ∧ f 3 = a3 ∧ f 4 = a4 ∧ f 5 = a5 ∧ f 6 = a6 ∧ f 7 = a7 ∧ f 8 = a8 ∧ f 9 = a9 ∧ f 10 = a10 ∧ f 11 = a11
def sx_pop (k : Nat) : Nat := k % 2 + k / 2 % 2 + k / 4 % 2 + k / 8 % 2 + k / 16 % 2 + k / 32 % 2 + k / 64 % 2 + k / 128 % 2
def sy_b (Q P g0 g1 g2 g3 g4 g5 g6 g7 : Int) : Prop := Q = 1 → g0 = sx_fshr P 0 % 2 ∧ g1 = sx_fshr P 1 % 2 ∧ g2 = sx_fshr P 2 % 2 ∧ g3 = sx_fshr P 3 % 2 ∧ g4 = sx_fshr P 4 % 2 ∧ g5 = sx_fshr P 5 % 2 ∧ g6 = sx_fshr P 6 % 2 ∧ g7 = sx_fshr P 7 % 2
def sy_x (Q P W a b xa xb : Int) : Prop := Q = 1 → (xa = 0 ↔ a.toNat &&& P.toNat = 0) ∧ (xb = 0 ↔ b.toNat &&& P.toNat = b.toNat) ∧ b.toNat &&& W.toNat = b.toNat
def sy_w (Q K W : Int) : Prop := Q = 1 → W + 1 = ((2 ^ K.toNat : Nat) : Int)
def sy_s (Q P B Z S : Int) : Prop := Q = 1 → S = sx_fshr Z (B - 1) % 2 ∧ (1 ≤ P → P ≤ 255 → B = ((sx_pop P.toNat : Nat) : Int) ∧ 1 ≤ B)
def sy_j (Q P B j1 j2 j3 j4 j5 j6 j7 : Int) : Prop := Q = 1 → 1 ≤ P → P ≤ 255 → j1 = P / 2 ∧ j2 = sx_fand j1 1431655765 ∧ j2 ≤ P ∧ j3 = sx_fand (P - j2) 858993459 ∧ j4 = (P - j2) / 4 ∧ j5 = sx_fand j4 858993459 ∧ j6 = (j3 + j5) / 16 ∧ j7 = sx_fand (j3 + j5 + j6) 252645135 ∧ B = sx_fand j7 63 ∧ 1 ≤ B
def sy_m (m : Nat) (Q P K M a b ga gb : Int) : Prop := Q = 1 → ga = sx_fshr P a % 2 ∧ gb = sx_fshr P b % 2 ∧ ((m : Int) < M → a < K ∧ b < K)
def sy_8 (a0 a1 a2 a3 a4 a5 a6 a7 : Int) (j : Nat) : Int := match j with
  | 0 => a0
  | 1 => a1
  | 2 => a2
  | 3 => a3
  | 4 => a4
  | 5 => a5
  | 6 => a6
  | 7 => a7
  | _ => 0
def sy_c (a0 a1 a2 a3 a4 a5 a6 a7 a8 a9 a10 a11 : Int) (j : Nat) : Int := match j with
  | 0 => a0
  | 1 => a1
  | 2 => a2
  | 3 => a3
  | 4 => a4
  | 5 => a5
  | 6 => a6
  | 7 => a7
  | 8 => a8
  | 9 => a9
  | 10 => a10
  | 11 => a11
  | _ => 0
def sy_ok (g a b : Int) : Prop := g = 0 ∨ (a = 0 ∧ b = 0)
def sy_om (t a b : Int) : Prop := (1 ≤ t → a = b) ∧ (t ≤ 0 → a + b ≤ 1)
def sy_r (Q C R S K g0 g1 g2 g3 g4 g5 g6 g7 a0 a1 a2 a3 a4 a5 a6 a7 b0 b1 b2 b3 b4 b5 b6 b7 : Int) : Prop := Q = 1 → R ≤ S ∧ (∀ j : Nat, j < 8 → (j : Int) < K → ¬ sy_ok (sy_8 g0 g1 g2 g3 g4 g5 g6 g7 j) (sy_8 a0 a1 a2 a3 a4 a5 a6 a7 j) (sy_8 b0 b1 b2 b3 b4 b5 b6 b7 j) → R ≤ 0) ∧ ((∀ j : Nat, j < 8 → (j : Int) < K → sy_ok (sy_8 g0 g1 g2 g3 g4 g5 g6 g7 j) (sy_8 a0 a1 a2 a3 a4 a5 a6 a7 j) (sy_8 b0 b1 b2 b3 b4 b5 b6 b7 j)) → S ≤ R) ∧ ∀ j : Nat, j < 8 → (j : Int) < C → sy_ok (sy_8 g0 g1 g2 g3 g4 g5 g6 g7 j) (sy_8 a0 a1 a2 a3 a4 a5 a6 a7 j) (sy_8 b0 b1 b2 b3 b4 b5 b6 b7 j)
def sy_t (Q C R S M t0 t1 t2 t3 t4 t5 t6 t7 t8 t9 t10 t11 a0 a1 a2 a3 a4 a5 a6 a7 a8 a9 a10 a11 b0 b1 b2 b3 b4 b5 b6 b7 b8 b9 b10 b11 : Int) : Prop := Q = 1 → R ≤ S ∧ (∀ m : Nat, m < 12 → (m : Int) < M → ¬ sy_om (sy_c t0 t1 t2 t3 t4 t5 t6 t7 t8 t9 t10 t11 m) (sy_c a0 a1 a2 a3 a4 a5 a6 a7 a8 a9 a10 a11 m) (sy_c b0 b1 b2 b3 b4 b5 b6 b7 b8 b9 b10 b11 m) → R ≤ 0) ∧ ((∀ m : Nat, m < 12 → (m : Int) < M → sy_om (sy_c t0 t1 t2 t3 t4 t5 t6 t7 t8 t9 t10 t11 m) (sy_c a0 a1 a2 a3 a4 a5 a6 a7 a8 a9 a10 a11 m) (sy_c b0 b1 b2 b3 b4 b5 b6 b7 b8 b9 b10 b11 m)) → S ≤ R) ∧ ∀ m : Nat, m < 12 → (m : Int) < C → sy_om (sy_c t0 t1 t2 t3 t4 t5 t6 t7 t8 t9 t10 t11 m) (sy_c a0 a1 a2 a3 a4 a5 a6 a7 a8 a9 a10 a11 m) (sy_c b0 b1 b2 b3 b4 b5 b6 b7 b8 b9 b10 b11 m)
def sy_l (Q P L : Int) (f : Nat → Int) : Prop := Q = 1 → 0 ≤ P → P ≤ 255 → f P.toNat = L
def sy_k (Q V R : Int) : Prop := Q = 1 → R = ((sx_pop V.toNat : Nat) : Int)
theorem sy_shr_r {x y : Int} (h0 : 0 ≤ x) (h1 : x ≤ 255) : 0 ≤ sx_fshr x y ∧ sx_fshr x y ≤ 255 := by
  have hp : 0 < 2 ^ y.toNat := Nat.two_pow_pos _
  unfold sx_fshr
  exact ⟨Int.ediv_nonneg h0 (Int.natCast_nonneg _), Int.le_trans (Int.ediv_le_self _ h0) h1⟩
theorem sy_odd_n : ∀ k : Nat, k < 9 → ∀ a : Nat, a < k → (2 ^ k - 1) / 2 ^ a % 2 = 1 := by decide
theorem sy_odd {W K a : Int} (hw : W + 1 = ((2 ^ K.toNat : Nat) : Int)) (h0 : 0 ≤ a) (h1 : a < K) (h2 : K ≤ 8) : sx_fshr W a % 2 = 1 := by
  have h := sy_odd_n K.toNat (by omega) a.toNat (by omega)
  have hp : 0 < 2 ^ K.toNat := Nat.two_pow_pos _
  have e : W = ((2 ^ K.toNat - 1 : Nat) : Int) := by omega
  unfold sx_fshr
  rw [e, ← Int.natCast_ediv]
  generalize (2 ^ K.toNat - 1) / 2 ^ a.toNat = q at h ⊢
  omega
theorem sy_and1 {x : Int} (h : 0 ≤ x) : sx_fand x 1 = x % 2 := by
  unfold sx_fand
  rw [show (1 : Int).toNat = 1 from rfl, Nat.and_one_is_mod]
  omega
theorem sy_and_odd {x y : Int} (hx : 0 ≤ x) (hy : 0 ≤ y) (h1 : 1 = x % 2) (h2 : 1 = y % 2) : sx_fand x y % 2 = 1 := by
  have h : (x.toNat &&& y.toNat) % 2 ^ 1 = (x.toNat % 2 ^ 1) &&& (y.toNat % 2 ^ 1) := Nat.and_mod_two_pow
  rw [show (2 : Nat) ^ 1 = 2 from rfl, show x.toNat % 2 = 1 by omega, show y.toNat % 2 = 1 by omega] at h
  unfold sx_fand
  have h3 : (1 : Nat) &&& 1 = 1 := rfl
  omega
theorem sy_and_r {x y : Int} (h0 : 0 ≤ x) : 0 ≤ sx_fand x y ∧ sx_fand x y ≤ x := by
  have h : x.toNat &&& y.toNat ≤ x.toNat := Nat.and_le_left
  unfold sx_fand
  omega
theorem sy_and_w {P W K : Int} (hw : W + 1 = ((2 ^ K.toNat : Nat) : Int)) (h0 : 0 ≤ P) (h1 : P ≤ W) : P.toNat &&& W.toNat = P.toNat := by
  have e : W.toNat = 2 ^ K.toNat - 1 := by omega
  rw [e, Nat.and_two_pow_sub_one_eq_mod]
  exact Nat.mod_eq_of_lt (by omega)
theorem sy_pop_n : ∀ k : Nat, k < 256 → 1 ≤ k → k &&& (k - 1) ≤ k - 1 ∧ sx_pop (k &&& (k - 1)) + 1 = sx_pop k := by decide +kernel
theorem sy_or_r {x y : Int} (h0 : 0 ≤ x) (h1 : x ≤ 255) (h2 : 0 ≤ y) (h3 : y ≤ 255) : 0 ≤ sx_for x y ∧ sx_for x y ≤ 255 ∧ x ≤ sx_for x y ∧ y ≤ sx_for x y := by
  have a : x.toNat ≤ x.toNat ||| y.toNat := Nat.left_le_or
  have b : y.toNat ≤ x.toNat ||| y.toNat := Nat.right_le_or
  have c : x.toNat ||| y.toNat < 2 ^ 8 := Nat.or_lt_two_pow (by omega) (by omega)
  unfold sx_for
  omega
