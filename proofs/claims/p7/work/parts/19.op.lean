/-! WORKING with forms: what an operation gives -/
abbrev sx_Kf : Type := sx_F → Nat → sx_T → List sx_F → Bool
def sx_R (sr : Nat → Int × Int) (n : Nat) (σ : Nat → Int) (k : sx_Kf) (v : Int) : Prop := ∃ r n' tb' cs' σ', k r n' tb' cs' = true ∧ sx_S sr n' tb' cs' σ' ∧ sx_al n σ σ' ∧ n ≤ n' ∧ sx_b n' r ∧ v = sx_d σ' r
/-- the stretches of symbols to come are as wide as those of longs -/
def sx_wide (sr : Nat → Int × Int) (n : Nat) : Prop := ∀ m, n ≤ m → (sr m).1 ≤ -9223372036854775808 ∧ 9223372036854775807 ≤ (sr m).2
noncomputable def sx_fr (lo hi : Int) (n : Nat) (tb : sx_T) (cs : List sx_F) (k : sx_Kf) : Bool := sx_fI lo (fun lo => sx_fI hi (fun hi => rv_fN (n + 1) (fun m => k (0, [(n, 1)]) m ((n, lo, hi) :: tb) cs)))
noncomputable def sx_ft (lv : Nat) (sr : Nat → Int × Int) (mn mx : Int) (n : Nat) (tb : sx_T) (cs : List sx_F) (r : sx_F) (k : sx_Kf) : Bool := Bool.rec (motive := fun _ => Bool) (sx_fr mn mx n tb cs k) (k r n tb cs) (sx_ad (-1) r (mn, []) (fun g => sx_ge lv sr tb cs g) && sx_ad (-1) (mx, []) r (fun g => sx_ge lv sr tb cs g))
section SXO
variable {sr : Nat → Int × Int} {n : Nat} {tb : sx_T} {cs : List sx_F} {σ : Nat → Int} {k : sx_Kf} {mn mx v : Int}
theorem sx_fr_i {lo hi : Int} (hh : sx_fr lo hi n tb cs k = true) : k (sx_s n) (n + 1) ((n, lo, hi) :: tb) cs = true := by
  unfold sx_fr at hh
  rw [sx_fI_eq, sx_fI_eq, rv_fN_eq] at hh
  exact hh
theorem sx_fr_ok {lo hi : Int} (h : sx_S sr n tb cs σ) (hw : sx_wide sr n) (hv : lo ≤ v ∧ v ≤ hi) (h64 : -9223372036854775808 ≤ v ∧ v ≤ 9223372036854775807) (hh : sx_fr lo hi n tb cs k = true) : sx_R sr n σ k v := by
  have hs := hw n (Nat.le_refl n)
  exact ⟨sx_s n, n + 1, _, cs, sx_up σ n v, sx_fr_i hh, sx_S_up h hv ⟨by omega, by omega⟩, sx_up_al, Nat.le_succ n, sx_b_s (Nat.lt_succ_self n), by rw [sx_d_s, sx_up_n]⟩
/-- a new symbol, of which more is known -/
theorem sx_fr_asm {lo hi : Int} {g : sx_F → (sx_T → List sx_F → (sx_KT) → Bool)} (h : sx_S sr n tb cs σ) (hw : sx_wide sr n) (hv : lo ≤ v ∧ v ≤ hi) (h64 : -9223372036854775808 ≤ v ∧ v ≤ 9223372036854775807) (hg : ∀ (tb1 : sx_T) (k1 : sx_KT), sx_S sr (n + 1) tb1 cs (sx_up σ n v) → g (sx_s n) tb1 cs k1 = true → ∃ tb' cs', k1 tb' cs' = true ∧ sx_S sr (n + 1) tb' cs' (sx_up σ n v)) (hh : sx_fr lo hi n tb cs (fun r m tb1 cs1 => g r tb1 cs1 (fun tb2 cs2 => k r m tb2 cs2)) = true) : sx_R sr n σ k v := by
  have hs := hw n (Nat.le_refl n)
  have h1 := sx_fr_i hh
  have h2 := sx_S_up h hv ⟨by omega, by omega⟩
  obtain ⟨tb', cs', h3, h4⟩ := hg _ _ h2 h1
  exact ⟨sx_s n, n + 1, tb', cs', sx_up σ n v, h3, h4, sx_up_al, Nat.le_succ n, sx_b_s (Nat.lt_succ_self n), by rw [sx_d_s, sx_up_n]⟩
theorem sx_ft_ok {lv : Nat} {r : sx_F} (h : sx_S sr n tb cs σ) (hw : sx_wide sr n) (hb : sx_b n r) (hm : -9223372036854775808 ≤ mn ∧ mx ≤ 9223372036854775807) (hv : mn ≤ v ∧ v ≤ mx) (he : mn ≤ sx_d σ r → sx_d σ r ≤ mx → v = sx_d σ r) (hh : sx_ft lv sr mn mx n tb cs r k = true) : sx_R sr n σ k v := by
  unfold sx_ft at hh
  cases hc : (sx_ad (-1) r (mn, []) (fun g => sx_ge lv sr tb cs g) && sx_ad (-1) (mx, []) r (fun g => sx_ge lv sr tb cs g)) with
  | false => rw [hc] at hh; exact sx_fr_ok h hw hv ⟨by omega, by omega⟩ hh
  | true =>
    rw [hc] at hh
    rw [Bool.and_eq_true] at hc
    obtain ⟨g1, a1, a2, -⟩ := sx_ad_ok (β := Bool) (-1) r (mn, [])
    obtain ⟨g2, b1, b2, -⟩ := sx_ad_ok (β := Bool) (-1) (mx, []) r
    rw [a1, b1] at hc
    have c1 := sx_ge_ok h hc.1
    have c2 := sx_ge_ok h hc.2
    rw [a2] at c1
    rw [b2] at c2
    have d1 : sx_d σ ((mn, []) : sx_F) = mn := by simp [sx_d, sx_dl]
    have d2 : sx_d σ ((mx, []) : sx_F) = mx := by simp [sx_d, sx_dl]
    rw [d1] at c1
    rw [d2] at c2
    exact ⟨r, n, tb, cs, σ, hh, h, sx_al_r, Nat.le_refl n, hb, he (by omega) (by omega)⟩
/-- f - r - e is not below 0 -/
noncomputable def sx_ab (sr : Nat → Int × Int) (e : Int) (f r : sx_F) (tb : sx_T) (cs : List sx_F) (k : sx_KT) : Bool := sx_ad (-1) f r (fun g => sx_ad 1 (-e, []) g (fun g => sx_asm sr tb cs g k))
theorem sx_ab_ok {e : Int} {f r : sx_F} {k1 : sx_KT} (h : sx_S sr n tb cs σ) (hf : sx_b n f) (hr : sx_b n r) (hd : sx_d σ r + e ≤ sx_d σ f) (hh : sx_ab sr e f r tb cs k1 = true) : ∃ tb' cs', k1 tb' cs' = true ∧ sx_S sr n tb' cs' σ := by
  unfold sx_ab at hh
  obtain ⟨g, a1, a2, a3⟩ := sx_ad_ok (β := Bool) (-1) f r
  rw [a1] at hh
  obtain ⟨g2, b1, b2, b3⟩ := sx_ad_ok (β := Bool) 1 (-e, []) g
  rw [b1] at hh
  have d1 : sx_d σ ((-e, []) : sx_F) = -e := by simp [sx_d, sx_dl]
  exact sx_asm_ok h (b3 n (fun q hq => by cases hq) (a3 n hf hr)) (by rw [b2, d1, a2]; omega) hh
/-- f - r - e is not below 0: kept where w asks for it -/
noncomputable def sx_aw (w : Bool) (sr : Nat → Int × Int) (e : Int) (f r : sx_F) (tb : sx_T) (cs : List sx_F) (k : sx_KT) : Bool := Bool.rec (motive := fun _ => Bool) (k tb cs) (sx_ab sr e f r tb cs k) w
theorem sx_aw_ok {w : Bool} {e : Int} {f r : sx_F} {k1 : sx_KT} (h : sx_S sr n tb cs σ) (hf : sx_b n f) (hr : sx_b n r) (hd : sx_d σ r + e ≤ sx_d σ f) (hh : sx_aw w sr e f r tb cs k1 = true) : ∃ tb' cs', k1 tb' cs' = true ∧ sx_S sr n tb' cs' σ := by
  cases w with
  | false => exact ⟨tb, cs, hh, h⟩
  | true => exact sx_ab_ok h hf hr hd hh
noncomputable def sx_min (a b : Int) : Int := Bool.rec (motive := fun _ => Int) a b (sx_p (a - b))
theorem sx_min_i (a b v : Int) (h1 : v ≤ a) (h2 : v ≤ b) : v ≤ sx_min a b := by
  unfold sx_min
  cases sx_p (a - b) with
  | false => exact h1
  | true => exact h2
/-- and -/
noncomputable def sx_and (w : Bool) (sr : Nat → Int × Int) (mn mx : Int) (x y : sx_F) (n : Nat) (tb : sx_T) (cs : List sx_F) (k : sx_Kf) : Bool := Bool.rec (motive := fun _ => Bool)
  (Bool.rec (motive := fun _ => Bool) (sx_fr mn mx n tb cs k) (sx_fr 0 (sx_hi sr tb y) n tb cs (fun r m tb1 cs1 => sx_aw w sr 0 y r tb1 cs1 (fun tb2 cs2 => k r m tb2 cs2))) (sx_p (sx_lo sr tb y)))
  (Bool.rec (motive := fun _ => Bool) (sx_fr 0 (sx_hi sr tb x) n tb cs (fun r m tb1 cs1 => sx_aw w sr 0 x r tb1 cs1 (fun tb2 cs2 => k r m tb2 cs2))) (sx_fr 0 (sx_min (sx_hi sr tb x) (sx_hi sr tb y)) n tb cs (fun r m tb1 cs1 => sx_aw w sr 0 x r tb1 cs1 (fun tb2 cs2 => sx_aw w sr 0 y r tb2 cs2 (fun tb3 cs3 => k r m tb3 cs3)))) (sx_p (sx_lo sr tb y))) (sx_p (sx_lo sr tb x))
theorem sx_and_ok {w : Bool} {x y : sx_F} (h : sx_S sr n tb cs σ) (hw : sx_wide sr n) (hx : sx_b n x) (hy : sx_b n y) (hm : -9223372036854775808 ≤ mn ∧ mx ≤ 9223372036854775807) (hv : mn ≤ v ∧ v ≤ mx) (h1 : 0 ≤ sx_d σ x → 0 ≤ v ∧ v ≤ sx_d σ x) (h2 : 0 ≤ sx_d σ y → 0 ≤ v ∧ v ≤ sx_d σ y) (hh : sx_and w sr mn mx x y n tb cs k = true) : sx_R sr n σ k v := by
  unfold sx_and at hh
  have rx := sx_lo_ok h x
  have ry := sx_lo_ok h y
  have hal : sx_al n σ (sx_up σ n v) := sx_up_al
  have ex : sx_d (sx_up σ n v) x = sx_d σ x := (sx_d_al hal hx).symm
  have ey : sx_d (sx_up σ n v) y = sx_d σ y := (sx_d_al hal hy).symm
  have en : sx_d (sx_up σ n v) (sx_s n) = v := by rw [sx_d_s, sx_up_n]
  have hbn : sx_b (n + 1) (sx_s n) := sx_b_s (Nat.lt_succ_self n)
  have hbx := sx_b_m hx (Nat.le_succ n)
  have hby := sx_b_m hy (Nat.le_succ n)
  cases px : sx_p (sx_lo sr tb x) with
  | false =>
    rw [px] at hh
    cases py : sx_p (sx_lo sr tb y) with
    | false => rw [py] at hh; exact sx_fr_ok h hw hv ⟨by omega, by omega⟩ hh
    | true =>
      rw [py] at hh
      have q := sx_p_t py
      have g := h2 (by omega)
      exact sx_fr_asm (g := fun r tb1 cs1 k1 => sx_aw w sr 0 y r tb1 cs1 k1) h hw ⟨g.1, by omega⟩ ⟨by omega, by omega⟩ (fun tb1 k1 hS hg => sx_aw_ok hS hby hbn (by rw [ey, en]; omega) hg) hh
  | true =>
    rw [px] at hh
    have q := sx_p_t px
    have g := h1 (by omega)
    cases py : sx_p (sx_lo sr tb y) with
    | false =>
      rw [py] at hh
      exact sx_fr_asm (g := fun r tb1 cs1 k1 => sx_aw w sr 0 x r tb1 cs1 k1) h hw ⟨g.1, by omega⟩ ⟨by omega, by omega⟩ (fun tb1 k1 hS hg => sx_aw_ok hS hbx hbn (by rw [ex, en]; omega) hg) hh
    | true =>
      rw [py] at hh
      have q2 := sx_p_t py
      have g2 := h2 (by omega)
      exact sx_fr_asm (g := fun r tb1 cs1 k1 => sx_aw w sr 0 x r tb1 cs1 (fun tb2 cs2 => sx_aw w sr 0 y r tb2 cs2 k1)) h hw ⟨g.1, sx_min_i _ _ _ (by omega) (by omega)⟩ ⟨by omega, by omega⟩ (fun tb1 k1 hS hg => by
        obtain ⟨tb2, cs2, hk, hS2⟩ := sx_aw_ok hS hbx hbn (by rw [ex, en]; omega) hg
        exact sx_aw_ok hS2 hby hbn (by rw [ey, en]; omega) hk) hh
/-- how many bits two numbers have at most -/
def sx_bits (a b : Int) : Nat := Nat.log2 (max a.toNat b.toNat) + 1
theorem sx_bits_ok {a b x : Int} (h : x ≤ a ∨ x ≤ b) : x < 2 ^ sx_bits a b := by
  have h1 : max a.toNat b.toNat < 2 ^ sx_bits a b := Nat.lt_log2_self
  have hc : ((2 ^ sx_bits a b : Nat) : Int) = (2 : Int) ^ sx_bits a b := by simp
  have h2 : a.toNat ≤ max a.toNat b.toNat := Nat.le_max_left _ _
  have h3 : b.toNat ≤ max a.toNat b.toNat := Nat.le_max_right _ _
  omega
/-- or (c = true), exclusive or: both not below 0 -/
noncomputable def sx_or (sr : Nat → Int × Int) (mn mx : Int) (w : Nat) (c : Bool) (x y : sx_F) (n : Nat) (tb : sx_T) (cs : List sx_F) (k : sx_Kf) : Bool := Bool.rec (motive := fun _ => Bool) (sx_fr mn mx n tb cs k)
  (sx_fr (Bool.rec (motive := fun _ => Int) 0 (sx_lo sr tb x) c) ((2 : Int) ^ sx_bits (sx_hi sr tb x) (sx_hi sr tb y) - 1) n tb cs k) (sx_p (sx_lo sr tb x) && sx_p (sx_lo sr tb y) && Nat.blt (sx_bits (sx_hi sr tb x) (sx_hi sr tb y)) w)
theorem sx_or_ok {w : Nat} {c : Bool} {x y : sx_F} (h : sx_S sr n tb cs σ) (hw : sx_wide sr n) (hm : -9223372036854775808 ≤ mn ∧ mx ≤ 9223372036854775807) (hv : mn ≤ v ∧ v ≤ mx) (h1 : ∀ j, j < w → 0 ≤ sx_d σ x → 0 ≤ sx_d σ y → sx_d σ x < 2 ^ j → sx_d σ y < 2 ^ j → (c = true → sx_d σ x ≤ v) ∧ 0 ≤ v ∧ v < 2 ^ j) (hh : sx_or sr mn mx w c x y n tb cs k = true) : sx_R sr n σ k v := by
  unfold sx_or at hh
  have rx := sx_lo_ok h x
  have ry := sx_lo_ok h y
  cases hc : (sx_p (sx_lo sr tb x) && sx_p (sx_lo sr tb y) && Nat.blt (sx_bits (sx_hi sr tb x) (sx_hi sr tb y)) w) with
  | false => rw [hc] at hh; exact sx_fr_ok h hw hv ⟨by omega, by omega⟩ hh
  | true =>
    rw [hc] at hh
    rw [Bool.and_eq_true, Bool.and_eq_true] at hc
    have q1 := sx_p_t hc.1.1
    have q2 := sx_p_t hc.1.2
    have q3 : sx_bits (sx_hi sr tb x) (sx_hi sr tb y) < w := Nat.le_of_ble_eq_true hc.2
    have b1 := sx_bits_ok (x := sx_d σ x) (a := sx_hi sr tb x) (b := sx_hi sr tb y) (Or.inl rx.2)
    have b2 := sx_bits_ok (x := sx_d σ y) (a := sx_hi sr tb x) (b := sx_hi sr tb y) (Or.inr ry.2)
    obtain ⟨g1, g2, g3⟩ := h1 _ q3 (by omega) (by omega) b1 b2
    refine sx_fr_ok h hw ⟨?_, by omega⟩ ⟨by omega, by omega⟩ hh
    cases c with
    | false => exact g2
    | true => have := g1 rfl; show sx_lo sr tb x ≤ v; omega
/-- a shift to the left -/
noncomputable def sx_shl (lv : Nat) (sr : Nat → Int × Int) (mn mx : Int) (w : Int) (x y : sx_F) (n : Nat) (tb : sx_T) (cs : List sx_F) (k : sx_Kf) : Bool := Bool.rec (motive := fun _ => Bool) (sx_fr mn mx n tb cs k)
  (match y.2 with
    | [] => sx_ad ((2 : Int) ^ y.1.toNat) (0, []) x (fun r => sx_ft lv sr mn mx n tb cs r k)
    | _ => Bool.rec (motive := fun _ => Bool) (sx_fr mn mx n tb cs k) (sx_fr (sx_lo sr tb x) (sx_hi sr tb x * (2 : Int) ^ (sx_hi sr tb y).toNat) n tb cs k) (sx_p (mx - sx_hi sr tb x * (2 : Int) ^ (sx_hi sr tb y).toNat))) (sx_p (sx_lo sr tb x) && sx_p (sx_lo sr tb y) && sx_p (w - 1 - sx_hi sr tb y))
theorem sx_pw {a b : Nat} (h : a ≤ b) : (2 : Int) ^ a ≤ 2 ^ b := by
  have := Nat.pow_le_pow_right (n := 2) (by decide) h
  have h1 : ((2 ^ a : Nat) : Int) = (2 : Int) ^ a := by simp
  have h2 : ((2 ^ b : Nat) : Int) = (2 : Int) ^ b := by simp
  omega
theorem sx_pw1 (a : Nat) : (1 : Int) ≤ 2 ^ a := by
  have := Nat.two_pow_pos a
  have h1 : ((2 ^ a : Nat) : Int) = (2 : Int) ^ a := by simp
  omega
theorem sx_shl_ok {lv : Nat} {w : Int} {x y : sx_F} (h : sx_S sr n tb cs σ) (hw : sx_wide sr n) (hx : sx_b n x) (hm : -9223372036854775808 ≤ mn ∧ mx ≤ 9223372036854775807) (hv : mn ≤ v ∧ v ≤ mx) (h1 : 0 ≤ sx_d σ x → 0 ≤ sx_d σ y → sx_d σ y ≤ w - 1 → sx_d σ x * 2 ^ (sx_d σ y).toNat ≤ mx → v = sx_d σ x * 2 ^ (sx_d σ y).toNat) (hh : sx_shl lv sr mn mx w x y n tb cs k = true) : sx_R sr n σ k v := by
  unfold sx_shl at hh
  have rx := sx_lo_ok h x
  have ry := sx_lo_ok h y
  cases hc : (sx_p (sx_lo sr tb x) && sx_p (sx_lo sr tb y) && sx_p (w - 1 - sx_hi sr tb y)) with
  | false => rw [hc] at hh; exact sx_fr_ok h hw hv ⟨by omega, by omega⟩ hh
  | true =>
    rw [hc] at hh
    rw [Bool.and_eq_true, Bool.and_eq_true] at hc
    have q1 := sx_p_t hc.1.1
    have q2 := sx_p_t hc.1.2
    have q3 := sx_p_t hc.2
    have g := h1 (by omega) (by omega) (by omega)
    obtain ⟨y0, yl⟩ := y
    cases yl with
    | nil =>
      have hh : sx_ad ((2 : Int) ^ y0.toNat) (0, []) x (fun r => sx_ft lv sr mn mx n tb cs r k) = true := hh
      have ey : sx_d σ (y0, []) = y0 := by simp [sx_d, sx_dl]
      rw [ey] at g
      obtain ⟨r, a1, a2, a3⟩ := sx_ad_ok (β := Bool) ((2 : Int) ^ y0.toNat) (0, []) x
      rw [a1] at hh
      have d0 : sx_d σ ((0, []) : sx_F) = 0 := by simp [sx_d, sx_dl]
      have e : sx_d σ r = sx_d σ x * 2 ^ y0.toNat := by rw [a2, d0, Int.zero_add, Int.mul_comm]
      exact sx_ft_ok h hw (a3 n (fun q hq => by cases hq) hx) hm hv (fun _ z => by rw [e]; exact g (by rw [← e]; exact z)) hh
    | cons q0 ql =>
      have hh : Bool.rec (motive := fun _ => Bool) (sx_fr mn mx n tb cs k) (sx_fr (sx_lo sr tb x) (sx_hi sr tb x * (2 : Int) ^ (sx_hi sr tb (y0, q0 :: ql)).toNat) n tb cs k) (sx_p (mx - sx_hi sr tb x * (2 : Int) ^ (sx_hi sr tb (y0, q0 :: ql)).toNat)) = true := hh
      generalize (y0, q0 :: ql) = y at *
      cases hp : sx_p (mx - sx_hi sr tb x * (2 : Int) ^ (sx_hi sr tb y).toNat) with
      | false => rw [hp] at hh; exact sx_fr_ok h hw hv ⟨by omega, by omega⟩ hh
      | true =>
        rw [hp] at hh
        have q4 := sx_p_t hp
        have p1 : (2 : Int) ^ (sx_d σ y).toNat ≤ 2 ^ (sx_hi sr tb y).toNat := sx_pw (by omega)
        have p2 := sx_pw1 (sx_d σ y).toNat
        have m1 : sx_d σ x * 2 ^ (sx_d σ y).toNat ≤ sx_hi sr tb x * 2 ^ (sx_hi sr tb y).toNat := Int.mul_le_mul rx.2 p1 (by omega) (by omega)
        have m2 : sx_d σ x * 1 ≤ sx_d σ x * 2 ^ (sx_d σ y).toNat := Int.mul_le_mul_of_nonneg_left p2 (by omega)
        have g := g (by omega)
        exact sx_fr_ok h hw ⟨by omega, by omega⟩ ⟨by omega, by omega⟩ hh
/-- a shift to the right of what is not below 0 -/
noncomputable def sx_shr (w9 : Bool) (sr : Nat → Int × Int) (mn mx : Int) (w : Int) (x y : sx_F) (n : Nat) (tb : sx_T) (cs : List sx_F) (k : sx_Kf) : Bool := Bool.rec (motive := fun _ => Bool) (sx_fr mn mx n tb cs k)
  (Bool.rec (motive := fun _ => Bool) (sx_fr 0 (sx_hi sr tb x) n tb cs (fun r m tb1 cs1 => sx_aw w9 sr 0 x r tb1 cs1 (fun tb2 cs2 => k r m tb2 cs2)))
    (sx_fr 0 (Int.ofNat ((sx_hi sr tb x).toNat >>> (sx_lo sr tb y).toNat)) n tb cs (fun r m tb1 cs1 => sx_aw w9 sr (Bool.rec (motive := fun _ => Int) 0 1 (sx_p (sx_lo sr tb x - 1) && sx_p (sx_lo sr tb y - 1))) x r tb1 cs1 (fun tb2 cs2 => k r m tb2 cs2))) (sx_p (sx_lo sr tb y) && sx_p (w - 1 - sx_hi sr tb y))) (sx_p (sx_lo sr tb x))
theorem sx_shr_ok {w9 : Bool} {w : Int} {x y : sx_F} (h : sx_S sr n tb cs σ) (hw : sx_wide sr n) (hx : sx_b n x) (hm : -9223372036854775808 ≤ mn ∧ mx ≤ 9223372036854775807) (hv : mn ≤ v ∧ v ≤ mx) (h1 : 0 ≤ sx_d σ x → ∃ j : Nat, v = (((sx_d σ x).toNat >>> j : Nat) : Int) ∧ (0 ≤ sx_d σ y → sx_d σ y ≤ w - 1 → sx_d σ y = (j : Int))) (hh : sx_shr w9 sr mn mx w x y n tb cs k = true) : sx_R sr n σ k v := by
  unfold sx_shr at hh
  have rx := sx_lo_ok h x
  have ry := sx_lo_ok h y
  have hal : sx_al n σ (sx_up σ n v) := sx_up_al
  have ex : sx_d (sx_up σ n v) x = sx_d σ x := (sx_d_al hal hx).symm
  have en : sx_d (sx_up σ n v) (sx_s n) = v := by rw [sx_d_s, sx_up_n]
  have hbn : sx_b (n + 1) (sx_s n) := sx_b_s (Nat.lt_succ_self n)
  have hbx := sx_b_m hx (Nat.le_succ n)
  cases px : sx_p (sx_lo sr tb x) with
  | false => rw [px] at hh; exact sx_fr_ok h hw hv ⟨by omega, by omega⟩ hh
  | true =>
    rw [px] at hh
    have q := sx_p_t px
    obtain ⟨j, hj, hjy⟩ := h1 (by omega)
    have s0 := nt_shr (m := (sx_d σ x).toNat) (j := j)
    have s3 : ∀ (P c : Nat), (sx_d σ x).toNat ≤ P → c ≤ j → (sx_d σ x).toNat >>> j ≤ P >>> c := fun P c a b => nt_shm a b
    generalize (sx_d σ x).toNat >>> j = M at hj s0 s3
    obtain ⟨s1, s2⟩ := s0
    cases hc : (sx_p (sx_lo sr tb y) && sx_p (w - 1 - sx_hi sr tb y)) with
    | false =>
      rw [hc] at hh
      exact sx_fr_asm (g := fun r tb1 cs1 k1 => sx_aw w9 sr 0 x r tb1 cs1 k1) h hw ⟨by omega, by omega⟩ ⟨by omega, by omega⟩ (fun tb1 k1 hS hg => sx_aw_ok hS hbx hbn (by rw [ex, en]; omega) hg) hh
    | true =>
      rw [hc] at hh
      rw [Bool.and_eq_true] at hc
      have q1 := sx_p_t hc.1
      have q2 := sx_p_t hc.2
      have hjy := hjy (by omega) (by omega)
      have s3 := s3 (sx_hi sr tb x).toNat (sx_lo sr tb y).toNat (by omega) (by omega)
      generalize (sx_hi sr tb x).toNat >>> (sx_lo sr tb y).toNat = N at hh s3
      refine sx_fr_asm (g := fun r tb1 cs1 k1 => sx_aw w9 sr (Bool.rec (motive := fun _ => Int) 0 1 (sx_p (sx_lo sr tb x - 1) && sx_p (sx_lo sr tb y - 1))) x r tb1 cs1 k1) h hw ⟨by omega, ?_⟩ ⟨by omega, by omega⟩ (fun tb1 k1 hS hg => sx_aw_ok hS hbx hbn ?_ hg) hh
      · rw [hj]
        exact Int.ofNat_le.mpr s3
      · rw [ex, en]
        cases hd : (sx_p (sx_lo sr tb x - 1) && sx_p (sx_lo sr tb y - 1)) with
        | false => show v + 0 ≤ _; omega
        | true =>
          rw [Bool.and_eq_true] at hd
          have t1 := sx_p_t hd.1
          have t2 := sx_p_t hd.2
          have s2 := s2 (by omega) (by omega)
          show v + 1 ≤ _
          omega
/-- times -/
noncomputable def sx_mul (lv : Nat) (sr : Nat → Int × Int) (mn mx : Int) (x y : sx_F) (n : Nat) (tb : sx_T) (cs : List sx_F) (k : sx_Kf) : Bool := match x.2 with
  | [] => sx_ad x.1 (0, []) y (fun r => sx_ft lv sr mn mx n tb cs r k)
  | _ => match y.2 with
    | [] => sx_ad y.1 (0, []) x (fun r => sx_ft lv sr mn mx n tb cs r k)
    | _ => sx_fr mn mx n tb cs k
theorem sx_mul_ok {lv : Nat} {x y : sx_F} (h : sx_S sr n tb cs σ) (hw : sx_wide sr n) (hx : sx_b n x) (hy : sx_b n y) (hm : -9223372036854775808 ≤ mn ∧ mx ≤ 9223372036854775807) (hv : mn ≤ v ∧ v ≤ mx) (h1 : mn ≤ sx_d σ x * sx_d σ y → sx_d σ x * sx_d σ y ≤ mx → v = sx_d σ x * sx_d σ y) (hh : sx_mul lv sr mn mx x y n tb cs k = true) : sx_R sr n σ k v := by
  have d0 : sx_d σ ((0, []) : sx_F) = 0 := by simp [sx_d, sx_dl]
  unfold sx_mul at hh
  split at hh
  · rename_i hx0
    have ex : sx_d σ x = x.1 := by unfold sx_d; rw [hx0]; simp [sx_dl]
    obtain ⟨r, a1, a2, a3⟩ := sx_ad_ok (β := Bool) x.1 (0, []) y
    rw [a1] at hh
    have e : sx_d σ r = sx_d σ x * sx_d σ y := by rw [a2, d0, ex, Int.zero_add]
    exact sx_ft_ok h hw (a3 n (fun q hq => by cases hq) hy) hm hv (fun z1 z2 => by rw [e] at z1 z2 ⊢; exact h1 z1 z2) hh
  · split at hh
    · rename_i hy0
      have ey : sx_d σ y = y.1 := by unfold sx_d; rw [hy0]; simp [sx_dl]
      obtain ⟨r, a1, a2, a3⟩ := sx_ad_ok (β := Bool) y.1 (0, []) x
      rw [a1] at hh
      have e : sx_d σ r = sx_d σ x * sx_d σ y := by rw [a2, d0, ey, Int.zero_add, Int.mul_comm]
      exact sx_ft_ok h hw (a3 n (fun q hq => by cases hq) hx) hm hv (fun z1 z2 => by rw [e] at z1 z2 ⊢; exact h1 z1 z2) hh
    · exact sx_fr_ok h hw hv ⟨by omega, by omega⟩ hh
/-- plus (kb = 1), minus (kb = -1) -/
noncomputable def sx_sum (lv : Nat) (sr : Nat → Int × Int) (mn mx kb : Int) (x y : sx_F) (n : Nat) (tb : sx_T) (cs : List sx_F) (k : sx_Kf) : Bool := sx_ad kb x y (fun r => sx_ft lv sr mn mx n tb cs r k)
theorem sx_sum_ok {lv : Nat} {kb : Int} {x y : sx_F} (h : sx_S sr n tb cs σ) (hw : sx_wide sr n) (hx : sx_b n x) (hy : sx_b n y) (hm : -9223372036854775808 ≤ mn ∧ mx ≤ 9223372036854775807) (hv : mn ≤ v ∧ v ≤ mx) (h1 : mn ≤ sx_d σ x + kb * sx_d σ y → sx_d σ x + kb * sx_d σ y ≤ mx → v = sx_d σ x + kb * sx_d σ y) (hh : sx_sum lv sr mn mx kb x y n tb cs k = true) : sx_R sr n σ k v := by
  unfold sx_sum at hh
  obtain ⟨r, a1, a2, a3⟩ := sx_ad_ok (β := Bool) kb x y
  rw [a1] at hh
  exact sx_ft_ok h hw (a3 n hx hy) hm hv (fun z1 z2 => by rw [a2] at z1 z2 ⊢; exact h1 z1 z2) hh
end SXO
