/-! THE WALK IS RIGHT: one instruction -/
theorem sx_r32 (x : Int32) : -2147483648 ≤ x.toInt ∧ x.toInt ≤ 2147483647 := by
  have h1 := x.le_toInt
  have h2 := x.toInt_lt
  omega
theorem sx_r64 (x : Int64) : -9223372036854775808 ≤ x.toInt ∧ x.toInt ≤ 9223372036854775807 := by
  have h1 := x.le_toInt
  have h2 := x.toInt_lt
  omega
theorem sx_bm32 {x : Int} (h1 : -2147483648 ≤ x) (h2 : x ≤ 2147483647) : x.bmod (2 ^ 32) = x := sx_bm (w := 31) (by omega) (by omega)
theorem sx_bm64 {x : Int} (h1 : -9223372036854775808 ≤ x) (h2 : x ≤ 9223372036854775807) : x.bmod (2 ^ 64) = x := sx_bm (w := 63) (by omega) (by omega)
theorem sx_wide_ok {n : Nat} (hn : 20000 ≤ n) : sx_wide sx_sr n := by
  intro m hm
  have hb : Nat.blt m 19000 = false := by
    cases h : Nat.blt m 19000 with
    | false => rfl
    | true => have := Nat.le_of_ble_eq_true h; omega
  unfold sx_sr
  rw [hb]
  exact ⟨Int.le_refl _, Int.le_refl _⟩
theorem sx_w32_ok {a : Nat} (h : Nat.blt a 4294967296 = true) : (Int32.ofNat a).toInt = sx_w32 a := by
  have ha : a < 4294967296 := Nat.le_of_ble_eq_true h
  unfold sx_w32
  rw [Int32.toInt_ofNat']
  have hs : (Int32.size : Nat) = 4294967296 := rfl
  rw [hs, Int.bmod_def]
  cases hb : Nat.ble 2147483648 a with
  | false =>
    have hlt : a < 2147483648 := by
      rcases Nat.lt_or_ge a 2147483648 with q | q
      · exact q
      · rw [Nat.ble_eq_true_of_le q] at hb; cases hb
    show _ = (a : Int)
    omega
  | true =>
    have hge := Nat.le_of_ble_eq_true hb
    show _ = Int.negSucc (4294967295 - a)
    rw [Int.negSucc_eq]
    omega
theorem sx_w64_ok {a : Nat} (h : Nat.blt a 18446744073709551616 = true) : (Int64.ofNat a).toInt = sx_w64 a := by
  have ha : a < 18446744073709551616 := Nat.le_of_ble_eq_true h
  unfold sx_w64
  rw [Int64.toInt_ofNat']
  have hs : (Int64.size : Nat) = 18446744073709551616 := rfl
  rw [hs, Int.bmod_def]
  cases hb : Nat.ble 9223372036854775808 a with
  | false =>
    have hlt : a < 9223372036854775808 := by
      rcases Nat.lt_or_ge a 9223372036854775808 with q | q
      · exact q
      · rw [Nat.ble_eq_true_of_le q] at hb; cases hb
    show _ = (a : Int)
    omega
  | true =>
    have hge := Nat.le_of_ble_eq_true hb
    show _ = Int.negSucc (18446744073709551615 - a)
    rw [Int.negSucc_eq]
    omega
section SXQ
variable {n : Nat} {tb : sx_T} {cs : List sx_F} {σ : Nat → Int} {k : sx_Kf} {X Y : sx_F} {lv : Nat} {w9 : Bool}
theorem sx_oiadd {x y : Int32} (h : sx_S sx_sr n tb cs σ) (hw : sx_wide sx_sr n) (hX : sx_b n X) (hY : sx_b n Y) (ex : x.toInt = sx_d σ X) (ey : y.toInt = sx_d σ Y) (hh : sx_sum lv sx_sr sx_mn sx_mx 1 X Y n tb cs k = true) : sx_R sx_sr n σ k (x + y).toInt := sx_sum_ok h hw hX hY ⟨by decide, by decide⟩ (sx_r32 _) (fun h1 h2 => by
  rw [Int32.toInt_add, ex, ey, show sx_d σ X + sx_d σ Y = sx_d σ X + 1 * sx_d σ Y by omega]
  exact sx_bm32 h1 h2) hh
theorem sx_oisub {x y : Int32} (h : sx_S sx_sr n tb cs σ) (hw : sx_wide sx_sr n) (hX : sx_b n X) (hY : sx_b n Y) (ex : x.toInt = sx_d σ X) (ey : y.toInt = sx_d σ Y) (hh : sx_sum lv sx_sr sx_mn sx_mx (-1) X Y n tb cs k = true) : sx_R sx_sr n σ k (x - y).toInt := sx_sum_ok h hw hX hY ⟨by decide, by decide⟩ (sx_r32 _) (fun h1 h2 => by
  rw [Int32.toInt_sub, ex, ey, show sx_d σ X - sx_d σ Y = sx_d σ X + (-1) * sx_d σ Y by omega]
  exact sx_bm32 h1 h2) hh
theorem sx_oimul {x y : Int32} (h : sx_S sx_sr n tb cs σ) (hw : sx_wide sx_sr n) (hX : sx_b n X) (hY : sx_b n Y) (ex : x.toInt = sx_d σ X) (ey : y.toInt = sx_d σ Y) (hh : sx_mul lv sx_sr sx_mn sx_mx X Y n tb cs k = true) : sx_R sx_sr n σ k (x * y).toInt := sx_mul_ok h hw hX hY ⟨by decide, by decide⟩ (sx_r32 _) (fun h1 h2 => by
  rw [Int32.toInt_mul, ex, ey]
  exact sx_bm32 h1 h2) hh
theorem sx_oiand {x y : Int32} (h : sx_S sx_sr n tb cs σ) (hw : sx_wide sx_sr n) (hX : sx_b n X) (hY : sx_b n Y) (ex : x.toInt = sx_d σ X) (ey : y.toInt = sx_d σ Y) (hh : sx_and w9 sx_sr sx_mn sx_mx X Y n tb cs k = true) : sx_R sx_sr n σ k (x &&& y).toInt := sx_and_ok h hw hX hY ⟨by decide, by decide⟩ (sx_r32 _) (fun h1 => by
  rw [← ex] at h1 ⊢
  exact bv_and (x := x.toBitVec) (y := y.toBitVec) h1) (fun h1 => by
  rw [← ey] at h1 ⊢
  exact bv_and' (x := x.toBitVec) (y := y.toBitVec) h1) hh
theorem sx_oior {x y : Int32} (h : sx_S sx_sr n tb cs σ) (hw : sx_wide sx_sr n) (hX : sx_b n X) (hY : sx_b n Y) (ex : x.toInt = sx_d σ X) (ey : y.toInt = sx_d σ Y) (hh : sx_or sx_sr sx_mn sx_mx 31 true X Y n tb cs k = true) : sx_R sx_sr n σ k (x ||| y).toInt := sx_or_ok h hw ⟨by decide, by decide⟩ (sx_r32 _) (fun j hj h1 h2 h3 h4 => by
  rw [← ex] at h1 h3 ⊢
  rw [← ey] at h2 h4
  have hq := bv_or (x := x.toBitVec) (y := y.toBitVec) h1 h2 (Nat.lt_of_lt_of_le hj (by decide)) h3 h4
  exact ⟨fun _ => hq.1, Int.le_trans h1 hq.1, hq.2.2⟩) hh
theorem sx_oladd {x y : Int64} (h : sx_S sx_sr n tb cs σ) (hw : sx_wide sx_sr n) (hX : sx_b n X) (hY : sx_b n Y) (ex : x.toInt = sx_d σ X) (ey : y.toInt = sx_d σ Y) (hh : sx_sum lv sx_sr sx_Ln sx_Lx 1 X Y n tb cs k = true) : sx_R sx_sr n σ k (x + y).toInt := sx_sum_ok h hw hX hY ⟨by decide, by decide⟩ (sx_r64 _) (fun h1 h2 => by
  rw [Int64.toInt_add, ex, ey, show sx_d σ X + sx_d σ Y = sx_d σ X + 1 * sx_d σ Y by omega]
  exact sx_bm64 h1 h2) hh
theorem sx_olsub {x y : Int64} (h : sx_S sx_sr n tb cs σ) (hw : sx_wide sx_sr n) (hX : sx_b n X) (hY : sx_b n Y) (ex : x.toInt = sx_d σ X) (ey : y.toInt = sx_d σ Y) (hh : sx_sum lv sx_sr sx_Ln sx_Lx (-1) X Y n tb cs k = true) : sx_R sx_sr n σ k (x - y).toInt := sx_sum_ok h hw hX hY ⟨by decide, by decide⟩ (sx_r64 _) (fun h1 h2 => by
  rw [Int64.toInt_sub, ex, ey, show sx_d σ X - sx_d σ Y = sx_d σ X + (-1) * sx_d σ Y by omega]
  exact sx_bm64 h1 h2) hh
theorem sx_olmul {x y : Int64} (h : sx_S sx_sr n tb cs σ) (hw : sx_wide sx_sr n) (hX : sx_b n X) (hY : sx_b n Y) (ex : x.toInt = sx_d σ X) (ey : y.toInt = sx_d σ Y) (hh : sx_mul lv sx_sr sx_Ln sx_Lx X Y n tb cs k = true) : sx_R sx_sr n σ k (x * y).toInt := sx_mul_ok h hw hX hY ⟨by decide, by decide⟩ (sx_r64 _) (fun h1 h2 => by
  rw [Int64.toInt_mul, ex, ey]
  exact sx_bm64 h1 h2) hh
theorem sx_oland {x y : Int64} (h : sx_S sx_sr n tb cs σ) (hw : sx_wide sx_sr n) (hX : sx_b n X) (hY : sx_b n Y) (ex : x.toInt = sx_d σ X) (ey : y.toInt = sx_d σ Y) (hh : sx_and w9 sx_sr sx_Ln sx_Lx X Y n tb cs k = true) : sx_R sx_sr n σ k (x &&& y).toInt := sx_and_ok h hw hX hY ⟨by decide, by decide⟩ (sx_r64 _) (fun h1 => by
  rw [← ex] at h1 ⊢
  exact bv_and (x := x.toBitVec) (y := y.toBitVec) h1) (fun h1 => by
  rw [← ey] at h1 ⊢
  exact bv_and' (x := x.toBitVec) (y := y.toBitVec) h1) hh
theorem sx_olor {x y : Int64} (h : sx_S sx_sr n tb cs σ) (hw : sx_wide sx_sr n) (hX : sx_b n X) (hY : sx_b n Y) (ex : x.toInt = sx_d σ X) (ey : y.toInt = sx_d σ Y) (hh : sx_or sx_sr sx_Ln sx_Lx 63 true X Y n tb cs k = true) : sx_R sx_sr n σ k (x ||| y).toInt := sx_or_ok h hw ⟨by decide, by decide⟩ (sx_r64 _) (fun j hj h1 h2 h3 h4 => by
  rw [← ex] at h1 h3 ⊢
  rw [← ey] at h2 h4
  have hq := bv_or (x := x.toBitVec) (y := y.toBitVec) h1 h2 (Nat.lt_of_lt_of_le hj (by decide)) h3 h4
  exact ⟨fun _ => hq.1, Int.le_trans h1 hq.1, hq.2.2⟩) hh
theorem sx_a255 {x : Int32} (h1 : -256 ≤ x.toInt) (h2 : x.toInt ≤ 255) : (x &&& 255).toInt = if 0 ≤ x.toInt then x.toInt else x.toInt + 256 := by
  have key : ∀ j : Nat, j < 512 → ((Int32.ofInt ((j : Int) - 256)) &&& 255).toInt = if 0 ≤ (j : Int) - 256 then (j : Int) - 256 else (j : Int) - 256 + 256 := by decide +kernel
  have h3 := key (x.toInt + 256).toNat (by omega)
  have h4 : (((x.toInt + 256).toNat : Nat) : Int) - 256 = x.toInt := by omega
  rw [h4, Int32.ofInt_toInt] at h3
  exact h3
theorem sx_xm1 {x : Int32} (h1 : 0 ≤ x.toInt) (h2 : x.toInt ≤ 255) : (x ^^^ (-1)).toInt = -1 - x.toInt := by
  have key : ∀ j : Nat, j < 256 → ((Int32.ofInt (j : Int)) ^^^ (-1)).toInt = -1 - (j : Int) := by decide +kernel
  have h3 := key x.toInt.toNat (by omega)
  have h4 : ((x.toInt.toNat : Nat) : Int) = x.toInt := by omega
  rw [h4, Int32.ofInt_toInt] at h3
  exact h3
theorem sx_in2 {f : sx_F} {lo hi : Int} (h : sx_S sx_sr n tb cs σ) (hh : sx_in lv tb cs lo hi f = true) : lo ≤ sx_d σ f ∧ sx_d σ f ≤ hi := by
  unfold sx_in at hh
  rw [Bool.and_eq_true] at hh
  obtain ⟨g1, a1, a2, -⟩ := sx_ad_ok (β := Bool) (-1) f (lo, [])
  obtain ⟨g2, b1, b2, -⟩ := sx_ad_ok (β := Bool) (-1) (hi, []) f
  rw [a1, b1] at hh
  have c1 := sx_ge_ok h hh.1
  have c2 := sx_ge_ok h hh.2
  rw [a2] at c1
  rw [b2] at c2
  have d1 : sx_d σ ((lo, []) : sx_F) = lo := by simp [sx_d, sx_dl]
  have d2 : sx_d σ ((hi, []) : sx_F) = hi := by simp [sx_d, sx_dl]
  omega
theorem sx_oiany {x y : Int32} (h : sx_S sx_sr n tb cs σ) (hw : sx_wide sx_sr n) (hX : sx_b n X) (hY : sx_b n Y) (ex : x.toInt = sx_d σ X) (ey : y.toInt = sx_d σ Y) (hh : sx_any lv X Y n tb cs k = true) : sx_R sx_sr n σ k (x &&& y).toInt := by
  unfold sx_any at hh
  cases hc : (Nat.ble 20 lv && sx_i255 Y && sx_in lv tb cs (-256) 255 X) with
  | false => rw [hc] at hh; exact sx_oiand h hw hX hY ex ey hh
  | true =>
    rw [hc] at hh
    rw [Bool.and_eq_true, Bool.and_eq_true] at hc
    obtain ⟨⟨-, hc1⟩, hc2⟩ := hc
    have hy : y = 255 := by
      unfold sx_i255 at hc1
      split at hc1
      · rename_i c
        have h5 := sx_z_t hc1
        have h6 : y.toInt = c := by rw [ey]; simp [sx_d, sx_dl]
        apply Int32.toInt_inj.mp
        rw [h6, show c = 255 by omega]
        decide
      · cases hc1
    have hin : -256 ≤ sx_d σ X ∧ sx_d σ X ≤ 255 := by
      unfold sx_in at hc2
      rw [Bool.and_eq_true] at hc2
      obtain ⟨g1, a1, a2, -⟩ := sx_ad_ok (β := Bool) (-1) X (-256, [])
      obtain ⟨g2, b1, b2, -⟩ := sx_ad_ok (β := Bool) (-1) (255, []) X
      rw [a1, b1] at hc2
      have c1 := sx_ge_ok h hc2.1
      have c2 := sx_ge_ok h hc2.2
      rw [a2] at c1
      rw [b2] at c2
      have d1 : sx_d σ ((-256, []) : sx_F) = -256 := by simp [sx_d, sx_dl]
      have d2 : sx_d σ ((255, []) : sx_F) = 255 := by simp [sx_d, sx_dl]
      omega
    rw [hy, sx_a255 (by omega) (by omega)]
    unfold sx_anf at hh
    replace hh : (sx_asm sx_sr tb cs X (fun tb' cs' => k X n tb' cs') && sx_ad (-1) (-1, []) X (fun g => sx_asm sx_sr tb cs g (fun tb' cs' => sx_ad 1 (256, []) X (fun g2 => k g2 n tb' cs')))) = true := hh
    rw [Bool.and_eq_true] at hh
    by_cases h0 : 0 ≤ x.toInt
    · rw [if_pos h0]
      obtain ⟨tb1, cs1, hk, hS1⟩ := sx_asm_ok h hX (by omega) hh.1
      exact ⟨X, n, tb1, cs1, σ, hk, hS1, sx_al_r, Nat.le_refl n, hX, ex⟩
    · rw [if_neg h0]
      have hh2 := hh.2
      obtain ⟨g, g1, g2, g3⟩ := sx_ad_ok (β := Bool) (-1) (-1, []) X
      rw [g1] at hh2
      have d1 : sx_d σ ((-1, []) : sx_F) = -1 := by simp [sx_d, sx_dl]
      have hbn : ∀ c : Int, sx_b n ((c, []) : sx_F) := fun c q hq => by cases hq
      obtain ⟨tb1, cs1, hk, hS1⟩ := sx_asm_ok h (g3 n (hbn _) hX) (by rw [g2, d1]; omega) hh2
      obtain ⟨g4, e1, e2, e3⟩ := sx_ad_ok (β := Bool) 1 (256, []) X
      rw [e1] at hk
      have d2 : sx_d σ ((256, []) : sx_F) = 256 := by simp [sx_d, sx_dl]
      exact ⟨g4, n, tb1, cs1, σ, hk, hS1, sx_al_r, Nat.le_refl n, e3 n (hbn _) hX, by rw [e2, d2]; omega⟩
theorem sx_fo_ok {g : Int32 → Int32 → Int32} {op : sx_Op} {x y : Int32} (h : sx_S sx_sr n tb cs σ) (ex : x.toInt = sx_d σ X) (ey : y.toInt = sx_d σ Y) (hh : sx_fo g op X Y n tb cs k = true) (hop : op X Y n tb cs k = true → sx_R sx_sr n σ k (g x y).toInt) : sx_R sx_sr n σ k (g x y).toInt := by
  obtain ⟨x0, xl⟩ := X
  obtain ⟨y0, yl⟩ := Y
  unfold sx_fo at hh
  split at hh
  · rename_i h1 h2
    replace h1 : xl = [] := h1
    replace h2 : yl = [] := h2
    subst h1
    subst h2
    rw [sx_fI_eq] at hh
    have e1 : x = Int32.ofInt x0 := by
      have : x.toInt = x0 := by rw [ex]; simp [sx_d, sx_dl]
      rw [← this, Int32.ofInt_toInt]
    have e2 : y = Int32.ofInt y0 := by
      have : y.toInt = y0 := by rw [ey]; simp [sx_d, sx_dl]
      rw [← this, Int32.ofInt_toInt]
    refine ⟨_, n, tb, cs, σ, hh, h, sx_al_r, Nat.le_refl n, fun q hq => (by cases hq), ?_⟩
    rw [e1, e2]
    simp [sx_d, sx_dl]
  · exact hop hh
theorem sx_foL_ok {g : Int64 → Int64 → Int64} {op : sx_Op} {x y : Int64} (h : sx_S sx_sr n tb cs σ) (ex : x.toInt = sx_d σ X) (ey : y.toInt = sx_d σ Y) (hh : sx_foL g op X Y n tb cs k = true) (hop : op X Y n tb cs k = true → sx_R sx_sr n σ k (g x y).toInt) : sx_R sx_sr n σ k (g x y).toInt := by
  obtain ⟨x0, xl⟩ := X
  obtain ⟨y0, yl⟩ := Y
  unfold sx_foL at hh
  split at hh
  · rename_i h1 h2
    replace h1 : xl = [] := h1
    replace h2 : yl = [] := h2
    subst h1
    subst h2
    rw [sx_fI_eq] at hh
    have e1 : x = Int64.ofInt x0 := by
      have : x.toInt = x0 := by rw [ex]; simp [sx_d, sx_dl]
      rw [← this, Int64.ofInt_toInt]
    have e2 : y = Int64.ofInt y0 := by
      have : y.toInt = y0 := by rw [ey]; simp [sx_d, sx_dl]
      rw [← this, Int64.ofInt_toInt]
    refine ⟨_, n, tb, cs, σ, hh, h, sx_al_r, Nat.le_refl n, fun q hq => (by cases hq), ?_⟩
    rw [e1, e2]
    simp [sx_d, sx_dl]
  · exact hop hh
theorem sx_oixor {x y : Int32} (h : sx_S sx_sr n tb cs σ) (hw : sx_wide sx_sr n) (hX : sx_b n X) (hY : sx_b n Y) (ex : x.toInt = sx_d σ X) (ey : y.toInt = sx_d σ Y) (hh : sx_or sx_sr sx_mn sx_mx 31 false X Y n tb cs k = true) : sx_R sx_sr n σ k (x ^^^ y).toInt := sx_or_ok h hw ⟨by decide, by decide⟩ (sx_r32 _) (fun j hj h1 h2 h3 h4 => by
  rw [← ex] at h1 h3 ⊢
  rw [← ey] at h2 h4
  have hq := bv_xor (x := x.toBitVec) (y := y.toBitVec) h1 h2 (Nat.lt_of_lt_of_le hj (by decide)) h3 h4
  exact ⟨fun z => (by cases z), hq.1, hq.2⟩) hh
theorem sx_oixo {x y : Int32} (h : sx_S sx_sr n tb cs σ) (hw : sx_wide sx_sr n) (hX : sx_b n X) (hY : sx_b n Y) (ex : x.toInt = sx_d σ X) (ey : y.toInt = sx_d σ Y) (hh : sx_xo lv X Y n tb cs k = true) : sx_R sx_sr n σ k (x ^^^ y).toInt := by
  unfold sx_xo at hh
  cases hc : (Nat.ble 30 lv && sx_im1 Y && sx_in lv tb cs 0 255 X) with
  | false => rw [hc] at hh; exact sx_oixor h hw hX hY ex ey hh
  | true =>
    rw [hc] at hh
    rw [Bool.and_eq_true, Bool.and_eq_true] at hc
    obtain ⟨⟨-, hc1⟩, hc2⟩ := hc
    have hin := sx_in2 h hc2
    have hy : y = -1 := by
      unfold sx_im1 at hc1
      split at hc1
      · rename_i c
        have h5 := sx_z_t hc1
        have h6 : y.toInt = c := by rw [ey]; simp [sx_d, sx_dl]
        apply Int32.toInt_inj.mp
        rw [h6, show c = -1 by omega]
        decide
      · cases hc1
    rw [hy, sx_xm1 (by omega) (by omega)]
    obtain ⟨g, g1, g2, g3⟩ := sx_ad_ok (β := Bool) (-1) (-1, []) X
    replace hh : sx_ad (-1) (-1, []) X (fun g => k g n tb cs) = true := hh
    rw [g1] at hh
    have d1 : sx_d σ ((-1, []) : sx_F) = -1 := by simp [sx_d, sx_dl]
    exact ⟨g, n, tb, cs, σ, hh, h, sx_al_r, Nat.le_refl n, g3 n (fun q hq => by cases hq) hX, by rw [g2, d1, ex]; omega⟩
theorem sx_oishl {x y : Int32} (h : sx_S sx_sr n tb cs σ) (hw : sx_wide sx_sr n) (hX : sx_b n X) (_ : sx_b n Y) (ex : x.toInt = sx_d σ X) (ey : y.toInt = sx_d σ Y) (hh : sx_shl lv sx_sr sx_mn sx_mx 32 X Y n tb cs k = true) : sx_R sx_sr n σ k (x <<< (y &&& 31)).toInt := sx_shl_ok h hw hX ⟨by decide, by decide⟩ (sx_r32 _) (fun h1 h2 h3 h4 => by
  obtain ⟨j, hj, hs, hjy⟩ := sx_sh y
  rw [← ex] at h1 h4 ⊢
  rw [← ey] at h2 h3 h4 ⊢
  have hjy := hjy h2 (by omega)
  obtain ⟨e1, e2⟩ := bv_nn (x := x.toBitVec) h1
  have e1 : x.toInt = (x.toBitVec.toNat : Int) := e1
  have hyj : y.toInt.toNat = j := by omega
  rw [hyj] at h4 ⊢
  have hc : ((2 ^ j : Nat) : Int) = (2 : Int) ^ j := by simp
  have h5 : ((x.toBitVec.toNat * 2 ^ j : Nat) : Int) = x.toInt * 2 ^ j := by rw [Int.natCast_mul, ← e1, hc]
  have h6 := bv_shl (x := x.toBitVec) (j := j) h1 (by
    have h4 : x.toInt * 2 ^ j ≤ 2147483647 := h4
    omega)
  rw [h5] at h6
  rw [← h6]
  show (x.toBitVec <<< ((y &&& 31).toBitVec.smod 32)).toInt = _
  rw [BitVec.shiftLeft_eq', hs]) hh
theorem sx_olshl {x : Int64} {y : Int32} (h : sx_S sx_sr n tb cs σ) (hw : sx_wide sx_sr n) (hX : sx_b n X) (_ : sx_b n Y) (ex : x.toInt = sx_d σ X) (ey : y.toInt = sx_d σ Y) (hh : sx_shl lv sx_sr sx_Ln sx_Lx 64 X Y n tb cs k = true) : sx_R sx_sr n σ k (x <<< (y.toInt64 &&& 63)).toInt := sx_shl_ok h hw hX ⟨by decide, by decide⟩ (sx_r64 _) (fun h1 h2 h3 h4 => by
  obtain ⟨j, hj, hs, hjy⟩ := sx_shL y
  rw [← ex] at h1 h4 ⊢
  rw [← ey] at h2 h3 h4 ⊢
  have hjy := hjy h2 (by omega)
  obtain ⟨e1, e2⟩ := bv_nn (x := x.toBitVec) h1
  have e1 : x.toInt = (x.toBitVec.toNat : Int) := e1
  have hyj : y.toInt.toNat = j := by omega
  rw [hyj] at h4 ⊢
  have hc : ((2 ^ j : Nat) : Int) = (2 : Int) ^ j := by simp
  have h5 : ((x.toBitVec.toNat * 2 ^ j : Nat) : Int) = x.toInt * 2 ^ j := by rw [Int.natCast_mul, ← e1, hc]
  have h6 := bv_shl (x := x.toBitVec) (j := j) h1 (by
    have h4 : x.toInt * 2 ^ j ≤ 9223372036854775807 := h4
    omega)
  rw [h5] at h6
  rw [← h6]
  show (x.toBitVec <<< ((y.toInt64 &&& 63).toBitVec.smod 64)).toInt = _
  rw [BitVec.shiftLeft_eq', hs]) hh
theorem sx_oishr {x y : Int32} (h : sx_S sx_sr n tb cs σ) (hw : sx_wide sx_sr n) (hX : sx_b n X) (_ : sx_b n Y) (ex : x.toInt = sx_d σ X) (ey : y.toInt = sx_d σ Y) (hh : sx_shr w9 sx_sr sx_mn sx_mx 32 X Y n tb cs k = true) : sx_R sx_sr n σ k (x >>> (y &&& 31)).toInt := sx_shr_ok h hw hX ⟨by decide, by decide⟩ (sx_r32 _) (fun h1 => by
  obtain ⟨j, hj, hs, hjy⟩ := sx_sh y
  rw [← ex] at h1 ⊢
  refine ⟨j, ?_, fun h2 h3 => ?_⟩
  · obtain ⟨e1, e2⟩ := bv_nn (x := x.toBitVec) h1
    have e1 : x.toInt = (x.toBitVec.toNat : Int) := e1
    rw [e1, Int.toNat_natCast, ← bv_sar (x := x.toBitVec) (j := j) h1]
    show (x.toBitVec.sshiftRight' ((y &&& 31).toBitVec.smod 32)).toInt = _
    rw [BitVec.sshiftRight_eq', hs]
  · rw [← ey] at h2 h3 ⊢
    exact hjy h2 (by omega)) hh
theorem sx_olshr {x : Int64} {y : Int32} (h : sx_S sx_sr n tb cs σ) (hw : sx_wide sx_sr n) (hX : sx_b n X) (_ : sx_b n Y) (ex : x.toInt = sx_d σ X) (ey : y.toInt = sx_d σ Y) (hh : sx_shr w9 sx_sr sx_Ln sx_Lx 64 X Y n tb cs k = true) : sx_R sx_sr n σ k (x >>> (y.toInt64 &&& 63)).toInt := sx_shr_ok h hw hX ⟨by decide, by decide⟩ (sx_r64 _) (fun h1 => by
  obtain ⟨j, hj, hs, hjy⟩ := sx_shL y
  rw [← ex] at h1 ⊢
  refine ⟨j, ?_, fun h2 h3 => ?_⟩
  · obtain ⟨e1, e2⟩ := bv_nn (x := x.toBitVec) h1
    have e1 : x.toInt = (x.toBitVec.toNat : Int) := e1
    rw [e1, Int.toNat_natCast, ← bv_sar (x := x.toBitVec) (j := j) h1]
    show (x.toBitVec.sshiftRight' ((y.toInt64 &&& 63).toBitVec.smod 64)).toInt = _
    rw [BitVec.sshiftRight_eq', hs]
  · rw [← ey] at h2 h3 ⊢
    exact hjy h2 (by omega)) hh
theorem sx_oiushr {x y : Int32} (h : sx_S sx_sr n tb cs σ) (hw : sx_wide sx_sr n) (hX : sx_b n X) (_ : sx_b n Y) (ex : x.toInt = sx_d σ X) (ey : y.toInt = sx_d σ Y) (hh : sx_shr w9 sx_sr sx_mn sx_mx 32 X Y n tb cs k = true) : sx_R sx_sr n σ k ((x.toUInt32 >>> (y.toUInt32 &&& Int32.toUInt32 31)).toInt32).toInt := sx_shr_ok h hw hX ⟨by decide, by decide⟩ (sx_r32 _) (fun h1 => by
  rw [← ex] at h1 ⊢
  have e4 : (y.toBitVec &&& (31 : Int32).toBitVec).toNat = y.toBitVec.toNat &&& 31 := BitVec.toNat_and _ _
  have e3 : y.toBitVec.toNat &&& 31 = y.toBitVec.toNat % 2 ^ 5 := Nat.and_two_pow_sub_one_eq_mod (y.toBitVec.toNat) 5
  refine ⟨(y.toBitVec &&& (31 : Int32).toBitVec).toNat, ?_, fun h2 h3 => ?_⟩
  · obtain ⟨e1, e2⟩ := bv_nn (x := x.toBitVec) h1
    have e1 : x.toInt = (x.toBitVec.toNat : Int) := e1
    rw [e1, Int.toNat_natCast, ← bv_shr (x := x.toBitVec) (j := (y.toBitVec &&& (31 : Int32).toBitVec).toNat) h1]
    show (x.toBitVec >>> ((y.toBitVec &&& (31 : Int32).toBitVec) % 32)).toInt = _
    rw [BitVec.ushiftRight_eq', BitVec.toNat_umod, show (32 : BitVec 32).toNat = 32 from rfl, Nat.mod_eq_of_lt (by omega)]
  · rw [← ey] at h2 h3 ⊢
    obtain ⟨e1, -⟩ := bv_nn (x := y.toBitVec) h2
    have e1 : y.toInt = (y.toBitVec.toNat : Int) := e1
    omega) hh
theorem sx_olushr {x : Int64} {y : Int32} (h : sx_S sx_sr n tb cs σ) (hw : sx_wide sx_sr n) (hX : sx_b n X) (_ : sx_b n Y) (ex : x.toInt = sx_d σ X) (ey : y.toInt = sx_d σ Y) (hh : sx_shr w9 sx_sr sx_Ln sx_Lx 64 X Y n tb cs k = true) : sx_R sx_sr n σ k ((x.toUInt64 >>> (y.toInt64.toUInt64 &&& Int64.toUInt64 63)).toInt64).toInt := sx_shr_ok h hw hX ⟨by decide, by decide⟩ (sx_r64 _) (fun h1 => by
  rw [← ex] at h1 ⊢
  have e4 : (y.toInt64.toBitVec &&& (63 : Int64).toBitVec).toNat = y.toInt64.toBitVec.toNat &&& 63 := BitVec.toNat_and _ _
  have e3 : y.toInt64.toBitVec.toNat &&& 63 = y.toInt64.toBitVec.toNat % 2 ^ 6 := Nat.and_two_pow_sub_one_eq_mod (y.toInt64.toBitVec.toNat) 6
  refine ⟨(y.toInt64.toBitVec &&& (63 : Int64).toBitVec).toNat, ?_, fun h2 h3 => ?_⟩
  · obtain ⟨e1, e2⟩ := bv_nn (x := x.toBitVec) h1
    have e1 : x.toInt = (x.toBitVec.toNat : Int) := e1
    rw [e1, Int.toNat_natCast, ← bv_shr (x := x.toBitVec) (j := (y.toInt64.toBitVec &&& (63 : Int64).toBitVec).toNat) h1]
    show (x.toBitVec >>> ((y.toInt64.toBitVec &&& (63 : Int64).toBitVec) % 64)).toInt = _
    rw [BitVec.ushiftRight_eq', BitVec.toNat_umod, show (64 : BitVec 64).toNat = 64 from rfl, Nat.mod_eq_of_lt (by omega)]
  · rw [← ey] at h2 h3 ⊢
    have hy := Int32.toInt_toInt64 y
    obtain ⟨e1, -⟩ := bv_nn (x := y.toInt64.toBitVec) (by rw [Int64.toInt_toBitVec, hy]; exact h2)
    have e1 : y.toInt64.toInt = (y.toInt64.toBitVec.toNat : Int) := e1
    omega) hh
end SXQ
