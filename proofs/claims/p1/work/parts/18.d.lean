theorem u_tn {n : Nat} (h : n < 2 ^ 64) : (UInt64.ofNat n).toNat = n := Nat.mod_eq_of_lt h
theorem g_and {a b c : Nat} (ha : a < 2 ^ 64) (hb : b < 2 ^ 64) (hc : a &&& b = c) : lN a &&& lN b = lN c := by
  subst hc
  have h : UInt64.ofNat a &&& UInt64.ofNat b = UInt64.ofNat (a &&& b) := UInt64.toNat_inj.mp (by rw [UInt64.toNat_and, u_tn ha, u_tn hb, u_tn (Nat.and_lt_two_pow a hb)])
  have h2 := congrArg UInt64.toInt64 h
  exact h2
theorem g_mask {a s p : Nat} (hp : 2 ^ s = p) (hs : s < 64) (ha : a < 2 ^ 64) : lN a &&& lN (p - 1) = lN (a % p) := by
  subst hp
  have := Nat.pow_lt_pow_right (show 1 < 2 by decide) hs
  exact g_and ha (by omega) (Nat.and_two_pow_sub_one_eq_mod a s)
theorem pf_lI {a : Nat} (h : a < 2 ^ 63) : (lN a).toInt = (a : Int) := lg_ofNat_toInt h
theorem pf_shr {a d : Nat} {D : Int64} (hD : (D.toBitVec.smod 64).toNat = d) (h : a < 2 ^ 62) : lN a >>> D = lN (a / 2 ^ d) := by
  have hd : a / 2 ^ d ≤ a := Nat.div_le_self _ _
  apply Int64.toInt_inj.mp
  have e : (lN a >>> D).toInt = (lN a).toInt >>> d := by
    rw [← hD]
    exact BitVec.toInt_sshiftRight ..
  rw [e, Int.shiftRight_eq_div_pow, pf_lI (by omega), pf_lI (by omega)]
  rfl
/-! NAMES AND KEY WORDS -/
def nk_kw (x : Int64) : Prop := x = 1156 ∨ x = 2098 ∨ x = 294 ∨ x = 498 ∨ x = 1476 ∨ x = 14836 ∨ x = 632645 ∨ x = 11566
/-- the letters from the lowest on, up to the i-th, are letters -/
def nk_ok (n i : Nat) : Prop := ∀ j, j < i → n / 32 ^ j ≠ 0 → 1 ≤ n / 32 ^ j % 32 ∧ n / 32 ^ j % 32 ≤ 26
def nk_vn (x : Int64) : Prop := ∃ n, x = lN n ∧ 0 < n ∧ n < 2 ^ 40 ∧ nk_ok n 8
theorem nk_0 {n : Nat} : nk_ok n 0 := fun j h => absurd h (Nat.not_lt_zero j)
theorem nk_s {n i : Nat} (h : nk_ok n i) (h1 : n / 32 ^ i ≠ 0 → 1 ≤ n / 32 ^ i % 32 ∧ n / 32 ^ i % 32 ≤ 26) : nk_ok n (i + 1) := by
  intro j hj hn
  rcases Nat.lt_succ_iff_lt_or_eq.mp hj with h2 | rfl
  · exact h j h2 hn
  · exact h1 hn
theorem nk_z {n i j : Nat} (h : n / 32 ^ i = 0) (hj : i ≤ j) : n / 32 ^ j = 0 := by
  have h1 : n < 32 ^ i := by
    rcases Nat.lt_or_ge n (32 ^ i) with q | q
    · exact q
    · exact absurd h (Nat.ne_of_gt (Nat.div_pos q (Nat.pow_pos (by decide))))
  exact Nat.div_eq_of_lt (Nat.lt_of_lt_of_le h1 (Nat.pow_le_pow_right (by decide) hj))
theorem nk_8 {n : Nat} (h : n < 2 ^ 40) : n / 32 ^ 8 = 0 := by
  have e : (32 : Nat) ^ 8 = 2 ^ 40 := by decide
  rw [e]
  exact Nat.div_eq_of_lt h
theorem nk_all {n i : Nat} (h : nk_ok n i) (hz : n / 32 ^ i = 0) : nk_ok n 8 := by
  intro j hj hn
  rcases Nat.lt_or_ge j i with q | q
  · exact h j q hn
  · exact absurd (nk_z hz q) hn
theorem nk_div (n i : Nat) : n / 32 ^ i / 32 = n / 32 ^ (i + 1) := by rw [Nat.div_div_eq_div_mul, ← Nat.pow_succ]
theorem nk_lt {n : Nat} (i : Nat) (h : n < 2 ^ 40) : n / 32 ^ i < 2 ^ 40 := Nat.lt_of_le_of_lt (Nat.div_le_self _ _) h
theorem nk_shr {k : Nat} (h : k < 2 ^ 40) : lN k >>> ((5 : Int32).toInt64 &&& 63) = lN (k / 32) := pf_shr (a := k) (d := 5) (by decide) (by omega)
theorem nk_and {k : Nat} (h : k < 2 ^ 40) : lN k &&& 31 = lN (k % 32) := g_mask (a := k) (s := 5) (p := 32) (by decide) (by decide) (by omega)
theorem nk_no {x : Int64} {n i : Nat} (hx : x = lN n) (hn : n < 2 ^ 40) (hi : i < 8) (h : n / 32 ^ i ≠ 0) (hb : ¬ (1 ≤ n / 32 ^ i % 32 ∧ n / 32 ^ i % 32 ≤ 26)) : ¬ nk_vn x := by
  rintro ⟨k, h1, h2, h3, h4⟩
  have e : n = k := (pk_lEQ (a := n) (b := k) (by omega) (by omega)).mp (hx.symm.trans h1)
  subst e
  exact hb (h4 i hi h)
theorem nk_neg {x : Int64} (h : x ≤ 0) : ¬ nk_vn x := by
  rintro ⟨k, rfl, h2, h3, -⟩
  have := (pk_lLE (a := k) (b := 0) (by omega) (by omega)).mp h
  omega
theorem nk_big {x : Int64} (h : ¬ x < 1099511627776) : ¬ nk_vn x := by
  rintro ⟨k, rfl, h2, h3, -⟩
  exact h ((pk_lLT (a := k) (b := 1099511627776) (by omega) (by omega)).mpr (by omega))
theorem nk_of {x : Int64} (h0 : ¬ x ≤ 0) (h : x < 1099511627776) : ∃ n, x = lN n ∧ 0 < n ∧ n < 2 ^ 40 := by
  have h1 : ¬ x < 0 := fun q => h0 (Int64.le_of_lt q)
  obtain ⟨k, hk, rfl⟩ := pk_lOf h1
  refine ⟨k, rfl, ?_, ?_⟩
  · rcases Nat.eq_zero_or_pos k with q | q
    · subst q; exact absurd (Int64.le_refl _) h0
    · exact q
  · have := (pk_lLT (a := k) (b := 1099511627776) (by omega) (by omega)).mp h
    omega
def nb_can : List rv_I := [(0, .lload_n 0, 1, 0, 0, 0, []),
  (1, .lconst 0, 1, 0, 0, 0, []),
  (2, .lcmp, 1, 0, 0, 0, []),
  (3, .ifCond .le 11, 3, 8, 0, 0, []),
  (6, .lload_n 0, 1, 0, 0, 0, []),
  (7, .ldc2_w 38, 3, 1099511627776, 0, 0, [12111]),
  (10, .lcmp, 1, 0, 0, 0, []),
  (11, .ifCond .lt 5, 3, 10, 0, 0, []),
  (14, .iconst 0, 1, 0, 0, 0, []),
  (15, .ireturn, 1, 0, 0, 0, []),
  (16, .lload_n 0, 1, 0, 0, 0, []),
  (17, .lstore_n 2, 1, 2, 0, 0, []),
  (18, .iconst 0, 1, 0, 0, 0, []),
  (19, .istore 4, 2, 4, 0, 0, []),
  (21, .iload 4, 2, 4, 0, 0, []),
  (23, .bipush 8, 2, 8, 0, 0, []),
  (25, .if_icmp .ge 44, 3, 41, 0, 0, []),
  (28, .lload_n 2, 1, 2, 0, 0, []),
  (29, .lconst 0, 1, 0, 0, 0, []),
  (30, .lcmp, 1, 0, 0, 0, []),
  (31, .ifCond .eq 38, 3, 41, 0, 0, []),
  (34, .lload_n 2, 1, 2, 0, 0, []),
  (35, .ldc2_w 40, 3, 31, 0, 0, [12112]),
  (38, .land, 1, 0, 0, 0, []),
  (39, .lstore 5, 2, 5, 0, 0, []),
  (41, .lload 5, 2, 5, 0, 0, []),
  (43, .lconst 1, 1, 1, 0, 0, []),
  (44, .lcmp, 1, 0, 0, 0, []),
  (45, .ifCond .lt 12, 3, 33, 0, 0, []),
  (48, .lload 5, 2, 5, 0, 0, []),
  (50, .ldc2_w 42, 3, 26, 0, 0, [12113]),
  (53, .lcmp, 1, 0, 0, 0, []),
  (54, .ifCond .le 5, 3, 35, 0, 0, []),
  (57, .iconst 0, 1, 0, 0, 0, []),
  (58, .ireturn, 1, 0, 0, 0, []),
  (59, .lload_n 2, 1, 2, 0, 0, []),
  (60, .iconst 5, 1, 5, 0, 0, []),
  (61, .lshr, 1, 0, 0, 0, []),
  (62, .lstore_n 2, 1, 2, 0, 0, []),
  (63, .iinc 4 1, 3, 0, 0, 0, []),
  (66, .goto (-45), 3, 14, 0, 0, []),
  (69, .lload_n 0, 1, 0, 0, 0, []),
  (70, .invokestatic 44, 3, 36, 1, 1, [12114, 12115, 10011]),
  (73, .ifCond .ne 7, 3, 46, 0, 0, []),
  (76, .iconst 1, 1, 1, 0, 0, []),
  (77, .goto 4, 3, 47, 0, 0, []),
  (80, .iconst 0, 1, 0, 0, 0, []),
  (81, .ireturn, 1, 0, 0, 0, [])]
set_option maxRecDepth 1000000 in
theorem nd_can0 : rv_dj cX4_canBeName nb_can 0 = true := by decide +kernel
set_option maxRecDepth 1000000 in
theorem nd_can1 : rv_dj cX4_canBeName nb_can 1 = true := by decide +kernel
theorem nd_can : rv_DK (cX4_canBeName, nb_can) := rv_dc_join 2 (fun j hj => by
  rcases (show j = 0 ∨ j = 1 by omega) with rfl | rfl
  · exact nd_can0
  · exact nd_can1) (by decide +kernel)
set_option maxRecDepth 1000000 in
theorem nc_can : nb_can.all (fun e => rv_chk rv_inf rv_nest RX4 false nb_can e) = true := by decide +kernel
theorem ns_can : rv_seq nb_can = true := by decide +kernel
theorem nq_can_0 : decode cX4_canBeName 0 = .ok (.lload_n 0, 1) := by decide +kernel
theorem nq_can_1 : decode cX4_canBeName 1 = .ok (.lconst 0, 1) := by decide +kernel
theorem nq_can_2 : decode cX4_canBeName 2 = .ok (.lcmp, 1) := by decide +kernel
theorem nq_can_3 : decode cX4_canBeName 3 = .ok (.ifCond .le 11, 3) := by decide +kernel
theorem nq_can_6 : decode cX4_canBeName 6 = .ok (.lload_n 0, 1) := by decide +kernel
theorem nq_can_7 : decode cX4_canBeName 7 = .ok (.ldc2_w 38, 3) := by decide +kernel
theorem nq_can_10 : decode cX4_canBeName 10 = .ok (.lcmp, 1) := by decide +kernel
theorem nq_can_11 : decode cX4_canBeName 11 = .ok (.ifCond .lt 5, 3) := by decide +kernel
theorem nq_can_14 : decode cX4_canBeName 14 = .ok (.iconst 0, 1) := by decide +kernel
theorem nq_can_15 : decode cX4_canBeName 15 = .ok (.ireturn, 1) := by decide +kernel
theorem nq_can_16 : decode cX4_canBeName 16 = .ok (.lload_n 0, 1) := by decide +kernel
theorem nq_can_17 : decode cX4_canBeName 17 = .ok (.lstore_n 2, 1) := by decide +kernel
theorem nq_can_18 : decode cX4_canBeName 18 = .ok (.iconst 0, 1) := by decide +kernel
theorem nq_can_19 : decode cX4_canBeName 19 = .ok (.istore 4, 2) := by decide +kernel
theorem nq_can_21 : decode cX4_canBeName 21 = .ok (.iload 4, 2) := by decide +kernel
theorem nq_can_23 : decode cX4_canBeName 23 = .ok (.bipush 8, 2) := by decide +kernel
theorem nq_can_25 : decode cX4_canBeName 25 = .ok (.if_icmp .ge 44, 3) := by decide +kernel
theorem nq_can_28 : decode cX4_canBeName 28 = .ok (.lload_n 2, 1) := by decide +kernel
theorem nq_can_29 : decode cX4_canBeName 29 = .ok (.lconst 0, 1) := by decide +kernel
theorem nq_can_30 : decode cX4_canBeName 30 = .ok (.lcmp, 1) := by decide +kernel
theorem nq_can_31 : decode cX4_canBeName 31 = .ok (.ifCond .eq 38, 3) := by decide +kernel
theorem nq_can_34 : decode cX4_canBeName 34 = .ok (.lload_n 2, 1) := by decide +kernel
theorem nq_can_35 : decode cX4_canBeName 35 = .ok (.ldc2_w 40, 3) := by decide +kernel
theorem nq_can_38 : decode cX4_canBeName 38 = .ok (.land, 1) := by decide +kernel
theorem nq_can_39 : decode cX4_canBeName 39 = .ok (.lstore 5, 2) := by decide +kernel
theorem nq_can_41 : decode cX4_canBeName 41 = .ok (.lload 5, 2) := by decide +kernel
theorem nq_can_43 : decode cX4_canBeName 43 = .ok (.lconst 1, 1) := by decide +kernel
theorem nq_can_44 : decode cX4_canBeName 44 = .ok (.lcmp, 1) := by decide +kernel
theorem nq_can_45 : decode cX4_canBeName 45 = .ok (.ifCond .lt 12, 3) := by decide +kernel
theorem nq_can_48 : decode cX4_canBeName 48 = .ok (.lload 5, 2) := by decide +kernel
theorem nq_can_50 : decode cX4_canBeName 50 = .ok (.ldc2_w 42, 3) := by decide +kernel
theorem nq_can_53 : decode cX4_canBeName 53 = .ok (.lcmp, 1) := by decide +kernel
theorem nq_can_54 : decode cX4_canBeName 54 = .ok (.ifCond .le 5, 3) := by decide +kernel
theorem nq_can_57 : decode cX4_canBeName 57 = .ok (.iconst 0, 1) := by decide +kernel
theorem nq_can_58 : decode cX4_canBeName 58 = .ok (.ireturn, 1) := by decide +kernel
theorem nq_can_59 : decode cX4_canBeName 59 = .ok (.lload_n 2, 1) := by decide +kernel
theorem nq_can_60 : decode cX4_canBeName 60 = .ok (.iconst 5, 1) := by decide +kernel
theorem nq_can_61 : decode cX4_canBeName 61 = .ok (.lshr, 1) := by decide +kernel
theorem nq_can_62 : decode cX4_canBeName 62 = .ok (.lstore_n 2, 1) := by decide +kernel
theorem nq_can_63 : decode cX4_canBeName 63 = .ok (.iinc 4 1, 3) := by decide +kernel
theorem nq_can_66 : decode cX4_canBeName 66 = .ok (.goto (-45), 3) := by decide +kernel
theorem nq_can_69 : decode cX4_canBeName 69 = .ok (.lload_n 0, 1) := by decide +kernel
theorem nq_can_70 : decode cX4_canBeName 70 = .ok (.invokestatic 44, 3) := by decide +kernel
theorem nq_can_73 : decode cX4_canBeName 73 = .ok (.ifCond .ne 7, 3) := by decide +kernel
theorem nq_can_76 : decode cX4_canBeName 76 = .ok (.iconst 1, 1) := by decide +kernel
theorem nq_can_77 : decode cX4_canBeName 77 = .ok (.goto 4, 3) := by decide +kernel
theorem nq_can_80 : decode cX4_canBeName 80 = .ok (.iconst 0, 1) := by decide +kernel
theorem nq_can_81 : decode cX4_canBeName 81 = .ok (.ireturn, 1) := by decide +kernel
def nb_nam : List rv_I := [(0, .lload_n 0, 1, 0, 0, 0, []),
  (1, .lconst 1, 1, 1, 0, 0, []),
  (2, .lcmp, 1, 0, 0, 0, []),
  (3, .ifCond .lt 11, 3, 8, 0, 0, []),
  (6, .lload_n 0, 1, 0, 0, 0, []),
  (7, .ldc2_w 181, 3, 1099511627776, 0, 0, [16094]),
  (10, .lcmp, 1, 0, 0, 0, []),
  (11, .ifCond .lt 5, 3, 10, 0, 0, []),
  (14, .iconst 0, 1, 0, 0, 0, []),
  (15, .ireturn, 1, 0, 0, 0, []),
  (16, .iconst 1, 1, 1, 0, 0, []),
  (17, .istore_n 2, 1, 2, 0, 0, []),
  (18, .lload_n 0, 1, 0, 0, 0, []),
  (19, .lstore_n 3, 1, 3, 0, 0, []),
  (20, .lload_n 3, 1, 3, 0, 0, []),
  (21, .lconst 0, 1, 0, 0, 0, []),
  (22, .lcmp, 1, 0, 0, 0, []),
  (23, .ifCond .le 42, 3, 41, 0, 0, []),
  (26, .iload_n 2, 1, 2, 0, 0, []),
  (27, .ifCond .eq 29, 3, 34, 0, 0, []),
  (30, .lload_n 3, 1, 3, 0, 0, []),
  (31, .ldc2_w 183, 3, 31, 0, 0, [16095]),
  (34, .land, 1, 0, 0, 0, []),
  (35, .lconst 1, 1, 1, 0, 0, []),
  (36, .lcmp, 1, 0, 0, 0, []),
  (37, .ifCond .lt 19, 3, 34, 0, 0, []),
  (40, .lload_n 3, 1, 3, 0, 0, []),
  (41, .ldc2_w 183, 3, 31, 0, 0, [16095]),
  (44, .land, 1, 0, 0, 0, []),
  (45, .ldc2_w 185, 3, 26, 0, 0, [16096]),
  (48, .lcmp, 1, 0, 0, 0, []),
  (49, .ifCond .gt 7, 3, 34, 0, 0, []),
  (52, .iconst 1, 1, 1, 0, 0, []),
  (53, .goto 4, 3, 35, 0, 0, []),
  (56, .iconst 0, 1, 0, 0, 0, []),
  (57, .istore_n 2, 1, 2, 0, 0, []),
  (58, .lload_n 3, 1, 3, 0, 0, []),
  (59, .iconst 5, 1, 5, 0, 0, []),
  (60, .lshr, 1, 0, 0, 0, []),
  (61, .lstore_n 3, 1, 3, 0, 0, []),
  (62, .goto (-42), 3, 14, 0, 0, []),
  (65, .iload_n 2, 1, 2, 0, 0, []),
  (66, .ireturn, 1, 0, 0, 0, [])]
set_option maxRecDepth 1000000 in
theorem nd_nam0 : rv_dj cX12_isName nb_nam 0 = true := by decide +kernel
set_option maxRecDepth 1000000 in
theorem nd_nam1 : rv_dj cX12_isName nb_nam 1 = true := by decide +kernel
theorem nd_nam : rv_DK (cX12_isName, nb_nam) := rv_dc_join 2 (fun j hj => by
  rcases (show j = 0 ∨ j = 1 by omega) with rfl | rfl
  · exact nd_nam0
  · exact nd_nam1) (by decide +kernel)
set_option maxRecDepth 1000000 in
theorem nc_nam : nb_nam.all (fun e => rv_chk rv_inf rv_nest RX12 false nb_nam e) = true := by decide +kernel
theorem ns_nam : rv_seq nb_nam = true := by decide +kernel
theorem nq_nam_0 : decode cX12_isName 0 = .ok (.lload_n 0, 1) := by decide +kernel
theorem nq_nam_1 : decode cX12_isName 1 = .ok (.lconst 1, 1) := by decide +kernel
theorem nq_nam_2 : decode cX12_isName 2 = .ok (.lcmp, 1) := by decide +kernel
theorem nq_nam_3 : decode cX12_isName 3 = .ok (.ifCond .lt 11, 3) := by decide +kernel
theorem nq_nam_6 : decode cX12_isName 6 = .ok (.lload_n 0, 1) := by decide +kernel
theorem nq_nam_7 : decode cX12_isName 7 = .ok (.ldc2_w 181, 3) := by decide +kernel
theorem nq_nam_10 : decode cX12_isName 10 = .ok (.lcmp, 1) := by decide +kernel
theorem nq_nam_11 : decode cX12_isName 11 = .ok (.ifCond .lt 5, 3) := by decide +kernel
theorem nq_nam_14 : decode cX12_isName 14 = .ok (.iconst 0, 1) := by decide +kernel
theorem nq_nam_15 : decode cX12_isName 15 = .ok (.ireturn, 1) := by decide +kernel
theorem nq_nam_16 : decode cX12_isName 16 = .ok (.iconst 1, 1) := by decide +kernel
theorem nq_nam_17 : decode cX12_isName 17 = .ok (.istore_n 2, 1) := by decide +kernel
theorem nq_nam_18 : decode cX12_isName 18 = .ok (.lload_n 0, 1) := by decide +kernel
theorem nq_nam_19 : decode cX12_isName 19 = .ok (.lstore_n 3, 1) := by decide +kernel
theorem nq_nam_20 : decode cX12_isName 20 = .ok (.lload_n 3, 1) := by decide +kernel
theorem nq_nam_21 : decode cX12_isName 21 = .ok (.lconst 0, 1) := by decide +kernel
theorem nq_nam_22 : decode cX12_isName 22 = .ok (.lcmp, 1) := by decide +kernel
theorem nq_nam_23 : decode cX12_isName 23 = .ok (.ifCond .le 42, 3) := by decide +kernel
theorem nq_nam_26 : decode cX12_isName 26 = .ok (.iload_n 2, 1) := by decide +kernel
theorem nq_nam_27 : decode cX12_isName 27 = .ok (.ifCond .eq 29, 3) := by decide +kernel
theorem nq_nam_30 : decode cX12_isName 30 = .ok (.lload_n 3, 1) := by decide +kernel
theorem nq_nam_31 : decode cX12_isName 31 = .ok (.ldc2_w 183, 3) := by decide +kernel
theorem nq_nam_34 : decode cX12_isName 34 = .ok (.land, 1) := by decide +kernel
theorem nq_nam_35 : decode cX12_isName 35 = .ok (.lconst 1, 1) := by decide +kernel
theorem nq_nam_36 : decode cX12_isName 36 = .ok (.lcmp, 1) := by decide +kernel
theorem nq_nam_37 : decode cX12_isName 37 = .ok (.ifCond .lt 19, 3) := by decide +kernel
theorem nq_nam_40 : decode cX12_isName 40 = .ok (.lload_n 3, 1) := by decide +kernel
theorem nq_nam_41 : decode cX12_isName 41 = .ok (.ldc2_w 183, 3) := by decide +kernel
theorem nq_nam_44 : decode cX12_isName 44 = .ok (.land, 1) := by decide +kernel
theorem nq_nam_45 : decode cX12_isName 45 = .ok (.ldc2_w 185, 3) := by decide +kernel
theorem nq_nam_48 : decode cX12_isName 48 = .ok (.lcmp, 1) := by decide +kernel
theorem nq_nam_49 : decode cX12_isName 49 = .ok (.ifCond .gt 7, 3) := by decide +kernel
theorem nq_nam_52 : decode cX12_isName 52 = .ok (.iconst 1, 1) := by decide +kernel
theorem nq_nam_53 : decode cX12_isName 53 = .ok (.goto 4, 3) := by decide +kernel
theorem nq_nam_56 : decode cX12_isName 56 = .ok (.iconst 0, 1) := by decide +kernel
theorem nq_nam_57 : decode cX12_isName 57 = .ok (.istore_n 2, 1) := by decide +kernel
theorem nq_nam_58 : decode cX12_isName 58 = .ok (.lload_n 3, 1) := by decide +kernel
theorem nq_nam_59 : decode cX12_isName 59 = .ok (.iconst 5, 1) := by decide +kernel
theorem nq_nam_60 : decode cX12_isName 60 = .ok (.lshr, 1) := by decide +kernel
theorem nq_nam_61 : decode cX12_isName 61 = .ok (.lstore_n 3, 1) := by decide +kernel
theorem nq_nam_62 : decode cX12_isName 62 = .ok (.goto (-42), 3) := by decide +kernel
theorem nq_nam_65 : decode cX12_isName 65 = .ok (.iload_n 2, 1) := by decide +kernel
theorem nq_nam_66 : decode cX12_isName 66 = .ok (.ireturn, 1) := by decide +kernel
theorem nq_kw_0 : decode cX5_isKeyWord 0 = .ok (.lload_n 0, 1) := by decide +kernel
theorem nq_kw_1 : decode cX5_isKeyWord 1 = .ok (.ldc2_w 57, 3) := by decide +kernel
theorem nq_kw_4 : decode cX5_isKeyWord 4 = .ok (.lcmp, 1) := by decide +kernel
theorem nq_kw_5 : decode cX5_isKeyWord 5 = .ok (.ifCond .eq 59, 3) := by decide +kernel
theorem nq_kw_8 : decode cX5_isKeyWord 8 = .ok (.lload_n 0, 1) := by decide +kernel
theorem nq_kw_9 : decode cX5_isKeyWord 9 = .ok (.ldc2_w 59, 3) := by decide +kernel
theorem nq_kw_12 : decode cX5_isKeyWord 12 = .ok (.lcmp, 1) := by decide +kernel
theorem nq_kw_13 : decode cX5_isKeyWord 13 = .ok (.ifCond .eq 51, 3) := by decide +kernel
theorem nq_kw_16 : decode cX5_isKeyWord 16 = .ok (.lload_n 0, 1) := by decide +kernel
theorem nq_kw_17 : decode cX5_isKeyWord 17 = .ok (.ldc2_w 61, 3) := by decide +kernel
theorem nq_kw_20 : decode cX5_isKeyWord 20 = .ok (.lcmp, 1) := by decide +kernel
theorem nq_kw_21 : decode cX5_isKeyWord 21 = .ok (.ifCond .eq 43, 3) := by decide +kernel
theorem nq_kw_24 : decode cX5_isKeyWord 24 = .ok (.lload_n 0, 1) := by decide +kernel
theorem nq_kw_25 : decode cX5_isKeyWord 25 = .ok (.ldc2_w 63, 3) := by decide +kernel
theorem nq_kw_28 : decode cX5_isKeyWord 28 = .ok (.lcmp, 1) := by decide +kernel
theorem nq_kw_29 : decode cX5_isKeyWord 29 = .ok (.ifCond .eq 35, 3) := by decide +kernel
theorem nq_kw_32 : decode cX5_isKeyWord 32 = .ok (.lload_n 0, 1) := by decide +kernel
theorem nq_kw_33 : decode cX5_isKeyWord 33 = .ok (.ldc2_w 65, 3) := by decide +kernel
theorem nq_kw_36 : decode cX5_isKeyWord 36 = .ok (.lcmp, 1) := by decide +kernel
theorem nq_kw_37 : decode cX5_isKeyWord 37 = .ok (.ifCond .eq 27, 3) := by decide +kernel
theorem nq_kw_40 : decode cX5_isKeyWord 40 = .ok (.lload_n 0, 1) := by decide +kernel
theorem nq_kw_41 : decode cX5_isKeyWord 41 = .ok (.ldc2_w 67, 3) := by decide +kernel
theorem nq_kw_44 : decode cX5_isKeyWord 44 = .ok (.lcmp, 1) := by decide +kernel
theorem nq_kw_45 : decode cX5_isKeyWord 45 = .ok (.ifCond .eq 19, 3) := by decide +kernel
theorem nq_kw_48 : decode cX5_isKeyWord 48 = .ok (.lload_n 0, 1) := by decide +kernel
theorem nq_kw_49 : decode cX5_isKeyWord 49 = .ok (.ldc2_w 69, 3) := by decide +kernel
theorem nq_kw_52 : decode cX5_isKeyWord 52 = .ok (.lcmp, 1) := by decide +kernel
theorem nq_kw_53 : decode cX5_isKeyWord 53 = .ok (.ifCond .eq 11, 3) := by decide +kernel
theorem nq_kw_56 : decode cX5_isKeyWord 56 = .ok (.lload_n 0, 1) := by decide +kernel
theorem nq_kw_57 : decode cX5_isKeyWord 57 = .ok (.ldc2_w 71, 3) := by decide +kernel
theorem nq_kw_60 : decode cX5_isKeyWord 60 = .ok (.lcmp, 1) := by decide +kernel
theorem nq_kw_61 : decode cX5_isKeyWord 61 = .ok (.ifCond .ne 7, 3) := by decide +kernel
theorem nq_kw_64 : decode cX5_isKeyWord 64 = .ok (.iconst 1, 1) := by decide +kernel
theorem nq_kw_65 : decode cX5_isKeyWord 65 = .ok (.goto 4, 3) := by decide +kernel
theorem nq_kw_68 : decode cX5_isKeyWord 68 = .ok (.iconst 0, 1) := by decide +kernel
theorem nq_kw_69 : decode cX5_isKeyWord 69 = .ok (.ireturn, 1) := by decide +kernel
set_option maxHeartbeats 1000000 in
/-- a method of one long: its walk, with the evaluator for what lies behind any place -/
theorem nk_wrap {l : Launch} {ρ : Nat → Int64} {d mi : Nat} {y : MethodName} {bytes : ByteArray} {nL rt : Nat} {ret : Option FieldType} {body : List rv_I} {call : Nat → List rv_A → List rv_C → Option rv_R} (hinf : rv_inf[mi]? = some (y, bytes, nL, ret)) (hcall : ∀ mi as h res, call mi as h = some res → rv_Mt l ρ d mi as h res ∧ ∃ i, rv_inf[mi]? = some i) (hrt : rv_rtk ret rt = true) (hdk : ∀ e ∈ body, decode bytes e.1 = .ok (e.2.1, e.2.2.1)) (hck : ∀ e ∈ body, rv_chk rv_inf rv_nest y.cls (decide (y.name = "<init>")) body e = true) (hsq : rv_seq body = true) (hpl : plainFor y = true) (hnL : 2 ≤ nL) {h : List rv_C} {res : rv_R}
    (walk : ∀ {p : Program} {e : Env} {R : Room} {s : State} {m : MethodId} {args : Array Value} {below : List Frame} {meth : Method} {c : Code} {Q : State → Prop}, p.tables.exec = Jvm.exec → c.code = bytes → s.vm.findClass y.cls = some m.cls → (∀ w ∈ rv_T2, w.before args s = true) → (∀ (k n : Nat) (e0 : rv_I) (t0 : List rv_I) (ls : rv_L) (st : List rv_A), body.drop k = e0 :: t0 → rv_run call rv_nw rv_ct body nL rt n (e0 :: t0) ls st h 0 0 = some res → ∀ (L0 : List Nat) (lsC : Array Slot) (lv : List (Nat × Value)) (stk : List Value), lv_has lsC nL lv → rv_Ls ρ [] ls lv → rv_Vs ρ [] st stk → W p l e R s m args below meth c s.heap [] 0 0 Q (F0 m e0.1 lsC stk)) → ∀ (ls : Array Slot), lv_has ls nL [(0, .long (ρ 0))] → W p l e R s m args below meth c s.heap [] 0 0 Q (F0 m 0 ls [])) : rv_Mt l ρ (d + 1) mi [rv_sym 1] h res := by
  intro y2 bytes2 nL2 ret2 hinf2 D cA sz ws vs hvs hws
  rw [hinf] at hinf2
  cases hinf2
  obtain ⟨v, vr, rfl, hv, hvr⟩ := rv_Vs_c hvs
  have := rv_Vs_n hvr
  subst this
  obtain ⟨x, rfl, hx0⟩ := hv
  have hx0 := hx0 0 rfl
  subst hx0
  refine rv_ofW (cc := bytes) (maxL := nL) (ret := ret) hpl rfl ?_
  intro p e s m args below meth c s₁ B hml hv
  obtain ⟨rfl, hsz, hP, hKK, hD0⟩ := hv
  subst hsz
  have hts := atoms_spec (ws := rv_ws y bytes nL ret) B.pre
  have hts2 : ∀ w ∈ rv_T2, w.before ([Value.long (ρ 0)] : List Value).toArray s = true := fun w hw => hts w (List.mem_cons_of_mem _ hw)
  have hD := hD0.self (sz := s.heap.size)
  have hl := lv_entry ([.long (ρ 0)]) (n := nL) (by show 2 ≤ nL; exact hnL)
  rw [lg_entry_eq]
  refine walk (Q := MQ below (rv_Q ρ D cA (ws.map Prod.fst) (va_A ws s.heap.size) res.2.2) ([Value.long (ρ 0)] : List Value).toArray s res.1 res.2.1 (va_A ws s.heap.size)) B.exec B.bytes (findClass_of_methodNamed B.named) hts2 (fun k n e0 t0 ls st hk hrun L0 lsC lv stk h1 h2 h3 => ?_) _ hl
  have hG := rv_run_ok (p := p) (l := l) (e := e) (R := (headSpec (rv_ws y bytes nL ret) (rv_rm (d + 1) res.1 res.2.1)).room) (s := s) (m := m) (args := ([Value.long (ρ 0)] : List Value).toArray) (below := below) (meth := meth) (c := c) (ρ := ρ) (D := D) (cA := cA) (A := va_A ws s.heap.size) (L0 := ws.map Prod.fst) hcall rv_hcode rv_cf rv_hini (y := y) (bytes := bytes) (nL := nL) (rt := rt) (ret := ret) (body := body) ⟨B.exec, B.bytes, hml, findClass_of_methodNamed B.named, hts2, B.returns, B.notSynchronized, fun hy => by rw [(name_of_methodNamed B.named B.method).1]; exact hy, hKK, fun q hq => Or.inr hq⟩ hrt hdk hck hsq ⟨rfl, rfl⟩ n (e0 :: t0) ls st h 0 0 res hrun ⟨body.take k, by rw [← hk]; exact (List.take_append_drop k body).symm⟩ e0 t0 rfl
  exact hG.2 res rv_sub.rf rfl rfl lsC lv stk ws s.heap [] h1 (rv_Ls_mono (fun k q h => by cases h) h2) (rv_Vs_mono (fun k q h => by cases h) h3) ⟨hws, hP, hD, va_S.rf, [], (List.append_nil _).symm⟩
set_option maxHeartbeats 1000000 in
/-- isKeyWord -/
theorem nk_isKeyWord {l : Launch} {ρ : Nat → Int64} {d : Nat} {h : List rv_C} {v : Int32} (hv : (nk_kw (ρ 0) ∧ v = Int32.ofNat 1) ∨ (¬ nk_kw (ρ 0) ∧ v = Int32.ofNat 0)) : rv_Mt l ρ (d + 1) 36 [rv_sym 1] h (0, 0, [(some (.inl v), h)]) := by
  obtain ⟨-, f2, f3, f4, f5, f6, f7, f8, f9⟩ := rv_fct (mi := 36) rfl rfl
  refine nk_wrap (call := fun _ _ _ => none) (body := rb_36) (rt := 1) rfl (fun _ _ _ _ h => by cases h) f2 f9 f8 f5 f3 (by decide) ?_
  intro p e R s m args below meth c Q hx hb hown hts G ls hl
  have KT : nk_kw (ρ 0) → ∀ ls, lv_has ls 2 [(0, .long (ρ 0))] → W p l e R s m args below meth c s.heap [] 0 0 Q (F0 m 64 ls []) := fun q ls hl => by
    rcases hv with ⟨-, rfl⟩ | ⟨hn, -⟩
    · exact G 32 10 _ _ [] [] rfl rfl [] ls [] [] (lv_sub hl [] rfl) True.intro True.intro
    · exact absurd q hn
  have KF : ¬ nk_kw (ρ 0) → ∀ ls, lv_has ls 2 [(0, .long (ρ 0))] → W p l e R s m args below meth c s.heap [] 0 0 Q (F0 m 68 ls []) := fun q ls hl => by
    rcases hv with ⟨hn, -⟩ | ⟨-, rfl⟩
    · exact absurd hn q
    · exact G 34 10 _ _ [] [] rfl rfl [] ls [] [] (lv_sub hl [] rfl) True.intro True.intro
  · skip
    refine lv_lload_n hx hb nq_kw_0 rfl (lv_at hl 0 rfl) ?_
    refine lv_ldc2 (v := 1156) hx hb hown (hts _ (rv_w_s (p := 12117) (by decide +kernel))) nq_kw_1 ?_
    refine W.lcmp hx hb nq_kw_4 ?_
    refine lv_if_eq (tgt := 64) hx hb nq_kw_5 (by decide) (fun q => KT (Or.inl ((lg_cmp_eq _ _).mp q)) ls hl) (fun n0 => ?_)
    refine lv_lload_n hx hb nq_kw_8 rfl (lv_at hl 0 rfl) ?_
    refine lv_ldc2 (v := 2098) hx hb hown (hts _ (rv_w_s (p := 12118) (by decide +kernel))) nq_kw_9 ?_
    refine W.lcmp hx hb nq_kw_12 ?_
    refine lv_if_eq (tgt := 64) hx hb nq_kw_13 (by decide) (fun q => KT (Or.inr (Or.inl ((lg_cmp_eq _ _).mp q))) ls hl) (fun n1 => ?_)
    refine lv_lload_n hx hb nq_kw_16 rfl (lv_at hl 0 rfl) ?_
    refine lv_ldc2 (v := 294) hx hb hown (hts _ (rv_w_s (p := 12119) (by decide +kernel))) nq_kw_17 ?_
    refine W.lcmp hx hb nq_kw_20 ?_
    refine lv_if_eq (tgt := 64) hx hb nq_kw_21 (by decide) (fun q => KT (Or.inr (Or.inr (Or.inl ((lg_cmp_eq _ _).mp q)))) ls hl) (fun n2 => ?_)
    refine lv_lload_n hx hb nq_kw_24 rfl (lv_at hl 0 rfl) ?_
    refine lv_ldc2 (v := 498) hx hb hown (hts _ (rv_w_s (p := 12120) (by decide +kernel))) nq_kw_25 ?_
    refine W.lcmp hx hb nq_kw_28 ?_
    refine lv_if_eq (tgt := 64) hx hb nq_kw_29 (by decide) (fun q => KT (Or.inr (Or.inr (Or.inr (Or.inl ((lg_cmp_eq _ _).mp q))))) ls hl) (fun n3 => ?_)
    refine lv_lload_n hx hb nq_kw_32 rfl (lv_at hl 0 rfl) ?_
    refine lv_ldc2 (v := 1476) hx hb hown (hts _ (rv_w_s (p := 12121) (by decide +kernel))) nq_kw_33 ?_
    refine W.lcmp hx hb nq_kw_36 ?_
    refine lv_if_eq (tgt := 64) hx hb nq_kw_37 (by decide) (fun q => KT (Or.inr (Or.inr (Or.inr (Or.inr (Or.inl ((lg_cmp_eq _ _).mp q)))))) ls hl) (fun n4 => ?_)
    refine lv_lload_n hx hb nq_kw_40 rfl (lv_at hl 0 rfl) ?_
    refine lv_ldc2 (v := 14836) hx hb hown (hts _ (rv_w_s (p := 12122) (by decide +kernel))) nq_kw_41 ?_
    refine W.lcmp hx hb nq_kw_44 ?_
    refine lv_if_eq (tgt := 64) hx hb nq_kw_45 (by decide) (fun q => KT (Or.inr (Or.inr (Or.inr (Or.inr (Or.inr (Or.inl ((lg_cmp_eq _ _).mp q))))))) ls hl) (fun n5 => ?_)
    refine lv_lload_n hx hb nq_kw_48 rfl (lv_at hl 0 rfl) ?_
    refine lv_ldc2 (v := 632645) hx hb hown (hts _ (rv_w_s (p := 12123) (by decide +kernel))) nq_kw_49 ?_
    refine W.lcmp hx hb nq_kw_52 ?_
    refine lv_if_eq (tgt := 64) hx hb nq_kw_53 (by decide) (fun q => KT (Or.inr (Or.inr (Or.inr (Or.inr (Or.inr (Or.inr (Or.inl ((lg_cmp_eq _ _).mp q)))))))) ls hl) (fun n6 => ?_)
    refine lv_lload_n hx hb nq_kw_56 rfl (lv_at hl 0 rfl) ?_
    refine lv_ldc2 (v := 11566) hx hb hown (hts _ (rv_w_s (p := 12124) (by decide +kernel))) nq_kw_57 ?_
    refine W.lcmp hx hb nq_kw_60 ?_
    refine lv_if_ne (tgt := 68) hx hb nq_kw_61 (by decide) (fun n7 => ?_) (fun q => KT (Or.inr (Or.inr (Or.inr (Or.inr (Or.inr (Or.inr (Or.inr ((lg_cmp_eq _ _).mp q)))))))) ls hl)
    refine KF ?_ ls hl
    rintro (w | w | w | w | w | w | w | w)
    · exact n0 ((lg_cmp_eq _ _).mpr w)
    · exact n1 ((lg_cmp_eq _ _).mpr w)
    · exact n2 ((lg_cmp_eq _ _).mpr w)
    · exact n3 ((lg_cmp_eq _ _).mpr w)
    · exact n4 ((lg_cmp_eq _ _).mpr w)
    · exact n5 ((lg_cmp_eq _ _).mpr w)
    · exact n6 ((lg_cmp_eq _ _).mpr w)
    · exact n7 ((lg_cmp_eq _ _).mpr w)
