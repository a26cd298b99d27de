/-! ALL RULES HOLD, of both halves -/
noncomputable def sx_ulo (r : sx_Ru) : Bool := r.2.all (fun a => a.2.2.1.all (fun q => Nat.blt q.1 18536))
noncomputable def sx_uhi (r : sx_Ru) : Bool := r.2.all (fun a => a.2.2.1.all (fun q => Nat.ble 18536 q.1))
theorem sx_au_if {st : Bool} {A : Nat → Nat → Int} {q j q2 : Nat} {y : Int} (h : q2 ≠ q) : (if st = true then sx_au A q j y else A) q2 = A q2 := by
  split
  · exact sx_au_ne h
  · rfl
theorem sx_lfr_lo {st : Bool} {q : Nat} {r : sx_Ru} (hr : sx_okr sx_G0 st q r) (hu : sx_ulo r = true) (hq : 5 ≠ q ∧ 6 ≠ q ∧ 106 ≠ q ∧ 107 ≠ q ∧ 108 ≠ q ∧ 130 ≠ q) : sx_okr sx_GG st q r := by
  intro γ A j y hG hR hj hlo hhi hl hn
  obtain ⟨a, ha, w, w1, w2, w3, w4⟩ := hr γ A j y hG.1 hR hj hlo hhi hl hn
  exact ⟨a, ha, w, w1, w2, w3, w4, sx_lo_HH (List.all_eq_true.mp hu a ha) ⟨sx_au_if hq.1, sx_au_if hq.2.1, sx_au_if hq.2.2.1, sx_au_if hq.2.2.2.1, sx_au_if hq.2.2.2.2.1, sx_au_if hq.2.2.2.2.2⟩ hG.2⟩
theorem sx_lfr_hi {st : Bool} {q : Nat} {r : sx_Ru} (hr : sx_okr sx_HH st q r) (hu : sx_uhi r = true) (hq : q = 5 ∨ q = 6 ∨ q = 106 ∨ q = 107 ∨ q = 108 ∨ q = 130) : sx_okr sx_GG st q r := by
  intro γ A j y hG hR hj hlo hhi hl hn
  obtain ⟨a, ha, w, w1, w2, w3, w4⟩ := hr γ A j y hG.2 hR hj hlo hhi hl hn
  exact ⟨a, ha, w, w1, w2, w3, sx_hi_G0 (List.all_eq_true.mp hu a ha) (fun q2 e0 e1 e2 e3 e4 e5 => sx_au_if (by omega)) hG.1, w4⟩
theorem sx_lfm_lo {r : sx_Ru} (hr : sx_okm sx_G0 r) (hu : sx_ulo r = true) : sx_okm sx_GG r := by
  intro γ A x hG hR hn
  obtain ⟨a, ha, w, w1, w2, w4⟩ := hr γ A x hG.1 hR hn
  exact ⟨a, ha, w, w1, w2, w4, sx_lo_HH (List.all_eq_true.mp hu a ha) ⟨rfl, rfl, rfl, rfl, rfl, rfl⟩ hG.2⟩
theorem sx_lfm_hi {r : sx_Ru} (hr : sx_okm sx_HH r) (hu : sx_uhi r = true) : sx_okm sx_GG r := by
  intro γ A x hG hR hn
  obtain ⟨a, ha, w, w1, w2, w4⟩ := hr γ A x hG.2 hR hn
  exact ⟨a, ha, w, w1, w2, sx_hi_G0 (List.all_eq_true.mp hu a ha) (fun _ _ _ _ _ _ _ => rfl) hG.1, w4⟩
theorem sx_lfn_lo {r : sx_Ru} (hr : sx_okn sx_G0 r) (hu : sx_ulo r = true) : sx_okn sx_GG r := by
  intro γ A x y hG hR hx0 hx1 hy0 hy1 hn
  obtain ⟨a, ha, w, w1, w2, w3, w4⟩ := hr γ A x y hG.1 hR hx0 hx1 hy0 hy1 hn
  exact ⟨a, ha, w, w1, w2, w3, w4, sx_lo_HH (List.all_eq_true.mp hu a ha) ⟨rfl, rfl, rfl, rfl, rfl, rfl⟩ hG.2⟩
theorem sx_lfn_hi {r : sx_Ru} (hr : sx_okn sx_HH r) (hu : sx_uhi r = true) : sx_okn sx_GG r := by
  intro γ A x y hG hR hx0 hx1 hy0 hy1 hn
  obtain ⟨a, ha, w, w1, w2, w3, w4⟩ := hr γ A x y hG.2 hR hx0 hx1 hy0 hy1 hn
  exact ⟨a, ha, w, w1, w2, w3, sx_hi_G0 (List.all_eq_true.mp hu a ha) (fun _ _ _ _ _ _ _ => rfl) hG.1, w4⟩
theorem sx_lfb_hi {M : Int} {g : Int → Int → Int} {r : sx_Ru} (hr : sx_okw M g sx_HH r) (hu : sx_uhi r = true) : sx_okw M g sx_GG r := by
  intro γ A x y hG hR hx0 hx1 hy0 hy1 hn
  obtain ⟨a, ha, w, w1, w2, w3, w4⟩ := hr γ A x y hG.2 hR hx0 hx1 hy0 hy1 hn
  exact ⟨a, ha, w, w1, w2, w3, sx_hi_G0 (List.all_eq_true.mp hu a ha) (fun _ _ _ _ _ _ _ => rfl) hG.1, w4⟩
theorem sx_lfq_lo {g : Int → Int} {r : sx_Ru} (hr : sx_okq g sx_G0 r) (hu : sx_ulo r = true) : sx_okq g sx_GG r := by
  intro γ A x hG hR hx0 hx1 hn
  obtain ⟨a, ha, w, w1, w2, w3, w4⟩ := hr γ A x hG.1 hR hx0 hx1 hn
  exact ⟨a, ha, w, w1, w2, w3, w4, sx_lo_HH (List.all_eq_true.mp hu a ha) ⟨rfl, rfl, rfl, rfl, rfl, rfl⟩ hG.2⟩
theorem sx_rl_e : ∀ q, q < 143 → q ∉ [2, 5, 6, 41, 76, 77, 101, 102, 104, 106, 107, 108, 110, 111, 113, 114, 115, 116, 117, 119, 120, 121, 123, 124, 130, 131, 135, 136, 140] → (sx_rl.get q).length = 0 := by decide +kernel
theorem sx_rl_ok (q : Nat) (hq : q < 143) (r : sx_Ru) (hr : r ∈ sx_rl.get q) : sx_okr sx_GG false q r := by
  by_cases hm : q ∈ [2, 5, 6, 41, 76, 77, 101, 102, 104, 106, 107, 108, 110, 111, 113, 114, 115, 116, 117, 119, 120, 121, 123, 124, 130, 131, 135, 136, 140]
  · simp only [List.mem_cons, List.not_mem_nil, or_false] at hm
    rcases hm with rfl | rfl | rfl | rfl | rfl | rfl | rfl | rfl | rfl | rfl | rfl | rfl | rfl | rfl | rfl | rfl | rfl | rfl | rfl | rfl | rfl | rfl | rfl | rfl | rfl | rfl | rfl | rfl | rfl
    · replace hr : r ∈ [sx_r_l_fnd] := hr
      simp only [List.mem_cons, List.not_mem_nil, or_false] at hr
      rcases hr with rfl
      exact sx_lfr_lo sx_p_l_fnd (by decide +kernel) (by decide)
    · replace hr : r ∈ [sx_r_l_BD0, sx_r_l_BD1, sx_r_l_BD2, sx_r_l_BD3, sx_r_l_BD4, sx_r_l_BD5, sx_r_l_BD6, sx_r_l_BD7, sx_r_l_BDm, sx_r_l_BDz] := hr
      simp only [List.mem_cons, List.not_mem_nil, or_false] at hr
      rcases hr with rfl | rfl | rfl | rfl | rfl | rfl | rfl | rfl | rfl | rfl
      · exact sx_lfr_hi sx_p_l_BD0 (by decide +kernel) (by decide)
      · exact sx_lfr_hi sx_p_l_BD1 (by decide +kernel) (by decide)
      · exact sx_lfr_hi sx_p_l_BD2 (by decide +kernel) (by decide)
      · exact sx_lfr_hi sx_p_l_BD3 (by decide +kernel) (by decide)
      · exact sx_lfr_hi sx_p_l_BD4 (by decide +kernel) (by decide)
      · exact sx_lfr_hi sx_p_l_BD5 (by decide +kernel) (by decide)
      · exact sx_lfr_hi sx_p_l_BD6 (by decide +kernel) (by decide)
      · exact sx_lfr_hi sx_p_l_BD7 (by decide +kernel) (by decide)
      · exact sx_lfr_hi sx_p_l_BDm (by decide +kernel) (by decide)
      · exact sx_lfr_hi sx_p_l_BDz (by decide +kernel) (by decide)
    · replace hr : r ∈ [sx_r_l_AP0, sx_r_l_AP1, sx_r_l_AP2, sx_r_l_AP3, sx_r_l_AP4, sx_r_l_AP5, sx_r_l_AP6, sx_r_l_AP7, sx_r_l_APm, sx_r_l_APz] := hr
      simp only [List.mem_cons, List.not_mem_nil, or_false] at hr
      rcases hr with rfl | rfl | rfl | rfl | rfl | rfl | rfl | rfl | rfl | rfl
      · exact sx_lfr_hi sx_p_l_AP0 (by decide +kernel) (by decide)
      · exact sx_lfr_hi sx_p_l_AP1 (by decide +kernel) (by decide)
      · exact sx_lfr_hi sx_p_l_AP2 (by decide +kernel) (by decide)
      · exact sx_lfr_hi sx_p_l_AP3 (by decide +kernel) (by decide)
      · exact sx_lfr_hi sx_p_l_AP4 (by decide +kernel) (by decide)
      · exact sx_lfr_hi sx_p_l_AP5 (by decide +kernel) (by decide)
      · exact sx_lfr_hi sx_p_l_AP6 (by decide +kernel) (by decide)
      · exact sx_lfr_hi sx_p_l_AP7 (by decide +kernel) (by decide)
      · exact sx_lfr_hi sx_p_l_APm (by decide +kernel) (by decide)
      · exact sx_lfr_hi sx_p_l_APz (by decide +kernel) (by decide)
    · replace hr : r ∈ [sx_r_l_tr] := hr
      simp only [List.mem_cons, List.not_mem_nil, or_false] at hr
      rcases hr with rfl
      exact sx_lfr_lo sx_p_l_tr (by decide +kernel) (by decide)
    · replace hr : r ∈ [sx_r_l_choice] := hr
      simp only [List.mem_cons, List.not_mem_nil, or_false] at hr
      rcases hr with rfl
      exact sx_lfr_lo sx_p_l_choice (by decide +kernel) (by decide)
    · replace hr : r ∈ [sx_r_l_opened] := hr
      simp only [List.mem_cons, List.not_mem_nil, or_false] at hr
      rcases hr with rfl
      exact sx_lfr_lo sx_p_l_opened (by decide +kernel) (by decide)
    · replace hr : r ∈ [sx_r_l_sort] := hr
      simp only [List.mem_cons, List.not_mem_nil, or_false] at hr
      rcases hr with rfl
      exact sx_lfr_lo sx_p_l_sort (by decide +kernel) (by decide)
    · replace hr : r ∈ [sx_r_l_trayMany] := hr
      simp only [List.mem_cons, List.not_mem_nil, or_false] at hr
      rcases hr with rfl
      exact sx_lfr_lo sx_p_l_trayMany (by decide +kernel) (by decide)
    · replace hr : r ∈ [sx_r_l_gnd] := hr
      simp only [List.mem_cons, List.not_mem_nil, or_false] at hr
      rcases hr with rfl
      exact sx_lfr_lo sx_p_l_gnd (by decide +kernel) (by decide)
    · replace hr : r ∈ [sx_r_l_MA0, sx_r_l_MA1, sx_r_l_MA2, sx_r_l_MA3, sx_r_l_MA4, sx_r_l_MA5, sx_r_l_MA6, sx_r_l_MA7, sx_r_l_MA8, sx_r_l_MA9, sx_r_l_MA10, sx_r_l_MA11, sx_r_l_MAz] := hr
      simp only [List.mem_cons, List.not_mem_nil, or_false] at hr
      rcases hr with rfl | rfl | rfl | rfl | rfl | rfl | rfl | rfl | rfl | rfl | rfl | rfl | rfl
      · exact sx_lfr_hi sx_p_l_MA0 (by decide +kernel) (by decide)
      · exact sx_lfr_hi sx_p_l_MA1 (by decide +kernel) (by decide)
      · exact sx_lfr_hi sx_p_l_MA2 (by decide +kernel) (by decide)
      · exact sx_lfr_hi sx_p_l_MA3 (by decide +kernel) (by decide)
      · exact sx_lfr_hi sx_p_l_MA4 (by decide +kernel) (by decide)
      · exact sx_lfr_hi sx_p_l_MA5 (by decide +kernel) (by decide)
      · exact sx_lfr_hi sx_p_l_MA6 (by decide +kernel) (by decide)
      · exact sx_lfr_hi sx_p_l_MA7 (by decide +kernel) (by decide)
      · exact sx_lfr_hi sx_p_l_MA8 (by decide +kernel) (by decide)
      · exact sx_lfr_hi sx_p_l_MA9 (by decide +kernel) (by decide)
      · exact sx_lfr_hi sx_p_l_MA10 (by decide +kernel) (by decide)
      · exact sx_lfr_hi sx_p_l_MA11 (by decide +kernel) (by decide)
      · exact sx_lfr_hi sx_p_l_MAz (by decide +kernel) (by decide)
    · replace hr : r ∈ [sx_r_l_MB0, sx_r_l_MB1, sx_r_l_MB2, sx_r_l_MB3, sx_r_l_MB4, sx_r_l_MB5, sx_r_l_MB6, sx_r_l_MB7, sx_r_l_MB8, sx_r_l_MB9, sx_r_l_MB10, sx_r_l_MB11, sx_r_l_MBz] := hr
      simp only [List.mem_cons, List.not_mem_nil, or_false] at hr
      rcases hr with rfl | rfl | rfl | rfl | rfl | rfl | rfl | rfl | rfl | rfl | rfl | rfl | rfl
      · exact sx_lfr_hi sx_p_l_MB0 (by decide +kernel) (by decide)
      · exact sx_lfr_hi sx_p_l_MB1 (by decide +kernel) (by decide)
      · exact sx_lfr_hi sx_p_l_MB2 (by decide +kernel) (by decide)
      · exact sx_lfr_hi sx_p_l_MB3 (by decide +kernel) (by decide)
      · exact sx_lfr_hi sx_p_l_MB4 (by decide +kernel) (by decide)
      · exact sx_lfr_hi sx_p_l_MB5 (by decide +kernel) (by decide)
      · exact sx_lfr_hi sx_p_l_MB6 (by decide +kernel) (by decide)
      · exact sx_lfr_hi sx_p_l_MB7 (by decide +kernel) (by decide)
      · exact sx_lfr_hi sx_p_l_MB8 (by decide +kernel) (by decide)
      · exact sx_lfr_hi sx_p_l_MB9 (by decide +kernel) (by decide)
      · exact sx_lfr_hi sx_p_l_MB10 (by decide +kernel) (by decide)
      · exact sx_lfr_hi sx_p_l_MB11 (by decide +kernel) (by decide)
      · exact sx_lfr_hi sx_p_l_MBz (by decide +kernel) (by decide)
    · replace hr : r ∈ [sx_r_l_MT0, sx_r_l_MT1, sx_r_l_MT2, sx_r_l_MT3, sx_r_l_MT4, sx_r_l_MT5, sx_r_l_MT6, sx_r_l_MT7, sx_r_l_MT8, sx_r_l_MT9, sx_r_l_MT10, sx_r_l_MT11, sx_r_l_MTz] := hr
      simp only [List.mem_cons, List.not_mem_nil, or_false] at hr
      rcases hr with rfl | rfl | rfl | rfl | rfl | rfl | rfl | rfl | rfl | rfl | rfl | rfl | rfl
      · exact sx_lfr_hi sx_p_l_MT0 (by decide +kernel) (by decide)
      · exact sx_lfr_hi sx_p_l_MT1 (by decide +kernel) (by decide)
      · exact sx_lfr_hi sx_p_l_MT2 (by decide +kernel) (by decide)
      · exact sx_lfr_hi sx_p_l_MT3 (by decide +kernel) (by decide)
      · exact sx_lfr_hi sx_p_l_MT4 (by decide +kernel) (by decide)
      · exact sx_lfr_hi sx_p_l_MT5 (by decide +kernel) (by decide)
      · exact sx_lfr_hi sx_p_l_MT6 (by decide +kernel) (by decide)
      · exact sx_lfr_hi sx_p_l_MT7 (by decide +kernel) (by decide)
      · exact sx_lfr_hi sx_p_l_MT8 (by decide +kernel) (by decide)
      · exact sx_lfr_hi sx_p_l_MT9 (by decide +kernel) (by decide)
      · exact sx_lfr_hi sx_p_l_MT10 (by decide +kernel) (by decide)
      · exact sx_lfr_hi sx_p_l_MT11 (by decide +kernel) (by decide)
      · exact sx_lfr_hi sx_p_l_MTz (by decide +kernel) (by decide)
    · replace hr : r ∈ [sx_r_l_tx0, sx_r_l_tx] := hr
      simp only [List.mem_cons, List.not_mem_nil, or_false] at hr
      rcases hr with rfl | rfl
      · exact sx_lfr_lo sx_p_l_tx0 (by decide +kernel) (by decide)
      · exact sx_lfr_lo sx_p_l_tx (by decide +kernel) (by decide)
    · replace hr : r ∈ [sx_r_l_say] := hr
      simp only [List.mem_cons, List.not_mem_nil, or_false] at hr
      rcases hr with rfl
      exact sx_lfr_lo sx_p_l_say (by decide +kernel) (by decide)
    · replace hr : r ∈ [sx_r_l_sf, sx_r_l_cp5] := hr
      simp only [List.mem_cons, List.not_mem_nil, or_false] at hr
      rcases hr with rfl | rfl
      · exact sx_lfr_lo sx_p_l_sf (by decide +kernel) (by decide)
      · exact sx_lfr_lo sx_p_l_cp5 (by decide +kernel) (by decide)
    · replace hr : r ∈ [sx_r_l_st, sx_r_l_cp6] := hr
      simp only [List.mem_cons, List.not_mem_nil, or_false] at hr
      rcases hr with rfl | rfl
      · exact sx_lfr_lo sx_p_l_st (by decide +kernel) (by decide)
      · exact sx_lfr_lo sx_p_l_cp6 (by decide +kernel) (by decide)
    · replace hr : r ∈ [sx_r_l_tf, sx_r_l_cp7] := hr
      simp only [List.mem_cons, List.not_mem_nil, or_false] at hr
      rcases hr with rfl | rfl
      · exact sx_lfr_lo sx_p_l_tf (by decide +kernel) (by decide)
      · exact sx_lfr_lo sx_p_l_cp7 (by decide +kernel) (by decide)
    · replace hr : r ∈ [sx_r_l_tt, sx_r_l_cp8] := hr
      simp only [List.mem_cons, List.not_mem_nil, or_false] at hr
      rcases hr with rfl | rfl
      · exact sx_lfr_lo sx_p_l_tt (by decide +kernel) (by decide)
      · exact sx_lfr_lo sx_p_l_cp8 (by decide +kernel) (by decide)
    · replace hr : r ∈ [sx_r_l_sg, sx_r_l_cp1] := hr
      simp only [List.mem_cons, List.not_mem_nil, or_false] at hr
      rcases hr with rfl | rfl
      · exact sx_lfr_lo sx_p_l_sg (by decide +kernel) (by decide)
      · exact sx_lfr_lo sx_p_l_cp1 (by decide +kernel) (by decide)
    · replace hr : r ∈ [sx_r_l_lf, sx_r_l_cp2] := hr
      simp only [List.mem_cons, List.not_mem_nil, or_false] at hr
      rcases hr with rfl | rfl
      · exact sx_lfr_lo sx_p_l_lf (by decide +kernel) (by decide)
      · exact sx_lfr_lo sx_p_l_cp2 (by decide +kernel) (by decide)
    · replace hr : r ∈ [sx_r_l_lt, sx_r_l_cp3] := hr
      simp only [List.mem_cons, List.not_mem_nil, or_false] at hr
      rcases hr with rfl | rfl
      · exact sx_lfr_lo sx_p_l_lt (by decide +kernel) (by decide)
      · exact sx_lfr_lo sx_p_l_cp3 (by decide +kernel) (by decide)
    · replace hr : r ∈ [sx_r_l_rt, sx_r_l_cp4] := hr
      simp only [List.mem_cons, List.not_mem_nil, or_false] at hr
      rcases hr with rfl | rfl
      · exact sx_lfr_lo sx_p_l_rt (by decide +kernel) (by decide)
      · exact sx_lfr_lo sx_p_l_cp4 (by decide +kernel) (by decide)
    · replace hr : r ∈ [sx_r_l_zS0, sx_r_l_zS1, sx_r_l_zS2, sx_r_l_zS3, sx_r_l_zS4, sx_r_l_zS5, sx_r_l_zS6] := hr
      simp only [List.mem_cons, List.not_mem_nil, or_false] at hr
      rcases hr with rfl | rfl | rfl | rfl | rfl | rfl | rfl
      · exact sx_lfr_lo sx_p_l_zS0 (by decide +kernel) (by decide)
      · exact sx_lfr_lo sx_p_l_zS1 (by decide +kernel) (by decide)
      · exact sx_lfr_lo sx_p_l_zS2 (by decide +kernel) (by decide)
      · exact sx_lfr_lo sx_p_l_zS3 (by decide +kernel) (by decide)
      · exact sx_lfr_lo sx_p_l_zS4 (by decide +kernel) (by decide)
      · exact sx_lfr_lo sx_p_l_zS5 (by decide +kernel) (by decide)
      · exact sx_lfr_lo sx_p_l_zS6 (by decide +kernel) (by decide)
    · replace hr : r ∈ [sx_r_l_zI0, sx_r_l_zI1, sx_r_l_zI2, sx_r_l_zI3, sx_r_l_zI4, sx_r_l_zI5, sx_r_l_zI6] := hr
      simp only [List.mem_cons, List.not_mem_nil, or_false] at hr
      rcases hr with rfl | rfl | rfl | rfl | rfl | rfl | rfl
      · exact sx_lfr_lo sx_p_l_zI0 (by decide +kernel) (by decide)
      · exact sx_lfr_lo sx_p_l_zI1 (by decide +kernel) (by decide)
      · exact sx_lfr_lo sx_p_l_zI2 (by decide +kernel) (by decide)
      · exact sx_lfr_lo sx_p_l_zI3 (by decide +kernel) (by decide)
      · exact sx_lfr_lo sx_p_l_zI4 (by decide +kernel) (by decide)
      · exact sx_lfr_lo sx_p_l_zI5 (by decide +kernel) (by decide)
      · exact sx_lfr_lo sx_p_l_zI6 (by decide +kernel) (by decide)
    · replace hr : r ∈ [sx_r_l_LG, sx_r_l_LGz] := hr
      simp only [List.mem_cons, List.not_mem_nil, or_false] at hr
      rcases hr with rfl | rfl
      · exact sx_lfr_hi sx_p_l_LG (by decide +kernel) (by decide)
      · exact sx_lfr_hi sx_p_l_LGz (by decide +kernel) (by decide)
    · replace hr : r ∈ [sx_r_l_room0, sx_r_l_room] := hr
      simp only [List.mem_cons, List.not_mem_nil, or_false] at hr
      rcases hr with rfl | rfl
      · exact sx_lfr_lo sx_p_l_room0 (by decide +kernel) (by decide)
      · exact sx_lfr_lo sx_p_l_room (by decide +kernel) (by decide)
    · replace hr : r ∈ [sx_r_l_who] := hr
      simp only [List.mem_cons, List.not_mem_nil, or_false] at hr
      rcases hr with rfl
      exact sx_lfr_lo sx_p_l_who (by decide +kernel) (by decide)
    · replace hr : r ∈ [sx_r_l_goal] := hr
      simp only [List.mem_cons, List.not_mem_nil, or_false] at hr
      rcases hr with rfl
      exact sx_lfr_lo sx_p_l_goal (by decide +kernel) (by decide)
    · replace hr : r ∈ [sx_r_l_week0, sx_r_l_week1, sx_r_l_week2, sx_r_l_week3, sx_r_l_week4] := hr
      simp only [List.mem_cons, List.not_mem_nil, or_false] at hr
      rcases hr with rfl | rfl | rfl | rfl | rfl
      · exact sx_lfr_lo sx_p_l_week0 (by decide +kernel) (by decide)
      · exact sx_lfr_lo sx_p_l_week1 (by decide +kernel) (by decide)
      · exact sx_lfr_lo sx_p_l_week2 (by decide +kernel) (by decide)
      · exact sx_lfr_lo sx_p_l_week3 (by decide +kernel) (by decide)
      · exact sx_lfr_lo sx_p_l_week4 (by decide +kernel) (by decide)
  · have h0 := sx_rl_e q hq hm
    rw [List.length_eq_zero_iff.mp h0] at hr
    cases hr
theorem sx_rs_e : ∀ q, q < 143 → q ∉ [2, 5, 6, 41, 76, 77, 101, 102, 104, 106, 107, 108, 110, 111, 113, 114, 115, 116, 117, 119, 120, 121, 123, 124, 130, 131, 135, 136, 140] → (sx_rs.get q).length = 0 := by decide +kernel
theorem sx_rs_ok (q : Nat) (hq : q < 143) (r : sx_Ru) (hr : r ∈ sx_rs.get q) : sx_okr sx_GG true q r := by
  by_cases hm : q ∈ [2, 5, 6, 41, 76, 77, 101, 102, 104, 106, 107, 108, 110, 111, 113, 114, 115, 116, 117, 119, 120, 121, 123, 124, 130, 131, 135, 136, 140]
  · simp only [List.mem_cons, List.not_mem_nil, or_false] at hm
    rcases hm with rfl | rfl | rfl | rfl | rfl | rfl | rfl | rfl | rfl | rfl | rfl | rfl | rfl | rfl | rfl | rfl | rfl | rfl | rfl | rfl | rfl | rfl | rfl | rfl | rfl | rfl | rfl | rfl | rfl
    · replace hr : r ∈ [sx_r_s_fndA, sx_r_s_fndB] := hr
      simp only [List.mem_cons, List.not_mem_nil, or_false] at hr
      rcases hr with rfl | rfl
      · exact sx_lfr_lo sx_p_s_fndA (by decide +kernel) (by decide)
      · exact sx_lfr_lo sx_p_s_fndB (by decide +kernel) (by decide)
    · replace hr : r ∈ [sx_r_s_BDm, sx_r_s_BDz] := hr
      simp only [List.mem_cons, List.not_mem_nil, or_false] at hr
      rcases hr with rfl | rfl
      · exact sx_lfr_hi sx_p_s_BDm (by decide +kernel) (by decide)
      · exact sx_lfr_hi sx_p_s_BDz (by decide +kernel) (by decide)
    · replace hr : r ∈ [sx_r_s_APm, sx_r_s_APz] := hr
      simp only [List.mem_cons, List.not_mem_nil, or_false] at hr
      rcases hr with rfl | rfl
      · exact sx_lfr_hi sx_p_s_APm (by decide +kernel) (by decide)
      · exact sx_lfr_hi sx_p_s_APz (by decide +kernel) (by decide)
    · replace hr : r ∈ [sx_r_s_tr] := hr
      simp only [List.mem_cons, List.not_mem_nil, or_false] at hr
      rcases hr with rfl
      exact sx_lfr_lo sx_p_s_tr (by decide +kernel) (by decide)
    · replace hr : r ∈ [sx_r_s_choicea, sx_r_s_choiceb, sx_r_s_choicec, sx_r_s_choiced] := hr
      simp only [List.mem_cons, List.not_mem_nil, or_false] at hr
      rcases hr with rfl | rfl | rfl | rfl
      · exact sx_lfr_lo sx_p_s_choicea (by decide +kernel) (by decide)
      · exact sx_lfr_lo sx_p_s_choiceb (by decide +kernel) (by decide)
      · exact sx_lfr_lo sx_p_s_choicec (by decide +kernel) (by decide)
      · exact sx_lfr_lo sx_p_s_choiced (by decide +kernel) (by decide)
    · replace hr : r ∈ [sx_r_s_openeda, sx_r_s_openedb, sx_r_s_openedc, sx_r_s_openedd] := hr
      simp only [List.mem_cons, List.not_mem_nil, or_false] at hr
      rcases hr with rfl | rfl | rfl | rfl
      · exact sx_lfr_lo sx_p_s_openeda (by decide +kernel) (by decide)
      · exact sx_lfr_lo sx_p_s_openedb (by decide +kernel) (by decide)
      · exact sx_lfr_lo sx_p_s_openedc (by decide +kernel) (by decide)
      · exact sx_lfr_lo sx_p_s_openedd (by decide +kernel) (by decide)
    · replace hr : r ∈ [sx_r_s_sort] := hr
      simp only [List.mem_cons, List.not_mem_nil, or_false] at hr
      rcases hr with rfl
      exact sx_lfr_lo sx_p_s_sort (by decide +kernel) (by decide)
    · replace hr : r ∈ [sx_r_s_trayMany] := hr
      simp only [List.mem_cons, List.not_mem_nil, or_false] at hr
      rcases hr with rfl
      exact sx_lfr_lo sx_p_s_trayMany (by decide +kernel) (by decide)
    · replace hr : r ∈ [sx_r_s_gndA, sx_r_s_gndB] := hr
      simp only [List.mem_cons, List.not_mem_nil, or_false] at hr
      rcases hr with rfl | rfl
      · exact sx_lfr_lo sx_p_s_gndA (by decide +kernel) (by decide)
      · exact sx_lfr_lo sx_p_s_gndB (by decide +kernel) (by decide)
    · replace hr : r ∈ [sx_r_s_MAm, sx_r_s_MAz] := hr
      simp only [List.mem_cons, List.not_mem_nil, or_false] at hr
      rcases hr with rfl | rfl
      · exact sx_lfr_hi sx_p_s_MAm (by decide +kernel) (by decide)
      · exact sx_lfr_hi sx_p_s_MAz (by decide +kernel) (by decide)
    · replace hr : r ∈ [sx_r_s_MBm, sx_r_s_MBz] := hr
      simp only [List.mem_cons, List.not_mem_nil, or_false] at hr
      rcases hr with rfl | rfl
      · exact sx_lfr_hi sx_p_s_MBm (by decide +kernel) (by decide)
      · exact sx_lfr_hi sx_p_s_MBz (by decide +kernel) (by decide)
    · replace hr : r ∈ [sx_r_s_MTm, sx_r_s_MTz] := hr
      simp only [List.mem_cons, List.not_mem_nil, or_false] at hr
      rcases hr with rfl | rfl
      · exact sx_lfr_hi sx_p_s_MTm (by decide +kernel) (by decide)
      · exact sx_lfr_hi sx_p_s_MTz (by decide +kernel) (by decide)
    · replace hr : r ∈ [sx_r_s_tx] := hr
      simp only [List.mem_cons, List.not_mem_nil, or_false] at hr
      rcases hr with rfl
      exact sx_lfr_lo sx_p_s_tx (by decide +kernel) (by decide)
    · replace hr : r ∈ [sx_r_s_sayA, sx_r_s_sayB] := hr
      simp only [List.mem_cons, List.not_mem_nil, or_false] at hr
      rcases hr with rfl | rfl
      · exact sx_lfr_lo sx_p_s_sayA (by decide +kernel) (by decide)
      · exact sx_lfr_lo sx_p_s_sayB (by decide +kernel) (by decide)
    · replace hr : r ∈ [sx_r_s_sfA, sx_r_s_sfC] := hr
      simp only [List.mem_cons, List.not_mem_nil, or_false] at hr
      rcases hr with rfl | rfl
      · exact sx_lfr_lo sx_p_s_sfA (by decide +kernel) (by decide)
      · exact sx_lfr_lo sx_p_s_sfC (by decide +kernel) (by decide)
    · replace hr : r ∈ [sx_r_s_stA, sx_r_s_stC] := hr
      simp only [List.mem_cons, List.not_mem_nil, or_false] at hr
      rcases hr with rfl | rfl
      · exact sx_lfr_lo sx_p_s_stA (by decide +kernel) (by decide)
      · exact sx_lfr_lo sx_p_s_stC (by decide +kernel) (by decide)
    · replace hr : r ∈ [sx_r_s_tfA, sx_r_s_tfC] := hr
      simp only [List.mem_cons, List.not_mem_nil, or_false] at hr
      rcases hr with rfl | rfl
      · exact sx_lfr_lo sx_p_s_tfA (by decide +kernel) (by decide)
      · exact sx_lfr_lo sx_p_s_tfC (by decide +kernel) (by decide)
    · replace hr : r ∈ [sx_r_s_ttA, sx_r_s_ttC] := hr
      simp only [List.mem_cons, List.not_mem_nil, or_false] at hr
      rcases hr with rfl | rfl
      · exact sx_lfr_lo sx_p_s_ttA (by decide +kernel) (by decide)
      · exact sx_lfr_lo sx_p_s_ttC (by decide +kernel) (by decide)
    · replace hr : r ∈ [sx_r_s_sgA, sx_r_s_sgB, sx_r_s_sgC] := hr
      simp only [List.mem_cons, List.not_mem_nil, or_false] at hr
      rcases hr with rfl | rfl | rfl
      · exact sx_lfr_lo sx_p_s_sgA (by decide +kernel) (by decide)
      · exact sx_lfr_lo sx_p_s_sgB (by decide +kernel) (by decide)
      · exact sx_lfr_lo sx_p_s_sgC (by decide +kernel) (by decide)
    · replace hr : r ∈ [sx_r_s_lfA, sx_r_s_lfC] := hr
      simp only [List.mem_cons, List.not_mem_nil, or_false] at hr
      rcases hr with rfl | rfl
      · exact sx_lfr_lo sx_p_s_lfA (by decide +kernel) (by decide)
      · exact sx_lfr_lo sx_p_s_lfC (by decide +kernel) (by decide)
    · replace hr : r ∈ [sx_r_s_ltA, sx_r_s_ltC] := hr
      simp only [List.mem_cons, List.not_mem_nil, or_false] at hr
      rcases hr with rfl | rfl
      · exact sx_lfr_lo sx_p_s_ltA (by decide +kernel) (by decide)
      · exact sx_lfr_lo sx_p_s_ltC (by decide +kernel) (by decide)
    · replace hr : r ∈ [sx_r_s_rtA, sx_r_s_rtC] := hr
      simp only [List.mem_cons, List.not_mem_nil, or_false] at hr
      rcases hr with rfl | rfl
      · exact sx_lfr_lo sx_p_s_rtA (by decide +kernel) (by decide)
      · exact sx_lfr_lo sx_p_s_rtC (by decide +kernel) (by decide)
    · replace hr : r ∈ [sx_r_s_zS0a, sx_r_s_zS0b, sx_r_s_zS1a, sx_r_s_zS1b, sx_r_s_zS2a, sx_r_s_zS2b, sx_r_s_zS3a, sx_r_s_zS3b, sx_r_s_zS4a, sx_r_s_zS4b, sx_r_s_zS5a, sx_r_s_zS5b, sx_r_s_zS6a, sx_r_s_zS6b] := hr
      simp only [List.mem_cons, List.not_mem_nil, or_false] at hr
      rcases hr with rfl | rfl | rfl | rfl | rfl | rfl | rfl | rfl | rfl | rfl | rfl | rfl | rfl | rfl
      · exact sx_lfr_lo sx_p_s_zS0a (by decide +kernel) (by decide)
      · exact sx_lfr_lo sx_p_s_zS0b (by decide +kernel) (by decide)
      · exact sx_lfr_lo sx_p_s_zS1a (by decide +kernel) (by decide)
      · exact sx_lfr_lo sx_p_s_zS1b (by decide +kernel) (by decide)
      · exact sx_lfr_lo sx_p_s_zS2a (by decide +kernel) (by decide)
      · exact sx_lfr_lo sx_p_s_zS2b (by decide +kernel) (by decide)
      · exact sx_lfr_lo sx_p_s_zS3a (by decide +kernel) (by decide)
      · exact sx_lfr_lo sx_p_s_zS3b (by decide +kernel) (by decide)
      · exact sx_lfr_lo sx_p_s_zS4a (by decide +kernel) (by decide)
      · exact sx_lfr_lo sx_p_s_zS4b (by decide +kernel) (by decide)
      · exact sx_lfr_lo sx_p_s_zS5a (by decide +kernel) (by decide)
      · exact sx_lfr_lo sx_p_s_zS5b (by decide +kernel) (by decide)
      · exact sx_lfr_lo sx_p_s_zS6a (by decide +kernel) (by decide)
      · exact sx_lfr_lo sx_p_s_zS6b (by decide +kernel) (by decide)
    · replace hr : r ∈ [sx_r_s_zI0a, sx_r_s_zI0b, sx_r_s_zI1a, sx_r_s_zI1b, sx_r_s_zI2a, sx_r_s_zI2b, sx_r_s_zI3a, sx_r_s_zI3b, sx_r_s_zI4a, sx_r_s_zI4b, sx_r_s_zI5a, sx_r_s_zI5b, sx_r_s_zI6a, sx_r_s_zI6b] := hr
      simp only [List.mem_cons, List.not_mem_nil, or_false] at hr
      rcases hr with rfl | rfl | rfl | rfl | rfl | rfl | rfl | rfl | rfl | rfl | rfl | rfl | rfl | rfl
      · exact sx_lfr_lo sx_p_s_zI0a (by decide +kernel) (by decide)
      · exact sx_lfr_lo sx_p_s_zI0b (by decide +kernel) (by decide)
      · exact sx_lfr_lo sx_p_s_zI1a (by decide +kernel) (by decide)
      · exact sx_lfr_lo sx_p_s_zI1b (by decide +kernel) (by decide)
      · exact sx_lfr_lo sx_p_s_zI2a (by decide +kernel) (by decide)
      · exact sx_lfr_lo sx_p_s_zI2b (by decide +kernel) (by decide)
      · exact sx_lfr_lo sx_p_s_zI3a (by decide +kernel) (by decide)
      · exact sx_lfr_lo sx_p_s_zI3b (by decide +kernel) (by decide)
      · exact sx_lfr_lo sx_p_s_zI4a (by decide +kernel) (by decide)
      · exact sx_lfr_lo sx_p_s_zI4b (by decide +kernel) (by decide)
      · exact sx_lfr_lo sx_p_s_zI5a (by decide +kernel) (by decide)
      · exact sx_lfr_lo sx_p_s_zI5b (by decide +kernel) (by decide)
      · exact sx_lfr_lo sx_p_s_zI6a (by decide +kernel) (by decide)
      · exact sx_lfr_lo sx_p_s_zI6b (by decide +kernel) (by decide)
    · replace hr : r ∈ [sx_r_s_LG0, sx_r_s_LG1, sx_r_s_LG2, sx_r_s_LGz] := hr
      simp only [List.mem_cons, List.not_mem_nil, or_false] at hr
      rcases hr with rfl | rfl | rfl | rfl
      · exact sx_lfr_hi sx_p_s_LG0 (by decide +kernel) (by decide)
      · exact sx_lfr_hi sx_p_s_LG1 (by decide +kernel) (by decide)
      · exact sx_lfr_hi sx_p_s_LG2 (by decide +kernel) (by decide)
      · exact sx_lfr_hi sx_p_s_LGz (by decide +kernel) (by decide)
    · replace hr : r ∈ [sx_r_s_roomA, sx_r_s_roomB, sx_r_s_roomC, sx_r_s_roomD] := hr
      simp only [List.mem_cons, List.not_mem_nil, or_false] at hr
      rcases hr with rfl | rfl | rfl | rfl
      · exact sx_lfr_lo sx_p_s_roomA (by decide +kernel) (by decide)
      · exact sx_lfr_lo sx_p_s_roomB (by decide +kernel) (by decide)
      · exact sx_lfr_lo sx_p_s_roomC (by decide +kernel) (by decide)
      · exact sx_lfr_lo sx_p_s_roomD (by decide +kernel) (by decide)
    · replace hr : r ∈ [sx_r_s_who] := hr
      simp only [List.mem_cons, List.not_mem_nil, or_false] at hr
      rcases hr with rfl
      exact sx_lfr_lo sx_p_s_who (by decide +kernel) (by decide)
    · replace hr : r ∈ [sx_r_s_goal] := hr
      simp only [List.mem_cons, List.not_mem_nil, or_false] at hr
      rcases hr with rfl
      exact sx_lfr_lo sx_p_s_goal (by decide +kernel) (by decide)
    · replace hr : r ∈ [sx_r_s_week0, sx_r_s_week1, sx_r_s_week2, sx_r_s_week3, sx_r_s_week4, sx_r_s_week] := hr
      simp only [List.mem_cons, List.not_mem_nil, or_false] at hr
      rcases hr with rfl | rfl | rfl | rfl | rfl | rfl
      · exact sx_lfr_lo sx_p_s_week0 (by decide +kernel) (by decide)
      · exact sx_lfr_lo sx_p_s_week1 (by decide +kernel) (by decide)
      · exact sx_lfr_lo sx_p_s_week2 (by decide +kernel) (by decide)
      · exact sx_lfr_lo sx_p_s_week3 (by decide +kernel) (by decide)
      · exact sx_lfr_lo sx_p_s_week4 (by decide +kernel) (by decide)
      · exact sx_lfr_lo sx_p_s_week (by decide +kernel) (by decide)
  · have h0 := sx_rs_e q hq hm
    rw [List.length_eq_zero_iff.mp h0] at hr
    cases hr
theorem sx_mv_ok (r : sx_Ru) (hr : r ∈ sx_mv) : sx_okm sx_GG r := by
  replace hr : r ∈ [sx_r_m_room, sx_r_m_text, sx_r_m_copy, sx_r_m_keep, sx_r_m_fw, sx_r_m_fp, sx_r_m_gw, sx_r_m_gp, sx_r_m_tk, sx_r_m_zf0, sx_r_m_zf1, sx_r_m_zf2, sx_r_m_zf3, sx_r_m_zf4, sx_r_m_zf5, sx_r_m_zf6, sx_r_m_cxa0, sx_r_m_cxb0, sx_r_m_cxa1, sx_r_m_cxb1, sx_r_m_cxa2, sx_r_m_cxb2, sx_r_m_cxa3, sx_r_m_cxb3, sx_r_m_cxa4, sx_r_m_cxb4, sx_r_m_cxa5, sx_r_m_cxb5, sx_r_m_cxa6, sx_r_m_cxb6, sx_r_m_cxa7, sx_r_m_cxb7, sx_r_m_cxe, sx_r_m_cma0, sx_r_m_cmb0, sx_r_m_cmv0, sx_r_m_cmw0, sx_r_m_cma1, sx_r_m_cmb1, sx_r_m_cmv1, sx_r_m_cmw1, sx_r_m_cma2, sx_r_m_cmb2, sx_r_m_cmv2, sx_r_m_cmw2, sx_r_m_cma3, sx_r_m_cmb3, sx_r_m_cmv3, sx_r_m_cmw3, sx_r_m_cma4, sx_r_m_cmb4, sx_r_m_cmv4, sx_r_m_cmw4, sx_r_m_cma5, sx_r_m_cmb5, sx_r_m_cmv5, sx_r_m_cmw5, sx_r_m_cma6, sx_r_m_cmb6, sx_r_m_cmv6, sx_r_m_cmw6, sx_r_m_cma7, sx_r_m_cmb7, sx_r_m_cmv7, sx_r_m_cmw7, sx_r_m_cma8, sx_r_m_cmb8, sx_r_m_cmv8, sx_r_m_cmw8, sx_r_m_cma9, sx_r_m_cmb9, sx_r_m_cmv9, sx_r_m_cmw9, sx_r_m_cma10, sx_r_m_cmb10, sx_r_m_cmv10, sx_r_m_cmw10, sx_r_m_cma11, sx_r_m_cmb11, sx_r_m_cmv11, sx_r_m_cmw11, sx_r_m_cme, sx_r_m_b0, sx_r_m_bz, sx_r_m_gq] := hr
  simp only [List.mem_cons, List.not_mem_nil, or_false] at hr
  rcases hr with rfl | rfl | rfl | rfl | rfl | rfl | rfl | rfl | rfl | rfl | rfl | rfl | rfl | rfl | rfl | rfl | rfl | rfl | rfl | rfl | rfl | rfl | rfl | rfl | rfl | rfl | rfl | rfl | rfl | rfl | rfl | rfl | rfl | rfl | rfl | rfl | rfl | rfl | rfl | rfl | rfl | rfl | rfl | rfl | rfl | rfl | rfl | rfl | rfl | rfl | rfl | rfl | rfl | rfl | rfl | rfl | rfl | rfl | rfl | rfl | rfl | rfl | rfl | rfl | rfl | rfl | rfl | rfl | rfl | rfl | rfl | rfl | rfl | rfl | rfl | rfl | rfl | rfl | rfl | rfl | rfl | rfl | rfl | rfl | rfl
  · exact sx_lfm_lo sx_p_m_room (by decide +kernel)
  · exact sx_lfm_lo sx_p_m_text (by decide +kernel)
  · exact sx_lfm_lo sx_p_m_copy (by decide +kernel)
  · exact sx_lfm_lo sx_p_m_keep (by decide +kernel)
  · exact sx_lfm_lo sx_p_m_fw (by decide +kernel)
  · exact sx_lfm_lo sx_p_m_fp (by decide +kernel)
  · exact sx_lfm_lo sx_p_m_gw (by decide +kernel)
  · exact sx_lfm_lo sx_p_m_gp (by decide +kernel)
  · exact sx_lfm_lo sx_p_m_tk (by decide +kernel)
  · exact sx_lfm_lo sx_p_m_zf0 (by decide +kernel)
  · exact sx_lfm_lo sx_p_m_zf1 (by decide +kernel)
  · exact sx_lfm_lo sx_p_m_zf2 (by decide +kernel)
  · exact sx_lfm_lo sx_p_m_zf3 (by decide +kernel)
  · exact sx_lfm_lo sx_p_m_zf4 (by decide +kernel)
  · exact sx_lfm_lo sx_p_m_zf5 (by decide +kernel)
  · exact sx_lfm_lo sx_p_m_zf6 (by decide +kernel)
  · exact sx_lfm_hi sx_p_m_cxa0 (by decide +kernel)
  · exact sx_lfm_hi sx_p_m_cxb0 (by decide +kernel)
  · exact sx_lfm_hi sx_p_m_cxa1 (by decide +kernel)
  · exact sx_lfm_hi sx_p_m_cxb1 (by decide +kernel)
  · exact sx_lfm_hi sx_p_m_cxa2 (by decide +kernel)
  · exact sx_lfm_hi sx_p_m_cxb2 (by decide +kernel)
  · exact sx_lfm_hi sx_p_m_cxa3 (by decide +kernel)
  · exact sx_lfm_hi sx_p_m_cxb3 (by decide +kernel)
  · exact sx_lfm_hi sx_p_m_cxa4 (by decide +kernel)
  · exact sx_lfm_hi sx_p_m_cxb4 (by decide +kernel)
  · exact sx_lfm_hi sx_p_m_cxa5 (by decide +kernel)
  · exact sx_lfm_hi sx_p_m_cxb5 (by decide +kernel)
  · exact sx_lfm_hi sx_p_m_cxa6 (by decide +kernel)
  · exact sx_lfm_hi sx_p_m_cxb6 (by decide +kernel)
  · exact sx_lfm_hi sx_p_m_cxa7 (by decide +kernel)
  · exact sx_lfm_hi sx_p_m_cxb7 (by decide +kernel)
  · exact sx_lfm_hi sx_p_m_cxe (by decide +kernel)
  · exact sx_lfm_hi sx_p_m_cma0 (by decide +kernel)
  · exact sx_lfm_hi sx_p_m_cmb0 (by decide +kernel)
  · exact sx_lfm_hi sx_p_m_cmv0 (by decide +kernel)
  · exact sx_lfm_hi sx_p_m_cmw0 (by decide +kernel)
  · exact sx_lfm_hi sx_p_m_cma1 (by decide +kernel)
  · exact sx_lfm_hi sx_p_m_cmb1 (by decide +kernel)
  · exact sx_lfm_hi sx_p_m_cmv1 (by decide +kernel)
  · exact sx_lfm_hi sx_p_m_cmw1 (by decide +kernel)
  · exact sx_lfm_hi sx_p_m_cma2 (by decide +kernel)
  · exact sx_lfm_hi sx_p_m_cmb2 (by decide +kernel)
  · exact sx_lfm_hi sx_p_m_cmv2 (by decide +kernel)
  · exact sx_lfm_hi sx_p_m_cmw2 (by decide +kernel)
  · exact sx_lfm_hi sx_p_m_cma3 (by decide +kernel)
  · exact sx_lfm_hi sx_p_m_cmb3 (by decide +kernel)
  · exact sx_lfm_hi sx_p_m_cmv3 (by decide +kernel)
  · exact sx_lfm_hi sx_p_m_cmw3 (by decide +kernel)
  · exact sx_lfm_hi sx_p_m_cma4 (by decide +kernel)
  · exact sx_lfm_hi sx_p_m_cmb4 (by decide +kernel)
  · exact sx_lfm_hi sx_p_m_cmv4 (by decide +kernel)
  · exact sx_lfm_hi sx_p_m_cmw4 (by decide +kernel)
  · exact sx_lfm_hi sx_p_m_cma5 (by decide +kernel)
  · exact sx_lfm_hi sx_p_m_cmb5 (by decide +kernel)
  · exact sx_lfm_hi sx_p_m_cmv5 (by decide +kernel)
  · exact sx_lfm_hi sx_p_m_cmw5 (by decide +kernel)
  · exact sx_lfm_hi sx_p_m_cma6 (by decide +kernel)
  · exact sx_lfm_hi sx_p_m_cmb6 (by decide +kernel)
  · exact sx_lfm_hi sx_p_m_cmv6 (by decide +kernel)
  · exact sx_lfm_hi sx_p_m_cmw6 (by decide +kernel)
  · exact sx_lfm_hi sx_p_m_cma7 (by decide +kernel)
  · exact sx_lfm_hi sx_p_m_cmb7 (by decide +kernel)
  · exact sx_lfm_hi sx_p_m_cmv7 (by decide +kernel)
  · exact sx_lfm_hi sx_p_m_cmw7 (by decide +kernel)
  · exact sx_lfm_hi sx_p_m_cma8 (by decide +kernel)
  · exact sx_lfm_hi sx_p_m_cmb8 (by decide +kernel)
  · exact sx_lfm_hi sx_p_m_cmv8 (by decide +kernel)
  · exact sx_lfm_hi sx_p_m_cmw8 (by decide +kernel)
  · exact sx_lfm_hi sx_p_m_cma9 (by decide +kernel)
  · exact sx_lfm_hi sx_p_m_cmb9 (by decide +kernel)
  · exact sx_lfm_hi sx_p_m_cmv9 (by decide +kernel)
  · exact sx_lfm_hi sx_p_m_cmw9 (by decide +kernel)
  · exact sx_lfm_hi sx_p_m_cma10 (by decide +kernel)
  · exact sx_lfm_hi sx_p_m_cmb10 (by decide +kernel)
  · exact sx_lfm_hi sx_p_m_cmv10 (by decide +kernel)
  · exact sx_lfm_hi sx_p_m_cmw10 (by decide +kernel)
  · exact sx_lfm_hi sx_p_m_cma11 (by decide +kernel)
  · exact sx_lfm_hi sx_p_m_cmb11 (by decide +kernel)
  · exact sx_lfm_hi sx_p_m_cmv11 (by decide +kernel)
  · exact sx_lfm_hi sx_p_m_cmw11 (by decide +kernel)
  · exact sx_lfm_hi sx_p_m_cme (by decide +kernel)
  · exact sx_lfm_hi sx_p_m_b0 (by decide +kernel)
  · exact sx_lfm_hi sx_p_m_bz (by decide +kernel)
  · exact sx_lfm_hi sx_p_m_gq (by decide +kernel)
theorem sx_rn_ok (r : sx_Ru) (hr : r ∈ sx_ran) : sx_okn sx_GG r := by
  replace hr : r ∈ [sx_r_a_bd0, sx_r_a_bd1, sx_r_a_bd2, sx_r_a_bd3, sx_r_a_bd4, sx_r_a_bd5, sx_r_a_bd6, sx_r_a_bd7, sx_r_a_wv, sx_r_a_kept, sx_r_a_new] := hr
  simp only [List.mem_cons, List.not_mem_nil, or_false] at hr
  rcases hr with rfl | rfl | rfl | rfl | rfl | rfl | rfl | rfl | rfl | rfl | rfl
  · exact sx_lfn_hi sx_p_a_bd0 (by decide +kernel)
  · exact sx_lfn_hi sx_p_a_bd1 (by decide +kernel)
  · exact sx_lfn_hi sx_p_a_bd2 (by decide +kernel)
  · exact sx_lfn_hi sx_p_a_bd3 (by decide +kernel)
  · exact sx_lfn_hi sx_p_a_bd4 (by decide +kernel)
  · exact sx_lfn_hi sx_p_a_bd5 (by decide +kernel)
  · exact sx_lfn_hi sx_p_a_bd6 (by decide +kernel)
  · exact sx_lfn_hi sx_p_a_bd7 (by decide +kernel)
  · exact sx_lfn_hi sx_p_a_wv (by decide +kernel)
  · exact sx_lfn_lo sx_p_a_kept (by decide +kernel)
  · exact sx_lfn_lo sx_p_a_new (by decide +kernel)
theorem sx_rmo_ok (r : sx_Ru) (hr : r ∈ sx_rmo) : sx_okq (fun z => z % 32) sx_GG r := by
  replace hr : r ∈ [sx_r_b_kept, sx_r_b_next, sx_r_b_new] := hr
  simp only [List.mem_cons, List.not_mem_nil, or_false] at hr
  rcases hr with rfl | rfl | rfl
  · exact sx_lfq_lo sx_p_b_kept (by decide +kernel)
  · exact sx_lfq_lo sx_p_b_next (by decide +kernel)
  · exact sx_lfq_lo sx_p_b_new (by decide +kernel)
theorem sx_rdi_ok (r : sx_Ru) (hr : r ∈ sx_rdi) : sx_okq (fun z => z / 32) sx_GG r := by
  replace hr : r ∈ [sx_r_d_good, sx_r_d_bad1, sx_r_d_bad2, sx_r_d_new1, sx_r_d_new] := hr
  simp only [List.mem_cons, List.not_mem_nil, or_false] at hr
  rcases hr with rfl | rfl | rfl | rfl | rfl
  · exact sx_lfq_lo sx_p_d_good (by decide +kernel)
  · exact sx_lfq_lo sx_p_d_bad1 (by decide +kernel)
  · exact sx_lfq_lo sx_p_d_bad2 (by decide +kernel)
  · exact sx_lfq_lo sx_p_d_new1 (by decide +kernel)
  · exact sx_lfq_lo sx_p_d_new (by decide +kernel)
theorem sx_biand_ok (r : sx_Ru) (hr : r ∈ sx_biand) : sx_okw 2147483647 sx_fand sx_GG r := by
  replace hr : r ∈ [sx_r_hn_hs, sx_r_hn_hi, sx_r_hn_ap0, sx_r_hn_ap1, sx_r_hn_ap2, sx_r_hn_ap3, sx_r_hn_ap4, sx_r_hn_ap5, sx_r_hn_ap6, sx_r_hn_ap7, sx_r_hn_bw0, sx_r_hn_bw1, sx_r_hn_bw2, sx_r_hn_bw3, sx_r_hn_bw4, sx_r_hn_bw5, sx_r_hn_bw6, sx_r_hn_bw7, sx_r_hn_kv, sx_r_hk_1, sx_r_hk_2, sx_r_hk_3, sx_r_hk_4, sx_r_hk_5] := hr
  simp only [List.mem_cons, List.not_mem_nil, or_false] at hr
  rcases hr with rfl | rfl | rfl | rfl | rfl | rfl | rfl | rfl | rfl | rfl | rfl | rfl | rfl | rfl | rfl | rfl | rfl | rfl | rfl | rfl | rfl | rfl | rfl | rfl
  · exact sx_lfb_hi sx_p_hn_hs (by decide +kernel)
  · exact sx_lfb_hi sx_p_hn_hi (by decide +kernel)
  · exact sx_lfb_hi sx_p_hn_ap0 (by decide +kernel)
  · exact sx_lfb_hi sx_p_hn_ap1 (by decide +kernel)
  · exact sx_lfb_hi sx_p_hn_ap2 (by decide +kernel)
  · exact sx_lfb_hi sx_p_hn_ap3 (by decide +kernel)
  · exact sx_lfb_hi sx_p_hn_ap4 (by decide +kernel)
  · exact sx_lfb_hi sx_p_hn_ap5 (by decide +kernel)
  · exact sx_lfb_hi sx_p_hn_ap6 (by decide +kernel)
  · exact sx_lfb_hi sx_p_hn_ap7 (by decide +kernel)
  · exact sx_lfb_hi sx_p_hn_bw0 (by decide +kernel)
  · exact sx_lfb_hi sx_p_hn_bw1 (by decide +kernel)
  · exact sx_lfb_hi sx_p_hn_bw2 (by decide +kernel)
  · exact sx_lfb_hi sx_p_hn_bw3 (by decide +kernel)
  · exact sx_lfb_hi sx_p_hn_bw4 (by decide +kernel)
  · exact sx_lfb_hi sx_p_hn_bw5 (by decide +kernel)
  · exact sx_lfb_hi sx_p_hn_bw6 (by decide +kernel)
  · exact sx_lfb_hi sx_p_hn_bw7 (by decide +kernel)
  · exact sx_lfb_hi sx_p_hn_kv (by decide +kernel)
  · exact sx_lfb_hi sx_p_hk_1 (by decide +kernel)
  · exact sx_lfb_hi sx_p_hk_2 (by decide +kernel)
  · exact sx_lfb_hi sx_p_hk_3 (by decide +kernel)
  · exact sx_lfb_hi sx_p_hk_4 (by decide +kernel)
  · exact sx_lfb_hi sx_p_hk_5 (by decide +kernel)
theorem sx_bior_ok (r : sx_Ru) (hr : r ∈ sx_bior) : sx_okw 255 sx_for sx_GG r := by
  replace hr : r ∈ [sx_r_ho_1, sx_r_ho_2] := hr
  simp only [List.mem_cons, List.not_mem_nil, or_false] at hr
  rcases hr with rfl | rfl
  · exact sx_lfb_hi sx_p_ho_1 (by decide +kernel)
  · exact sx_lfb_hi sx_p_ho_2 (by decide +kernel)
theorem sx_bishl_ok (r : sx_Ru) (hr : r ∈ sx_bishl) : sx_okw 8 sx_fshl sx_GG r := by
  replace hr : r ∈ [sx_r_hl_kn, sx_r_hl_f] := hr
  simp only [List.mem_cons, List.not_mem_nil, or_false] at hr
  rcases hr with rfl | rfl
  · exact sx_lfb_hi sx_p_hl_kn (by decide +kernel)
  · exact sx_lfb_hi sx_p_hl_f (by decide +kernel)
theorem sx_bishr_ok (r : sx_Ru) (hr : r ∈ sx_bishr) : sx_okw 8 sx_fshr sx_GG r := by
  replace hr : r ∈ [sx_r_hr_g0, sx_r_hr_g1, sx_r_hr_g2, sx_r_hr_g3, sx_r_hr_g4, sx_r_hr_g5, sx_r_hr_g6, sx_r_hr_g7, sx_r_hr_s, sx_r_hr_ga0, sx_r_hr_gb0, sx_r_hr_ta0, sx_r_hr_tb0, sx_r_hr_ga1, sx_r_hr_gb1, sx_r_hr_ta1, sx_r_hr_tb1, sx_r_hr_ga2, sx_r_hr_gb2, sx_r_hr_ta2, sx_r_hr_tb2, sx_r_hr_ga3, sx_r_hr_gb3, sx_r_hr_ta3, sx_r_hr_tb3, sx_r_hr_ga4, sx_r_hr_gb4, sx_r_hr_ta4, sx_r_hr_tb4, sx_r_hr_ga5, sx_r_hr_gb5, sx_r_hr_ta5, sx_r_hr_tb5, sx_r_hr_ga6, sx_r_hr_gb6, sx_r_hr_ta6, sx_r_hr_tb6, sx_r_hr_ga7, sx_r_hr_gb7, sx_r_hr_ta7, sx_r_hr_tb7, sx_r_hr_ga8, sx_r_hr_gb8, sx_r_hr_ta8, sx_r_hr_tb8, sx_r_hr_ga9, sx_r_hr_gb9, sx_r_hr_ta9, sx_r_hr_tb9, sx_r_hr_ga10, sx_r_hr_gb10, sx_r_hr_ta10, sx_r_hr_tb10, sx_r_hr_ga11, sx_r_hr_gb11, sx_r_hr_ta11, sx_r_hr_tb11] := hr
  simp only [List.mem_cons, List.not_mem_nil, or_false] at hr
  rcases hr with rfl | rfl | rfl | rfl | rfl | rfl | rfl | rfl | rfl | rfl | rfl | rfl | rfl | rfl | rfl | rfl | rfl | rfl | rfl | rfl | rfl | rfl | rfl | rfl | rfl | rfl | rfl | rfl | rfl | rfl | rfl | rfl | rfl | rfl | rfl | rfl | rfl | rfl | rfl | rfl | rfl | rfl | rfl | rfl | rfl | rfl | rfl | rfl | rfl | rfl | rfl | rfl | rfl | rfl | rfl | rfl | rfl
  · exact sx_lfb_hi sx_p_hr_g0 (by decide +kernel)
  · exact sx_lfb_hi sx_p_hr_g1 (by decide +kernel)
  · exact sx_lfb_hi sx_p_hr_g2 (by decide +kernel)
  · exact sx_lfb_hi sx_p_hr_g3 (by decide +kernel)
  · exact sx_lfb_hi sx_p_hr_g4 (by decide +kernel)
  · exact sx_lfb_hi sx_p_hr_g5 (by decide +kernel)
  · exact sx_lfb_hi sx_p_hr_g6 (by decide +kernel)
  · exact sx_lfb_hi sx_p_hr_g7 (by decide +kernel)
  · exact sx_lfb_hi sx_p_hr_s (by decide +kernel)
  · exact sx_lfb_hi sx_p_hr_ga0 (by decide +kernel)
  · exact sx_lfb_hi sx_p_hr_gb0 (by decide +kernel)
  · exact sx_lfb_hi sx_p_hr_ta0 (by decide +kernel)
  · exact sx_lfb_hi sx_p_hr_tb0 (by decide +kernel)
  · exact sx_lfb_hi sx_p_hr_ga1 (by decide +kernel)
  · exact sx_lfb_hi sx_p_hr_gb1 (by decide +kernel)
  · exact sx_lfb_hi sx_p_hr_ta1 (by decide +kernel)
  · exact sx_lfb_hi sx_p_hr_tb1 (by decide +kernel)
  · exact sx_lfb_hi sx_p_hr_ga2 (by decide +kernel)
  · exact sx_lfb_hi sx_p_hr_gb2 (by decide +kernel)
  · exact sx_lfb_hi sx_p_hr_ta2 (by decide +kernel)
  · exact sx_lfb_hi sx_p_hr_tb2 (by decide +kernel)
  · exact sx_lfb_hi sx_p_hr_ga3 (by decide +kernel)
  · exact sx_lfb_hi sx_p_hr_gb3 (by decide +kernel)
  · exact sx_lfb_hi sx_p_hr_ta3 (by decide +kernel)
  · exact sx_lfb_hi sx_p_hr_tb3 (by decide +kernel)
  · exact sx_lfb_hi sx_p_hr_ga4 (by decide +kernel)
  · exact sx_lfb_hi sx_p_hr_gb4 (by decide +kernel)
  · exact sx_lfb_hi sx_p_hr_ta4 (by decide +kernel)
  · exact sx_lfb_hi sx_p_hr_tb4 (by decide +kernel)
  · exact sx_lfb_hi sx_p_hr_ga5 (by decide +kernel)
  · exact sx_lfb_hi sx_p_hr_gb5 (by decide +kernel)
  · exact sx_lfb_hi sx_p_hr_ta5 (by decide +kernel)
  · exact sx_lfb_hi sx_p_hr_tb5 (by decide +kernel)
  · exact sx_lfb_hi sx_p_hr_ga6 (by decide +kernel)
  · exact sx_lfb_hi sx_p_hr_gb6 (by decide +kernel)
  · exact sx_lfb_hi sx_p_hr_ta6 (by decide +kernel)
  · exact sx_lfb_hi sx_p_hr_tb6 (by decide +kernel)
  · exact sx_lfb_hi sx_p_hr_ga7 (by decide +kernel)
  · exact sx_lfb_hi sx_p_hr_gb7 (by decide +kernel)
  · exact sx_lfb_hi sx_p_hr_ta7 (by decide +kernel)
  · exact sx_lfb_hi sx_p_hr_tb7 (by decide +kernel)
  · exact sx_lfb_hi sx_p_hr_ga8 (by decide +kernel)
  · exact sx_lfb_hi sx_p_hr_gb8 (by decide +kernel)
  · exact sx_lfb_hi sx_p_hr_ta8 (by decide +kernel)
  · exact sx_lfb_hi sx_p_hr_tb8 (by decide +kernel)
  · exact sx_lfb_hi sx_p_hr_ga9 (by decide +kernel)
  · exact sx_lfb_hi sx_p_hr_gb9 (by decide +kernel)
  · exact sx_lfb_hi sx_p_hr_ta9 (by decide +kernel)
  · exact sx_lfb_hi sx_p_hr_tb9 (by decide +kernel)
  · exact sx_lfb_hi sx_p_hr_ga10 (by decide +kernel)
  · exact sx_lfb_hi sx_p_hr_gb10 (by decide +kernel)
  · exact sx_lfb_hi sx_p_hr_ta10 (by decide +kernel)
  · exact sx_lfb_hi sx_p_hr_tb10 (by decide +kernel)
  · exact sx_lfb_hi sx_p_hr_ga11 (by decide +kernel)
  · exact sx_lfb_hi sx_p_hr_gb11 (by decide +kernel)
  · exact sx_lfb_hi sx_p_hr_ta11 (by decide +kernel)
  · exact sx_lfb_hi sx_p_hr_tb11 (by decide +kernel)
theorem sx_biushr_ok (r : sx_Ru) (hr : r ∈ sx_biushr) : sx_okw 16 sx_fshr sx_GG r := by
  replace hr : r ∈ [sx_r_hu_1, sx_r_hu_2, sx_r_hu_3, sx_r_hu_4, sx_r_hu_5] := hr
  simp only [List.mem_cons, List.not_mem_nil, or_false] at hr
  rcases hr with rfl | rfl | rfl | rfl | rfl
  · exact sx_lfb_hi sx_p_hu_1 (by decide +kernel)
  · exact sx_lfb_hi sx_p_hu_2 (by decide +kernel)
  · exact sx_lfb_hi sx_p_hu_3 (by decide +kernel)
  · exact sx_lfb_hi sx_p_hu_4 (by decide +kernel)
  · exact sx_lfb_hi sx_p_hu_5 (by decide +kernel)
