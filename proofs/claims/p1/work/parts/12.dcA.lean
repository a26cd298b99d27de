set_option maxRecDepth 1000000 in
theorem rd_0_0 : rv_dj cJ6_bitCount_0f7a4 rb_0 0 = true := by decide +kernel
set_option maxRecDepth 1000000 in
theorem rd_0_1 : rv_dj cJ6_bitCount_0f7a4 rb_0 1 = true := by decide +kernel
theorem rd_0 : rv_DK (cJ6_bitCount_0f7a4, rb_0) := rv_dc_join 2 (fun j hj => by
  rcases (show j = 0 ∨ j = 1 by omega) with rfl | rfl
  · exact rd_0_0
  · exact rd_0_1) (by decide +kernel)
set_option maxRecDepth 1000000 in
theorem rd_1_0 : rv_dj cJ9_max_f86c9 rb_1 0 = true := by decide +kernel
theorem rd_1 : rv_DK (cJ9_max_f86c9, rb_1) := rv_dc_join 1 (fun j hj => by rcases (show j = 0 by omega) with rfl; exact rd_1_0) (by decide +kernel)
set_option maxRecDepth 1000000 in
theorem rd_2_0 : rv_dj cJ9_min_7cf53 rb_2 0 = true := by decide +kernel
theorem rd_2 : rv_DK (cJ9_min_7cf53, rb_2) := rv_dc_join 1 (fun j hj => by rcases (show j = 0 by omega) with rfl; exact rd_2_0) (by decide +kernel)
set_option maxRecDepth 1000000 in
theorem rd_3_0 : rv_dj cJ9_min_f86c9 rb_3 0 = true := by decide +kernel
theorem rd_3 : rv_DK (cJ9_min_f86c9, rb_3) := rv_dc_join 1 (fun j hj => by rcases (show j = 0 by omega) with rfl; exact rd_3_0) (by decide +kernel)
set_option maxRecDepth 1000000 in
theorem rd_4_0 : rv_dj cX0_init rb_4 0 = true := by decide +kernel
theorem rd_4 : rv_DK (cX0_init, rb_4) := rv_dc_join 1 (fun j hj => by rcases (show j = 0 by omega) with rfl; exact rd_4_0) (by decide +kernel)
set_option maxRecDepth 1000000 in
theorem rd_5_0 : rv_dj cX0_isEnough rb_5 0 = true := by decide +kernel
theorem rd_5 : rv_DK (cX0_isEnough, rb_5) := rv_dc_join 1 (fun j hj => by rcases (show j = 0 by omega) with rfl; exact rd_5_0) (by decide +kernel)
set_option maxRecDepth 1000000 in
theorem rd_6_0 : rv_dj cX0_look rb_6 0 = true := by decide +kernel
set_option maxRecDepth 1000000 in
theorem rd_6_1 : rv_dj cX0_look rb_6 1 = true := by decide +kernel
theorem rd_6 : rv_DK (cX0_look, rb_6) := rv_dc_join 2 (fun j hj => by
  rcases (show j = 0 ∨ j = 1 by omega) with rfl | rfl
  · exact rd_6_0
  · exact rd_6_1) (by decide +kernel)
set_option maxRecDepth 1000000 in
theorem rd_7_0 : rv_dj cX0_lookForCores rb_7 0 = true := by decide +kernel
set_option maxRecDepth 1000000 in
theorem rd_7_1 : rv_dj cX0_lookForCores rb_7 1 = true := by decide +kernel
theorem rd_7 : rv_DK (cX0_lookForCores, rb_7) := rv_dc_join 2 (fun j hj => by
  rcases (show j = 0 ∨ j = 1 by omega) with rfl | rfl
  · exact rd_7_0
  · exact rd_7_1) (by decide +kernel)
set_option maxRecDepth 1000000 in
theorem rd_8_0 : rv_dj cX0_lookForMoves rb_8 0 = true := by decide +kernel
set_option maxRecDepth 1000000 in
theorem rd_8_1 : rv_dj cX0_lookForMoves rb_8 1 = true := by decide +kernel
theorem rd_8 : rv_DK (cX0_lookForMoves, rb_8) := rv_dc_join 2 (fun j hj => by
  rcases (show j = 0 ∨ j = 1 by omega) with rfl | rfl
  · exact rd_8_0
  · exact rd_8_1) (by decide +kernel)
set_option maxRecDepth 1000000 in
theorem rd_9_0 : rv_dj cX0_lookForSwaps rb_9 0 = true := by decide +kernel
set_option maxRecDepth 1000000 in
theorem rd_9_1 : rv_dj cX0_lookForSwaps rb_9 1 = true := by decide +kernel
theorem rd_9 : rv_DK (cX0_lookForSwaps, rb_9) := rv_dc_join 2 (fun j hj => by
  rcases (show j = 0 ∨ j = 1 by omega) with rfl | rfl
  · exact rd_9_0
  · exact rd_9_1) (by decide +kernel)
set_option maxRecDepth 1000000 in
theorem rd_10_0 : rv_dj cX0_noteCores rb_10 0 = true := by decide +kernel
set_option maxRecDepth 1000000 in
theorem rd_10_1 : rv_dj cX0_noteCores rb_10 1 = true := by decide +kernel
theorem rd_10 : rv_DK (cX0_noteCores, rb_10) := rv_dc_join 2 (fun j hj => by
  rcases (show j = 0 ∨ j = 1 by omega) with rfl | rfl
  · exact rd_10_0
  · exact rd_10_1) (by decide +kernel)
set_option maxRecDepth 1000000 in
theorem rd_11_0 : rv_dj cX1_init rb_11 0 = true := by decide +kernel
theorem rd_11 : rv_DK (cX1_init, rb_11) := rv_dc_join 1 (fun j hj => by rcases (show j = 0 by omega) with rfl; exact rd_11_0) (by decide +kernel)
set_option maxRecDepth 1000000 in
theorem rd_12_0 : rv_dj cX1_key rb_12 0 = true := by decide +kernel
theorem rd_12 : rv_DK (cX1_key, rb_12) := rv_dc_join 1 (fun j hj => by rcases (show j = 0 by omega) with rfl; exact rd_12_0) (by decide +kernel)
set_option maxRecDepth 1000000 in
theorem rd_13_0 : rv_dj cX2_begin rb_13 0 = true := by decide +kernel
set_option maxRecDepth 1000000 in
theorem rd_13_1 : rv_dj cX2_begin rb_13 1 = true := by decide +kernel
set_option maxRecDepth 1000000 in
theorem rd_13_2 : rv_dj cX2_begin rb_13 2 = true := by decide +kernel
set_option maxRecDepth 1000000 in
theorem rd_13_3 : rv_dj cX2_begin rb_13 3 = true := by decide +kernel
theorem rd_13 : rv_DK (cX2_begin, rb_13) := rv_dc_join 4 (fun j hj => by
  rcases (show j = 0 ∨ j = 1 ∨ j = 2 ∨ j = 3 by omega) with rfl | rfl | rfl | rfl
  · exact rd_13_0
  · exact rd_13_1
  · exact rd_13_2
  · exact rd_13_3) (by decide +kernel)
set_option maxRecDepth 1000000 in
theorem rd_14_0 : rv_dj cX2_init rb_14 0 = true := by decide +kernel
theorem rd_14 : rv_DK (cX2_init, rb_14) := rv_dc_join 1 (fun j hj => by rcases (show j = 0 by omega) with rfl; exact rd_14_0) (by decide +kernel)
set_option maxRecDepth 1000000 in
theorem rd_15_0 : rv_dj cX2_next rb_15 0 = true := by decide +kernel
set_option maxRecDepth 1000000 in
theorem rd_15_1 : rv_dj cX2_next rb_15 1 = true := by decide +kernel
set_option maxRecDepth 1000000 in
theorem rd_15_2 : rv_dj cX2_next rb_15 2 = true := by decide +kernel
theorem rd_15 : rv_DK (cX2_next, rb_15) := rv_dc_join 3 (fun j hj => by
  rcases (show j = 0 ∨ j = 1 ∨ j = 2 by omega) with rfl | rfl | rfl
  · exact rd_15_0
  · exact rd_15_1
  · exact rd_15_2) (by decide +kernel)
set_option maxRecDepth 1000000 in
theorem rd_16_0 : rv_dj cX3_canFill rb_16 0 = true := by decide +kernel
set_option maxRecDepth 1000000 in
theorem rd_16_1 : rv_dj cX3_canFill rb_16 1 = true := by decide +kernel
theorem rd_16 : rv_DK (cX3_canFill, rb_16) := rv_dc_join 2 (fun j hj => by
  rcases (show j = 0 ∨ j = 1 by omega) with rfl | rfl
  · exact rd_16_0
  · exact rd_16_1) (by decide +kernel)
set_option maxRecDepth 1000000 in
theorem rd_17_0 : rv_dj cX3_compare rb_17 0 = true := by decide +kernel
set_option maxRecDepth 1000000 in
theorem rd_17_1 : rv_dj cX3_compare rb_17 1 = true := by decide +kernel
theorem rd_17 : rv_DK (cX3_compare, rb_17) := rv_dc_join 2 (fun j hj => by
  rcases (show j = 0 ∨ j = 1 by omega) with rfl | rfl
  · exact rd_17_0
  · exact rd_17_1) (by decide +kernel)
set_option maxRecDepth 1000000 in
theorem rd_18_0 : rv_dj cX3_firstThatFits rb_18 0 = true := by decide +kernel
theorem rd_18 : rv_DK (cX3_firstThatFits, rb_18) := rv_dc_join 1 (fun j hj => by rcases (show j = 0 by omega) with rfl; exact rd_18_0) (by decide +kernel)
set_option maxRecDepth 1000000 in
theorem rd_19_0 : rv_dj cX3_forget rb_19 0 = true := by decide +kernel
theorem rd_19 : rv_DK (cX3_forget, rb_19) := rv_dc_join 1 (fun j hj => by rcases (show j = 0 by omega) with rfl; exact rd_19_0) (by decide +kernel)
set_option maxRecDepth 1000000 in
theorem rd_20_0 : rv_dj cX3_gather rb_20 0 = true := by decide +kernel
set_option maxRecDepth 1000000 in
theorem rd_20_1 : rv_dj cX3_gather rb_20 1 = true := by decide +kernel
theorem rd_20 : rv_DK (cX3_gather, rb_20) := rv_dc_join 2 (fun j hj => by
  rcases (show j = 0 ∨ j = 1 by omega) with rfl | rfl
  · exact rd_20_0
  · exact rd_20_1) (by decide +kernel)
set_option maxRecDepth 1000000 in
theorem rd_21_0 : rv_dj cX3_hasSlimWithin rb_21 0 = true := by decide +kernel
theorem rd_21 : rv_DK (cX3_hasSlimWithin, rb_21) := rv_dc_join 1 (fun j hj => by rcases (show j = 0 by omega) with rfl; exact rd_21_0) (by decide +kernel)
set_option maxRecDepth 1000000 in
theorem rd_22_0 : rv_dj cX3_init rb_22 0 = true := by decide +kernel
set_option maxRecDepth 1000000 in
theorem rd_22_1 : rv_dj cX3_init rb_22 1 = true := by decide +kernel
theorem rd_22 : rv_DK (cX3_init, rb_22) := rv_dc_join 2 (fun j hj => by
  rcases (show j = 0 ∨ j = 1 by omega) with rfl | rfl
  · exact rd_22_0
  · exact rd_22_1) (by decide +kernel)
set_option maxRecDepth 1000000 in
theorem rd_23_0 : rv_dj cX3_learnPairs rb_23 0 = true := by decide +kernel
set_option maxRecDepth 1000000 in
theorem rd_23_1 : rv_dj cX3_learnPairs rb_23 1 = true := by decide +kernel
theorem rd_23 : rv_DK (cX3_learnPairs, rb_23) := rv_dc_join 2 (fun j hj => by
  rcases (show j = 0 ∨ j = 1 by omega) with rfl | rfl
  · exact rd_23_0
  · exact rd_23_1) (by decide +kernel)
set_option maxRecDepth 1000000 in
theorem rd_24_0 : rv_dj cX3_pairsOf rb_24 0 = true := by decide +kernel
set_option maxRecDepth 1000000 in
theorem rd_24_1 : rv_dj cX3_pairsOf rb_24 1 = true := by decide +kernel
theorem rd_24 : rv_DK (cX3_pairsOf, rb_24) := rv_dc_join 2 (fun j hj => by
  rcases (show j = 0 ∨ j = 1 by omega) with rfl | rfl
  · exact rd_24_0
  · exact rd_24_1) (by decide +kernel)
