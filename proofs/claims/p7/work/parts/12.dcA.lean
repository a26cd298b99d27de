theorem rd_0 : rv_DK (cJ0_charAt_5068e, rb_0) := fun e h => by cases h
theorem rd_1 : rv_DK (cJ0_length_8abf5, rb_1) := fun e h => by cases h
set_option maxRecDepth 1000000 in
theorem rd_2_0 : rv_dj cJ6_bitCount_0f7a4 rb_2 0 = true := by decide +kernel
set_option maxRecDepth 1000000 in
theorem rd_2_1 : rv_dj cJ6_bitCount_0f7a4 rb_2 1 = true := by decide +kernel
theorem rd_2 : rv_DK (cJ6_bitCount_0f7a4, rb_2) := rv_dc_join 2 (fun j hj => by
  rcases (show j = 0 ∨ j = 1 by omega) with rfl | rfl
  · exact rd_2_0
  · exact rd_2_1) (by decide +kernel)
set_option maxRecDepth 1000000 in
theorem rd_3_0 : rv_dj cJ6_numberOfTrailingZeros_0f7a4 rb_3 0 = true := by decide +kernel
set_option maxRecDepth 1000000 in
theorem rd_3_1 : rv_dj cJ6_numberOfTrailingZeros_0f7a4 rb_3 1 = true := by decide +kernel
theorem rd_3 : rv_DK (cJ6_numberOfTrailingZeros_0f7a4, rb_3) := rv_dc_join 2 (fun j hj => by
  rcases (show j = 0 ∨ j = 1 by omega) with rfl | rfl
  · exact rd_3_0
  · exact rd_3_1) (by decide +kernel)
set_option maxRecDepth 1000000 in
theorem rd_4_0 : rv_dj cJ9_max_7cf53 rb_4 0 = true := by decide +kernel
theorem rd_4 : rv_DK (cJ9_max_7cf53, rb_4) := rv_dc_join 1 (fun j hj => by rcases (show j = 0 by omega) with rfl; exact rd_4_0) (by decide +kernel)
set_option maxRecDepth 1000000 in
theorem rd_5_0 : rv_dj cJ9_max_f86c9 rb_5 0 = true := by decide +kernel
theorem rd_5 : rv_DK (cJ9_max_f86c9, rb_5) := rv_dc_join 1 (fun j hj => by rcases (show j = 0 by omega) with rfl; exact rd_5_0) (by decide +kernel)
set_option maxRecDepth 1000000 in
theorem rd_6_0 : rv_dj cJ9_min_7cf53 rb_6 0 = true := by decide +kernel
theorem rd_6 : rv_DK (cJ9_min_7cf53, rb_6) := rv_dc_join 1 (fun j hj => by rcases (show j = 0 by omega) with rfl; exact rd_6_0) (by decide +kernel)
set_option maxRecDepth 1000000 in
theorem rd_7_0 : rv_dj cJ9_min_f86c9 rb_7 0 = true := by decide +kernel
theorem rd_7 : rv_DK (cJ9_min_f86c9, rb_7) := rv_dc_join 1 (fun j hj => by rcases (show j = 0 by omega) with rfl; exact rd_7_0) (by decide +kernel)
set_option maxRecDepth 1000000 in
theorem rd_8_0 : rv_dj cJ13_bitCount_95d88 rb_8 0 = true := by decide +kernel
set_option maxRecDepth 1000000 in
theorem rd_8_1 : rv_dj cJ13_bitCount_95d88 rb_8 1 = true := by decide +kernel
theorem rd_8 : rv_DK (cJ13_bitCount_95d88, rb_8) := rv_dc_join 2 (fun j hj => by
  rcases (show j = 0 ∨ j = 1 by omega) with rfl | rfl
  · exact rd_8_0
  · exact rd_8_1) (by decide +kernel)
set_option maxRecDepth 1000000 in
theorem rd_9_0 : rv_dj cJ13_numberOfTrailingZeros_95d88 rb_9 0 = true := by decide +kernel
theorem rd_9 : rv_DK (cJ13_numberOfTrailingZeros_95d88, rb_9) := rv_dc_join 1 (fun j hj => by rcases (show j = 0 by omega) with rfl; exact rd_9_0) (by decide +kernel)
set_option maxRecDepth 1000000 in
theorem rd_10_0 : rv_dj cX0_carryOut rb_10 0 = true := by decide +kernel
set_option maxRecDepth 1000000 in
theorem rd_10_1 : rv_dj cX0_carryOut rb_10 1 = true := by decide +kernel
theorem rd_10 : rv_DK (cX0_carryOut, rb_10) := rv_dc_join 2 (fun j hj => by
  rcases (show j = 0 ∨ j = 1 by omega) with rfl | rfl
  · exact rd_10_0
  · exact rd_10_1) (by decide +kernel)
set_option maxRecDepth 1000000 in
theorem rd_11_0 : rv_dj cX0_coreStrength rb_11 0 = true := by decide +kernel
theorem rd_11 : rv_DK (cX0_coreStrength, rb_11) := rv_dc_join 1 (fun j hj => by rcases (show j = 0 by omega) with rfl; exact rd_11_0) (by decide +kernel)
set_option maxRecDepth 1000000 in
theorem rd_12_0 : rv_dj cX0_init rb_12 0 = true := by decide +kernel
theorem rd_12 : rv_DK (cX0_init, rb_12) := rv_dc_join 1 (fun j hj => by rcases (show j = 0 by omega) with rfl; exact rd_12_0) (by decide +kernel)
set_option maxRecDepth 1000000 in
theorem rd_13_0 : rv_dj cX0_isEnough rb_13 0 = true := by decide +kernel
theorem rd_13 : rv_DK (cX0_isEnough, rb_13) := rv_dc_join 1 (fun j hj => by rcases (show j = 0 by omega) with rfl; exact rd_13_0) (by decide +kernel)
set_option maxRecDepth 1000000 in
theorem rd_14_0 : rv_dj cX0_look rb_14 0 = true := by decide +kernel
set_option maxRecDepth 1000000 in
theorem rd_14_1 : rv_dj cX0_look rb_14 1 = true := by decide +kernel
theorem rd_14 : rv_DK (cX0_look, rb_14) := rv_dc_join 2 (fun j hj => by
  rcases (show j = 0 ∨ j = 1 by omega) with rfl | rfl
  · exact rd_14_0
  · exact rd_14_1) (by decide +kernel)
set_option maxRecDepth 1000000 in
theorem rd_15_0 : rv_dj cX0_lookAtMove rb_15 0 = true := by decide +kernel
theorem rd_15 : rv_DK (cX0_lookAtMove, rb_15) := rv_dc_join 1 (fun j hj => by rcases (show j = 0 by omega) with rfl; exact rd_15_0) (by decide +kernel)
set_option maxRecDepth 1000000 in
theorem rd_16_0 : rv_dj cX0_lookAtSwap rb_16 0 = true := by decide +kernel
set_option maxRecDepth 1000000 in
theorem rd_16_1 : rv_dj cX0_lookAtSwap rb_16 1 = true := by decide +kernel
theorem rd_16 : rv_DK (cX0_lookAtSwap, rb_16) := rv_dc_join 2 (fun j hj => by
  rcases (show j = 0 ∨ j = 1 by omega) with rfl | rfl
  · exact rd_16_0
  · exact rd_16_1) (by decide +kernel)
set_option maxRecDepth 1000000 in
theorem rd_17_0 : rv_dj cX0_lookForCores rb_17 0 = true := by decide +kernel
set_option maxRecDepth 1000000 in
theorem rd_17_1 : rv_dj cX0_lookForCores rb_17 1 = true := by decide +kernel
theorem rd_17 : rv_DK (cX0_lookForCores, rb_17) := rv_dc_join 2 (fun j hj => by
  rcases (show j = 0 ∨ j = 1 by omega) with rfl | rfl
  · exact rd_17_0
  · exact rd_17_1) (by decide +kernel)
set_option maxRecDepth 1000000 in
theorem rd_18_0 : rv_dj cX0_lookForMoves rb_18 0 = true := by decide +kernel
set_option maxRecDepth 1000000 in
theorem rd_18_1 : rv_dj cX0_lookForMoves rb_18 1 = true := by decide +kernel
theorem rd_18 : rv_DK (cX0_lookForMoves, rb_18) := rv_dc_join 2 (fun j hj => by
  rcases (show j = 0 ∨ j = 1 by omega) with rfl | rfl
  · exact rd_18_0
  · exact rd_18_1) (by decide +kernel)
set_option maxRecDepth 1000000 in
theorem rd_19_0 : rv_dj cX0_lookForSwaps rb_19 0 = true := by decide +kernel
set_option maxRecDepth 1000000 in
theorem rd_19_1 : rv_dj cX0_lookForSwaps rb_19 1 = true := by decide +kernel
theorem rd_19 : rv_DK (cX0_lookForSwaps, rb_19) := rv_dc_join 2 (fun j hj => by
  rcases (show j = 0 ∨ j = 1 by omega) with rfl | rfl
  · exact rd_19_0
  · exact rd_19_1) (by decide +kernel)
set_option maxRecDepth 1000000 in
theorem rd_20_0 : rv_dj cX0_note rb_20 0 = true := by decide +kernel
theorem rd_20 : rv_DK (cX0_note, rb_20) := rv_dc_join 1 (fun j hj => by rcases (show j = 0 by omega) with rfl; exact rd_20_0) (by decide +kernel)
set_option maxRecDepth 1000000 in
theorem rd_21_0 : rv_dj cX0_noteCores rb_21 0 = true := by decide +kernel
set_option maxRecDepth 1000000 in
theorem rd_21_1 : rv_dj cX0_noteCores rb_21 1 = true := by decide +kernel
theorem rd_21 : rv_DK (cX0_noteCores, rb_21) := rv_dc_join 2 (fun j hj => by
  rcases (show j = 0 ∨ j = 1 by omega) with rfl | rfl
  · exact rd_21_0
  · exact rd_21_1) (by decide +kernel)
set_option maxRecDepth 1000000 in
theorem rd_22_0 : rv_dj cX1_gatherLabels rb_22 0 = true := by decide +kernel
set_option maxRecDepth 1000000 in
theorem rd_22_1 : rv_dj cX1_gatherLabels rb_22 1 = true := by decide +kernel
theorem rd_22 : rv_DK (cX1_gatherLabels, rb_22) := rv_dc_join 2 (fun j hj => by
  rcases (show j = 0 ∨ j = 1 by omega) with rfl | rfl
  · exact rd_22_0
  · exact rd_22_1) (by decide +kernel)
set_option maxRecDepth 1000000 in
theorem rd_23_0 : rv_dj cX1_groupOf rb_23 0 = true := by decide +kernel
theorem rd_23 : rv_DK (cX1_groupOf, rb_23) := rv_dc_join 1 (fun j hj => by rcases (show j = 0 by omega) with rfl; exact rd_23_0) (by decide +kernel)
set_option maxRecDepth 1000000 in
theorem rd_24_0 : rv_dj cX1_init rb_24 0 = true := by decide +kernel
theorem rd_24 : rv_DK (cX1_init, rb_24) := rv_dc_join 1 (fun j hj => by rcases (show j = 0 by omega) with rfl; exact rd_24_0) (by decide +kernel)
set_option maxRecDepth 1000000 in
theorem rd_25_0 : rv_dj cX1_key rb_25 0 = true := by decide +kernel
theorem rd_25 : rv_DK (cX1_key, rb_25) := rv_dc_join 1 (fun j hj => by rcases (show j = 0 by omega) with rfl; exact rd_25_0) (by decide +kernel)
set_option maxRecDepth 1000000 in
theorem rd_26_0 : rv_dj cX1_labelRooms rb_26 0 = true := by decide +kernel
theorem rd_26 : rv_DK (cX1_labelRooms, rb_26) := rv_dc_join 1 (fun j hj => by rcases (show j = 0 by omega) with rfl; exact rd_26_0) (by decide +kernel)
set_option maxRecDepth 1000000 in
theorem rd_27_0 : rv_dj cX1_move rb_27 0 = true := by decide +kernel
theorem rd_27 : rv_DK (cX1_move, rb_27) := rv_dc_join 1 (fun j hj => by rcases (show j = 0 by omega) with rfl; exact rd_27_0) (by decide +kernel)
set_option maxRecDepth 1000000 in
theorem rd_28_0 : rv_dj cX1_roomIn rb_28 0 = true := by decide +kernel
theorem rd_28 : rv_DK (cX1_roomIn, rb_28) := rv_dc_join 1 (fun j hj => by rcases (show j = 0 by omega) with rfl; exact rd_28_0) (by decide +kernel)
set_option maxRecDepth 1000000 in
theorem rd_29_0 : rv_dj cX1_swap rb_29 0 = true := by decide +kernel
theorem rd_29 : rv_DK (cX1_swap, rb_29) := rv_dc_join 1 (fun j hj => by rcases (show j = 0 by omega) with rfl; exact rd_29_0) (by decide +kernel)
set_option maxRecDepth 1000000 in
theorem rd_30_0 : rv_dj cX1_takeFrom rb_30 0 = true := by decide +kernel
set_option maxRecDepth 1000000 in
theorem rd_30_1 : rv_dj cX1_takeFrom rb_30 1 = true := by decide +kernel
theorem rd_30 : rv_DK (cX1_takeFrom, rb_30) := rv_dc_join 2 (fun j hj => by
  rcases (show j = 0 ∨ j = 1 by omega) with rfl | rfl
  · exact rd_30_0
  · exact rd_30_1) (by decide +kernel)
set_option maxRecDepth 1000000 in
theorem rd_31_0 : rv_dj cX2_begin rb_31 0 = true := by decide +kernel
set_option maxRecDepth 1000000 in
theorem rd_31_1 : rv_dj cX2_begin rb_31 1 = true := by decide +kernel
set_option maxRecDepth 1000000 in
theorem rd_31_2 : rv_dj cX2_begin rb_31 2 = true := by decide +kernel
set_option maxRecDepth 1000000 in
theorem rd_31_3 : rv_dj cX2_begin rb_31 3 = true := by decide +kernel
theorem rd_31 : rv_DK (cX2_begin, rb_31) := rv_dc_join 4 (fun j hj => by
  rcases (show j = 0 ∨ j = 1 ∨ j = 2 ∨ j = 3 by omega) with rfl | rfl | rfl | rfl
  · exact rd_31_0
  · exact rd_31_1
  · exact rd_31_2
  · exact rd_31_3) (by decide +kernel)
