set_option maxRecDepth 1000000 in
theorem rd_25_0 : rv_dj cX3_planWeeks rb_25 0 = true := by decide +kernel
set_option maxRecDepth 1000000 in
theorem rd_25_1 : rv_dj cX3_planWeeks rb_25 1 = true := by decide +kernel
theorem rd_25 : rv_DK (cX3_planWeeks, rb_25) := rv_dc_join 2 (fun j hj => by
  rcases (show j = 0 ∨ j = 1 by omega) with rfl | rfl
  · exact rd_25_0
  · exact rd_25_1) (by decide +kernel)
set_option maxRecDepth 1000000 in
theorem rd_26_0 : rv_dj cX4_add rb_26 0 = true := by decide +kernel
set_option maxRecDepth 1000000 in
theorem rd_26_1 : rv_dj cX4_add rb_26 1 = true := by decide +kernel
theorem rd_26 : rv_DK (cX4_add, rb_26) := rv_dc_join 2 (fun j hj => by
  rcases (show j = 0 ∨ j = 1 by omega) with rfl | rfl
  · exact rd_26_0
  · exact rd_26_1) (by decide +kernel)
theorem rd_27 : rv_DK (cX4_canBeName, rb_27) := fun e h => by cases h
set_option maxRecDepth 1000000 in
theorem rd_28_0 : rv_dj cX4_everyone rb_28 0 = true := by decide +kernel
theorem rd_28 : rv_DK (cX4_everyone, rb_28) := rv_dc_join 1 (fun j hj => by rcases (show j = 0 by omega) with rfl; exact rd_28_0) (by decide +kernel)
set_option maxRecDepth 1000000 in
theorem rd_29_0 : rv_dj cX4_find rb_29 0 = true := by decide +kernel
theorem rd_29 : rv_DK (cX4_find, rb_29) := rv_dc_join 1 (fun j hj => by rcases (show j = 0 by omega) with rfl; exact rd_29_0) (by decide +kernel)
set_option maxRecDepth 1000000 in
theorem rd_30_0 : rv_dj cX4_has rb_30 0 = true := by decide +kernel
theorem rd_30 : rv_DK (cX4_has, rb_30) := rv_dc_join 1 (fun j hj => by rcases (show j = 0 by omega) with rfl; exact rd_30_0) (by decide +kernel)
set_option maxRecDepth 1000000 in
theorem rd_31_0 : rv_dj cX4_init rb_31 0 = true := by decide +kernel
theorem rd_31 : rv_DK (cX4_init, rb_31) := rv_dc_join 1 (fun j hj => by rcases (show j = 0 by omega) with rfl; exact rd_31_0) (by decide +kernel)
set_option maxRecDepth 1000000 in
theorem rd_32_0 : rv_dj cX4_isGroup rb_32 0 = true := by decide +kernel
theorem rd_32 : rv_DK (cX4_isGroup, rb_32) := rv_dc_join 1 (fun j hj => by rcases (show j = 0 by omega) with rfl; exact rd_32_0) (by decide +kernel)
set_option maxRecDepth 1000000 in
theorem rd_33_0 : rv_dj cX5_append rb_33 0 = true := by decide +kernel
theorem rd_33 : rv_DK (cX5_append, rb_33) := rv_dc_join 1 (fun j hj => by rcases (show j = 0 by omega) with rfl; exact rd_33_0) (by decide +kernel)
set_option maxRecDepth 1000000 in
theorem rd_34_0 : rv_dj cX5_hasRoom rb_34 0 = true := by decide +kernel
theorem rd_34 : rv_DK (cX5_hasRoom, rb_34) := rv_dc_join 1 (fun j hj => by rcases (show j = 0 by omega) with rfl; exact rd_34_0) (by decide +kernel)
set_option maxRecDepth 1000000 in
theorem rd_35_0 : rv_dj cX5_init rb_35 0 = true := by decide +kernel
set_option maxRecDepth 1000000 in
theorem rd_35_1 : rv_dj cX5_init rb_35 1 = true := by decide +kernel
theorem rd_35 : rv_DK (cX5_init, rb_35) := rv_dc_join 2 (fun j hj => by
  rcases (show j = 0 ∨ j = 1 by omega) with rfl | rfl
  · exact rd_35_0
  · exact rd_35_1) (by decide +kernel)
set_option maxRecDepth 1000000 in
theorem rd_36_0 : rv_dj cX5_isKeyWord rb_36 0 = true := by decide +kernel
theorem rd_36 : rv_DK (cX5_isKeyWord, rb_36) := rv_dc_join 1 (fun j hj => by rcases (show j = 0 by omega) with rfl; exact rd_36_0) (by decide +kernel)
set_option maxRecDepth 1000000 in
theorem rd_37_0 : rv_dj cX6_areAlike rb_37 0 = true := by decide +kernel
theorem rd_37 : rv_DK (cX6_areAlike, rb_37) := rv_dc_join 1 (fun j hj => by rcases (show j = 0 by omega) with rfl; exact rd_37_0) (by decide +kernel)
set_option maxRecDepth 1000000 in
theorem rd_38_0 : rv_dj cX6_beginMends rb_38 0 = true := by decide +kernel
set_option maxRecDepth 1000000 in
theorem rd_38_1 : rv_dj cX6_beginMends rb_38 1 = true := by decide +kernel
theorem rd_38 : rv_DK (cX6_beginMends, rb_38) := rv_dc_join 2 (fun j hj => by
  rcases (show j = 0 ∨ j = 1 by omega) with rfl | rfl
  · exact rd_38_0
  · exact rd_38_1) (by decide +kernel)
set_option maxRecDepth 1000000 in
theorem rd_39_0 : rv_dj cX6_beginPeace rb_39 0 = true := by decide +kernel
theorem rd_39 : rv_DK (cX6_beginPeace, rb_39) := rv_dc_join 1 (fun j hj => by rcases (show j = 0 by omega) with rfl; exact rd_39_0) (by decide +kernel)
set_option maxRecDepth 1000000 in
theorem rd_40_0 : rv_dj cX6_forget rb_40 0 = true := by decide +kernel
theorem rd_40 : rv_DK (cX6_forget, rb_40) := rv_dc_join 1 (fun j hj => by rcases (show j = 0 by omega) with rfl; exact rd_40_0) (by decide +kernel)
set_option maxRecDepth 1000000 in
theorem rd_41_0 : rv_dj cX6_init rb_41 0 = true := by decide +kernel
set_option maxRecDepth 1000000 in
theorem rd_41_1 : rv_dj cX6_init rb_41 1 = true := by decide +kernel
theorem rd_41 : rv_DK (cX6_init, rb_41) := rv_dc_join 2 (fun j hj => by
  rcases (show j = 0 ∨ j = 1 by omega) with rfl | rfl
  · exact rd_41_0
  · exact rd_41_1) (by decide +kernel)
set_option maxRecDepth 1000000 in
theorem rd_42_0 : rv_dj cX6_leastToBear rb_42 0 = true := by decide +kernel
set_option maxRecDepth 1000000 in
theorem rd_42_1 : rv_dj cX6_leastToBear rb_42 1 = true := by decide +kernel
theorem rd_42 : rv_DK (cX6_leastToBear, rb_42) := rv_dc_join 2 (fun j hj => by
  rcases (show j = 0 ∨ j = 1 by omega) with rfl | rfl
  · exact rd_42_0
  · exact rd_42_1) (by decide +kernel)
set_option maxRecDepth 1000000 in
theorem rd_43_0 : rv_dj cX6_nextPeace rb_43 0 = true := by decide +kernel
theorem rd_43 : rv_DK (cX6_nextPeace, rb_43) := rv_dc_join 1 (fun j hj => by rcases (show j = 0 by omega) with rfl; exact rd_43_0) (by decide +kernel)
set_option maxRecDepth 1000000 in
theorem rd_44_0 : rv_dj cX6_seekNear rb_44 0 = true := by decide +kernel
set_option maxRecDepth 1000000 in
theorem rd_44_1 : rv_dj cX6_seekNear rb_44 1 = true := by decide +kernel
theorem rd_44 : rv_DK (cX6_seekNear, rb_44) := rv_dc_join 2 (fun j hj => by
  rcases (show j = 0 ∨ j = 1 by omega) with rfl | rfl
  · exact rd_44_0
  · exact rd_44_1) (by decide +kernel)
set_option maxRecDepth 1000000 in
theorem rd_45_0 : rv_dj cX6_smallestKnot rb_45 0 = true := by decide +kernel
set_option maxRecDepth 1000000 in
theorem rd_45_1 : rv_dj cX6_smallestKnot rb_45 1 = true := by decide +kernel
theorem rd_45 : rv_DK (cX6_smallestKnot, rb_45) := rv_dc_join 2 (fun j hj => by
  rcases (show j = 0 ∨ j = 1 by omega) with rfl | rfl
  · exact rd_45_0
  · exact rd_45_1) (by decide +kernel)
set_option maxRecDepth 1000000 in
theorem rd_46_0 : rv_dj cX7_init rb_46 0 = true := by decide +kernel
theorem rd_46 : rv_DK (cX7_init, rb_46) := rv_dc_join 1 (fun j hj => by rcases (show j = 0 by omega) with rfl; exact rd_46_0) (by decide +kernel)
set_option maxRecDepth 1000000 in
theorem rd_47_0 : rv_dj cX7_isMissing rb_47 0 = true := by decide +kernel
theorem rd_47 : rv_DK (cX7_isMissing, rb_47) := rv_dc_join 1 (fun j hj => by rcases (show j = 0 by omega) with rfl; exact rd_47_0) (by decide +kernel)
set_option maxRecDepth 1000000 in
theorem rd_48_0 : rv_dj cX7_lay rb_48 0 = true := by decide +kernel
theorem rd_48 : rv_DK (cX7_lay, rb_48) := rv_dc_join 1 (fun j hj => by rcases (show j = 0 by omega) with rfl; exact rd_48_0) (by decide +kernel)
set_option maxRecDepth 1000000 in
theorem rd_49_0 : rv_dj cX8_init rb_49 0 = true := by decide +kernel
theorem rd_49 : rv_DK (cX8_init, rb_49) := rv_dc_join 1 (fun j hj => by rcases (show j = 0 by omega) with rfl; exact rd_49_0) (by decide +kernel)
set_option maxRecDepth 1000000 in
theorem rd_50_0 : rv_dj cX9_aim rb_50 0 = true := by decide +kernel
set_option maxRecDepth 1000000 in
theorem rd_50_1 : rv_dj cX9_aim rb_50 1 = true := by decide +kernel
set_option maxRecDepth 1000000 in
theorem rd_50_2 : rv_dj cX9_aim rb_50 2 = true := by decide +kernel
theorem rd_50 : rv_DK (cX9_aim, rb_50) := rv_dc_join 3 (fun j hj => by
  rcases (show j = 0 ∨ j = 1 ∨ j = 2 by omega) with rfl | rfl | rfl
  · exact rd_50_0
  · exact rd_50_1
  · exact rd_50_2) (by decide +kernel)
set_option maxRecDepth 1000000 in
theorem rd_51_0 : rv_dj cX9_init rb_51 0 = true := by decide +kernel
set_option maxRecDepth 1000000 in
theorem rd_51_1 : rv_dj cX9_init rb_51 1 = true := by decide +kernel
theorem rd_51 : rv_DK (cX9_init, rb_51) := rv_dc_join 2 (fun j hj => by
  rcases (show j = 0 ∨ j = 1 by omega) with rfl | rfl
  · exact rd_51_0
  · exact rd_51_1) (by decide +kernel)
set_option maxRecDepth 1000000 in
theorem rd_52_0 : rv_dj cX9_isAllAlike rb_52 0 = true := by decide +kernel
theorem rd_52 : rv_DK (cX9_isAllAlike, rb_52) := rv_dc_join 1 (fun j hj => by rcases (show j = 0 by omega) with rfl; exact rd_52_0) (by decide +kernel)
set_option maxRecDepth 1000000 in
theorem rd_53_0 : rv_dj cX9_joiners rb_53 0 = true := by decide +kernel
set_option maxRecDepth 1000000 in
theorem rd_53_1 : rv_dj cX9_joiners rb_53 1 = true := by decide +kernel
theorem rd_53 : rv_DK (cX9_joiners, rb_53) := rv_dc_join 2 (fun j hj => by
  rcases (show j = 0 ∨ j = 1 by omega) with rfl | rfl
  · exact rd_53_0
  · exact rd_53_1) (by decide +kernel)
set_option maxRecDepth 1000000 in
theorem rd_54_0 : rv_dj cX9_leavers rb_54 0 = true := by decide +kernel
set_option maxRecDepth 1000000 in
theorem rd_54_1 : rv_dj cX9_leavers rb_54 1 = true := by decide +kernel
theorem rd_54 : rv_DK (cX9_leavers, rb_54) := rv_dc_join 2 (fun j hj => by
  rcases (show j = 0 ∨ j = 1 by omega) with rfl | rfl
  · exact rd_54_0
  · exact rd_54_1) (by decide +kernel)
set_option maxRecDepth 1000000 in
theorem rd_55_0 : rv_dj cX10_areFriends rb_55 0 = true := by decide +kernel
theorem rd_55 : rv_DK (cX10_areFriends, rb_55) := rv_dc_join 1 (fun j hj => by rcases (show j = 0 by omega) with rfl; exact rd_55_0) (by decide +kernel)
set_option maxRecDepth 1000000 in
theorem rd_56_0 : rv_dj cX10_cut rb_56 0 = true := by decide +kernel
theorem rd_56 : rv_DK (cX10_cut, rb_56) := rv_dc_join 1 (fun j hj => by rcases (show j = 0 by omega) with rfl; exact rd_56_0) (by decide +kernel)
set_option maxRecDepth 1000000 in
theorem rd_57_0 : rv_dj cX10_init rb_57 0 = true := by decide +kernel
theorem rd_57 : rv_DK (cX10_init, rb_57) := rv_dc_join 1 (fun j hj => by rcases (show j = 0 by omega) with rfl; exact rd_57_0) (by decide +kernel)
set_option maxRecDepth 1000000 in
theorem rd_58_0 : rv_dj cX10_refresh rb_58 0 = true := by decide +kernel
set_option maxRecDepth 1000000 in
theorem rd_58_1 : rv_dj cX10_refresh rb_58 1 = true := by decide +kernel
theorem rd_58 : rv_DK (cX10_refresh, rb_58) := rv_dc_join 2 (fun j hj => by
  rcases (show j = 0 ∨ j = 1 by omega) with rfl | rfl
  · exact rd_58_0
  · exact rd_58_1) (by decide +kernel)
