set_option maxRecDepth 1000000 in
theorem rd_32_0 : rv_dj cX2_canGoOn rb_32 0 = true := by decide +kernel
theorem rd_32 : rv_DK (cX2_canGoOn, rb_32) := rv_dc_join 1 (fun j hj => by rcases (show j = 0 by omega) with rfl; exact rd_32_0) (by decide +kernel)
set_option maxRecDepth 1000000 in
theorem rd_33_0 : rv_dj cX2_init rb_33 0 = true := by decide +kernel
theorem rd_33 : rv_DK (cX2_init, rb_33) := rv_dc_join 1 (fun j hj => by rcases (show j = 0 by omega) with rfl; exact rd_33_0) (by decide +kernel)
set_option maxRecDepth 1000000 in
theorem rd_34_0 : rv_dj cX2_next rb_34 0 = true := by decide +kernel
set_option maxRecDepth 1000000 in
theorem rd_34_1 : rv_dj cX2_next rb_34 1 = true := by decide +kernel
set_option maxRecDepth 1000000 in
theorem rd_34_2 : rv_dj cX2_next rb_34 2 = true := by decide +kernel
theorem rd_34 : rv_DK (cX2_next, rb_34) := rv_dc_join 3 (fun j hj => by
  rcases (show j = 0 ∨ j = 1 ∨ j = 2 by omega) with rfl | rfl | rfl
  · exact rd_34_0
  · exact rd_34_1
  · exact rd_34_2) (by decide +kernel)
set_option maxRecDepth 1000000 in
theorem rd_35_0 : rv_dj cX2_placeNext rb_35 0 = true := by decide +kernel
set_option maxRecDepth 1000000 in
theorem rd_35_1 : rv_dj cX2_placeNext rb_35 1 = true := by decide +kernel
set_option maxRecDepth 1000000 in
theorem rd_35_2 : rv_dj cX2_placeNext rb_35 2 = true := by decide +kernel
theorem rd_35 : rv_DK (cX2_placeNext, rb_35) := rv_dc_join 3 (fun j hj => by
  rcases (show j = 0 ∨ j = 1 ∨ j = 2 by omega) with rfl | rfl | rfl
  · exact rd_35_0
  · exact rd_35_1
  · exact rd_35_2) (by decide +kernel)
set_option maxRecDepth 1000000 in
theorem rd_36_0 : rv_dj cX2_takeBack rb_36 0 = true := by decide +kernel
theorem rd_36 : rv_DK (cX2_takeBack, rb_36) := rv_dc_join 1 (fun j hj => by rcases (show j = 0 by omega) with rfl; exact rd_36_0) (by decide +kernel)
set_option maxRecDepth 1000000 in
theorem rd_37_0 : rv_dj cX3_canFill rb_37 0 = true := by decide +kernel
set_option maxRecDepth 1000000 in
theorem rd_37_1 : rv_dj cX3_canFill rb_37 1 = true := by decide +kernel
theorem rd_37 : rv_DK (cX3_canFill, rb_37) := rv_dc_join 2 (fun j hj => by
  rcases (show j = 0 ∨ j = 1 by omega) with rfl | rfl
  · exact rd_37_0
  · exact rd_37_1) (by decide +kernel)
set_option maxRecDepth 1000000 in
theorem rd_38_0 : rv_dj cX3_compare rb_38 0 = true := by decide +kernel
set_option maxRecDepth 1000000 in
theorem rd_38_1 : rv_dj cX3_compare rb_38 1 = true := by decide +kernel
theorem rd_38 : rv_DK (cX3_compare, rb_38) := rv_dc_join 2 (fun j hj => by
  rcases (show j = 0 ∨ j = 1 by omega) with rfl | rfl
  · exact rd_38_0
  · exact rd_38_1) (by decide +kernel)
set_option maxRecDepth 1000000 in
theorem rd_39_0 : rv_dj cX3_firstThatFits rb_39 0 = true := by decide +kernel
theorem rd_39 : rv_DK (cX3_firstThatFits, rb_39) := rv_dc_join 1 (fun j hj => by rcases (show j = 0 by omega) with rfl; exact rd_39_0) (by decide +kernel)
set_option maxRecDepth 1000000 in
theorem rd_40_0 : rv_dj cX3_forget rb_40 0 = true := by decide +kernel
theorem rd_40 : rv_DK (cX3_forget, rb_40) := rv_dc_join 1 (fun j hj => by rcases (show j = 0 by omega) with rfl; exact rd_40_0) (by decide +kernel)
set_option maxRecDepth 1000000 in
theorem rd_41_0 : rv_dj cX3_gather rb_41 0 = true := by decide +kernel
set_option maxRecDepth 1000000 in
theorem rd_41_1 : rv_dj cX3_gather rb_41 1 = true := by decide +kernel
theorem rd_41 : rv_DK (cX3_gather, rb_41) := rv_dc_join 2 (fun j hj => by
  rcases (show j = 0 ∨ j = 1 by omega) with rfl | rfl
  · exact rd_41_0
  · exact rd_41_1) (by decide +kernel)
set_option maxRecDepth 1000000 in
theorem rd_42_0 : rv_dj cX3_hasSlimWithin rb_42 0 = true := by decide +kernel
theorem rd_42 : rv_DK (cX3_hasSlimWithin, rb_42) := rv_dc_join 1 (fun j hj => by rcases (show j = 0 by omega) with rfl; exact rd_42_0) (by decide +kernel)
set_option maxRecDepth 1000000 in
theorem rd_43_0 : rv_dj cX3_init rb_43 0 = true := by decide +kernel
set_option maxRecDepth 1000000 in
theorem rd_43_1 : rv_dj cX3_init rb_43 1 = true := by decide +kernel
theorem rd_43 : rv_DK (cX3_init, rb_43) := rv_dc_join 2 (fun j hj => by
  rcases (show j = 0 ∨ j = 1 by omega) with rfl | rfl
  · exact rd_43_0
  · exact rd_43_1) (by decide +kernel)
set_option maxRecDepth 1000000 in
theorem rd_44_0 : rv_dj cX3_keyOf rb_44 0 = true := by decide +kernel
theorem rd_44 : rv_DK (cX3_keyOf, rb_44) := rv_dc_join 1 (fun j hj => by rcases (show j = 0 by omega) with rfl; exact rd_44_0) (by decide +kernel)
set_option maxRecDepth 1000000 in
theorem rd_45_0 : rv_dj cX3_learnPairs rb_45 0 = true := by decide +kernel
set_option maxRecDepth 1000000 in
theorem rd_45_1 : rv_dj cX3_learnPairs rb_45 1 = true := by decide +kernel
theorem rd_45 : rv_DK (cX3_learnPairs, rb_45) := rv_dc_join 2 (fun j hj => by
  rcases (show j = 0 ∨ j = 1 by omega) with rfl | rfl
  · exact rd_45_0
  · exact rd_45_1) (by decide +kernel)
set_option maxRecDepth 1000000 in
theorem rd_46_0 : rv_dj cX3_pairsOf rb_46 0 = true := by decide +kernel
set_option maxRecDepth 1000000 in
theorem rd_46_1 : rv_dj cX3_pairsOf rb_46 1 = true := by decide +kernel
theorem rd_46 : rv_DK (cX3_pairsOf, rb_46) := rv_dc_join 2 (fun j hj => by
  rcases (show j = 0 ∨ j = 1 by omega) with rfl | rfl
  · exact rd_46_0
  · exact rd_46_1) (by decide +kernel)
set_option maxRecDepth 1000000 in
theorem rd_47_0 : rv_dj cX3_planWeeks rb_47 0 = true := by decide +kernel
set_option maxRecDepth 1000000 in
theorem rd_47_1 : rv_dj cX3_planWeeks rb_47 1 = true := by decide +kernel
theorem rd_47 : rv_DK (cX3_planWeeks, rb_47) := rv_dc_join 2 (fun j hj => by
  rcases (show j = 0 ∨ j = 1 by omega) with rfl | rfl
  · exact rd_47_0
  · exact rd_47_1) (by decide +kernel)
set_option maxRecDepth 1000000 in
theorem rd_48_0 : rv_dj cX3_sharing rb_48 0 = true := by decide +kernel
theorem rd_48 : rv_DK (cX3_sharing, rb_48) := rv_dc_join 1 (fun j hj => by rcases (show j = 0 by omega) with rfl; exact rd_48_0) (by decide +kernel)
set_option maxRecDepth 1000000 in
theorem rd_49_0 : rv_dj cX4_add rb_49 0 = true := by decide +kernel
set_option maxRecDepth 1000000 in
theorem rd_49_1 : rv_dj cX4_add rb_49 1 = true := by decide +kernel
theorem rd_49 : rv_DK (cX4_add, rb_49) := rv_dc_join 2 (fun j hj => by
  rcases (show j = 0 ∨ j = 1 by omega) with rfl | rfl
  · exact rd_49_0
  · exact rd_49_1) (by decide +kernel)
set_option maxRecDepth 1000000 in
theorem rd_50_0 : rv_dj cX4_allows rb_50 0 = true := by decide +kernel
set_option maxRecDepth 1000000 in
theorem rd_50_1 : rv_dj cX4_allows rb_50 1 = true := by decide +kernel
theorem rd_50 : rv_DK (cX4_allows, rb_50) := rv_dc_join 2 (fun j hj => by
  rcases (show j = 0 ∨ j = 1 by omega) with rfl | rfl
  · exact rd_50_0
  · exact rd_50_1) (by decide +kernel)
set_option maxRecDepth 1000000 in
theorem rd_51_0 : rv_dj cX4_canBeName rb_51 0 = true := by decide +kernel
set_option maxRecDepth 1000000 in
theorem rd_51_1 : rv_dj cX4_canBeName rb_51 1 = true := by decide +kernel
theorem rd_51 : rv_DK (cX4_canBeName, rb_51) := rv_dc_join 2 (fun j hj => by
  rcases (show j = 0 ∨ j = 1 by omega) with rfl | rfl
  · exact rd_51_0
  · exact rd_51_1) (by decide +kernel)
set_option maxRecDepth 1000000 in
theorem rd_52_0 : rv_dj cX4_everyone rb_52 0 = true := by decide +kernel
theorem rd_52 : rv_DK (cX4_everyone, rb_52) := rv_dc_join 1 (fun j hj => by rcases (show j = 0 by omega) with rfl; exact rd_52_0) (by decide +kernel)
set_option maxRecDepth 1000000 in
theorem rd_53_0 : rv_dj cX4_find rb_53 0 = true := by decide +kernel
theorem rd_53 : rv_DK (cX4_find, rb_53) := rv_dc_join 1 (fun j hj => by rcases (show j = 0 by omega) with rfl; exact rd_53_0) (by decide +kernel)
set_option maxRecDepth 1000000 in
theorem rd_54_0 : rv_dj cX4_has rb_54 0 = true := by decide +kernel
theorem rd_54 : rv_DK (cX4_has, rb_54) := rv_dc_join 1 (fun j hj => by rcases (show j = 0 by omega) with rfl; exact rd_54_0) (by decide +kernel)
set_option maxRecDepth 1000000 in
theorem rd_55_0 : rv_dj cX4_init rb_55 0 = true := by decide +kernel
theorem rd_55 : rv_DK (cX4_init, rb_55) := rv_dc_join 1 (fun j hj => by rcases (show j = 0 by omega) with rfl; exact rd_55_0) (by decide +kernel)
set_option maxRecDepth 1000000 in
theorem rd_56_0 : rv_dj cX4_isGroup rb_56 0 = true := by decide +kernel
theorem rd_56 : rv_DK (cX4_isGroup, rb_56) := rv_dc_join 1 (fun j hj => by rcases (show j = 0 by omega) with rfl; exact rd_56_0) (by decide +kernel)
set_option maxRecDepth 1000000 in
theorem rd_57_0 : rv_dj cX4_isGroupWith rb_57 0 = true := by decide +kernel
theorem rd_57 : rv_DK (cX4_isGroupWith, rb_57) := rv_dc_join 1 (fun j hj => by rcases (show j = 0 by omega) with rfl; exact rd_57_0) (by decide +kernel)
set_option maxRecDepth 1000000 in
theorem rd_58_0 : rv_dj cX4_tie rb_58 0 = true := by decide +kernel
theorem rd_58 : rv_DK (cX4_tie, rb_58) := rv_dc_join 1 (fun j hj => by rcases (show j = 0 by omega) with rfl; exact rd_58_0) (by decide +kernel)
set_option maxRecDepth 1000000 in
theorem rd_59_0 : rv_dj cX5_advance rb_59 0 = true := by decide +kernel
theorem rd_59 : rv_DK (cX5_advance, rb_59) := rv_dc_join 1 (fun j hj => by rcases (show j = 0 by omega) with rfl; exact rd_59_0) (by decide +kernel)
set_option maxRecDepth 1000000 in
theorem rd_60_0 : rv_dj cX5_append rb_60 0 = true := by decide +kernel
theorem rd_60 : rv_DK (cX5_append, rb_60) := rv_dc_join 1 (fun j hj => by rcases (show j = 0 by omega) with rfl; exact rd_60_0) (by decide +kernel)
