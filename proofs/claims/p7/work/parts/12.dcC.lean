set_option maxRecDepth 1000000 in
theorem rd_61_0 : rv_dj cX5_cutIntoTokens rb_61 0 = true := by decide +kernel
set_option maxRecDepth 1000000 in
theorem rd_61_1 : rv_dj cX5_cutIntoTokens rb_61 1 = true := by decide +kernel
theorem rd_61 : rv_DK (cX5_cutIntoTokens, rb_61) := rv_dc_join 2 (fun j hj => by
  rcases (show j = 0 ∨ j = 1 by omega) with rfl | rfl
  · exact rd_61_0
  · exact rd_61_1) (by decide +kernel)
set_option maxRecDepth 1000000 in
theorem rd_62_0 : rv_dj cX5_fail rb_62 0 = true := by decide +kernel
theorem rd_62 : rv_DK (cX5_fail, rb_62) := rv_dc_join 1 (fun j hj => by rcases (show j = 0 by omega) with rfl; exact rd_62_0) (by decide +kernel)
set_option maxRecDepth 1000000 in
theorem rd_63_0 : rv_dj cX5_hasRoom rb_63 0 = true := by decide +kernel
theorem rd_63 : rv_DK (cX5_hasRoom, rb_63) := rv_dc_join 1 (fun j hj => by rcases (show j = 0 by omega) with rfl; exact rd_63_0) (by decide +kernel)
set_option maxRecDepth 1000000 in
theorem rd_64_0 : rv_dj cX5_init rb_64 0 = true := by decide +kernel
set_option maxRecDepth 1000000 in
theorem rd_64_1 : rv_dj cX5_init rb_64 1 = true := by decide +kernel
theorem rd_64 : rv_DK (cX5_init, rb_64) := rv_dc_join 2 (fun j hj => by
  rcases (show j = 0 ∨ j = 1 by omega) with rfl | rfl
  · exact rd_64_0
  · exact rd_64_1) (by decide +kernel)
set_option maxRecDepth 1000000 in
theorem rd_65_0 : rv_dj cX5_isKeyWord rb_65 0 = true := by decide +kernel
theorem rd_65 : rv_DK (cX5_isKeyWord, rb_65) := rv_dc_join 1 (fun j hj => by rcases (show j = 0 by omega) with rfl; exact rd_65_0) (by decide +kernel)
set_option maxRecDepth 1000000 in
theorem rd_66_0 : rv_dj cX5_isSign rb_66 0 = true := by decide +kernel
theorem rd_66 : rv_DK (cX5_isSign, rb_66) := rv_dc_join 1 (fun j hj => by rcases (show j = 0 by omega) with rfl; exact rd_66_0) (by decide +kernel)
set_option maxRecDepth 1000000 in
theorem rd_67_0 : rv_dj cX5_isWord rb_67 0 = true := by decide +kernel
theorem rd_67 : rv_DK (cX5_isWord, rb_67) := rv_dc_join 1 (fun j hj => by rcases (show j = 0 by omega) with rfl; exact rd_67_0) (by decide +kernel)
set_option maxRecDepth 1000000 in
theorem rd_68_0 : rv_dj cX5_readAtom rb_68 0 = true := by decide +kernel
set_option maxRecDepth 1000000 in
theorem rd_68_1 : rv_dj cX5_readAtom rb_68 1 = true := by decide +kernel
set_option maxRecDepth 1000000 in
theorem rd_68_2 : rv_dj cX5_readAtom rb_68 2 = true := by decide +kernel
theorem rd_68 : rv_DK (cX5_readAtom, rb_68) := rv_dc_join 3 (fun j hj => by
  rcases (show j = 0 ∨ j = 1 ∨ j = 2 by omega) with rfl | rfl | rfl
  · exact rd_68_0
  · exact rd_68_1
  · exact rd_68_2) (by decide +kernel)
set_option maxRecDepth 1000000 in
theorem rd_69_0 : rv_dj cX5_readOne rb_69 0 = true := by decide +kernel
set_option maxRecDepth 1000000 in
theorem rd_69_1 : rv_dj cX5_readOne rb_69 1 = true := by decide +kernel
theorem rd_69 : rv_DK (cX5_readOne, rb_69) := rv_dc_join 2 (fun j hj => by
  rcases (show j = 0 ∨ j = 1 by omega) with rfl | rfl
  · exact rd_69_0
  · exact rd_69_1) (by decide +kernel)
set_option maxRecDepth 1000000 in
theorem rd_70_0 : rv_dj cX5_readSaying rb_70 0 = true := by decide +kernel
set_option maxRecDepth 1000000 in
theorem rd_70_1 : rv_dj cX5_readSaying rb_70 1 = true := by decide +kernel
theorem rd_70 : rv_DK (cX5_readSaying, rb_70) := rv_dc_join 2 (fun j hj => by
  rcases (show j = 0 ∨ j = 1 by omega) with rfl | rfl
  · exact rd_70_0
  · exact rd_70_1) (by decide +kernel)
set_option maxRecDepth 1000000 in
theorem rd_71_0 : rv_dj cX5_readSum rb_71 0 = true := by decide +kernel
set_option maxRecDepth 1000000 in
theorem rd_71_1 : rv_dj cX5_readSum rb_71 1 = true := by decide +kernel
theorem rd_71 : rv_DK (cX5_readSum, rb_71) := rv_dc_join 2 (fun j hj => by
  rcases (show j = 0 ∨ j = 1 by omega) with rfl | rfl
  · exact rd_71_0
  · exact rd_71_1) (by decide +kernel)
set_option maxRecDepth 1000000 in
theorem rd_72_0 : rv_dj cX5_readTest rb_72 0 = true := by decide +kernel
set_option maxRecDepth 1000000 in
theorem rd_72_1 : rv_dj cX5_readTest rb_72 1 = true := by decide +kernel
theorem rd_72 : rv_DK (cX5_readTest, rb_72) := rv_dc_join 2 (fun j hj => by
  rcases (show j = 0 ∨ j = 1 by omega) with rfl | rfl
  · exact rd_72_0
  · exact rd_72_1) (by decide +kernel)
set_option maxRecDepth 1000000 in
theorem rd_73_0 : rv_dj cX5_readText rb_73 0 = true := by decide +kernel
set_option maxRecDepth 1000000 in
theorem rd_73_1 : rv_dj cX5_readText rb_73 1 = true := by decide +kernel
theorem rd_73 : rv_DK (cX5_readText, rb_73) := rv_dc_join 2 (fun j hj => by
  rcases (show j = 0 ∨ j = 1 by omega) with rfl | rfl
  · exact rd_73_0
  · exact rd_73_1) (by decide +kernel)
set_option maxRecDepth 1000000 in
theorem rd_74_0 : rv_dj cX5_takeNumber rb_74 0 = true := by decide +kernel
set_option maxRecDepth 1000000 in
theorem rd_74_1 : rv_dj cX5_takeNumber rb_74 1 = true := by decide +kernel
theorem rd_74 : rv_DK (cX5_takeNumber, rb_74) := rv_dc_join 2 (fun j hj => by
  rcases (show j = 0 ∨ j = 1 by omega) with rfl | rfl
  · exact rd_74_0
  · exact rd_74_1) (by decide +kernel)
set_option maxRecDepth 1000000 in
theorem rd_75_0 : rv_dj cX5_takeToken rb_75 0 = true := by decide +kernel
set_option maxRecDepth 1000000 in
theorem rd_75_1 : rv_dj cX5_takeToken rb_75 1 = true := by decide +kernel
theorem rd_75 : rv_DK (cX5_takeToken, rb_75) := rv_dc_join 2 (fun j hj => by
  rcases (show j = 0 ∨ j = 1 by omega) with rfl | rfl
  · exact rd_75_0
  · exact rd_75_1) (by decide +kernel)
set_option maxRecDepth 1000000 in
theorem rd_76_0 : rv_dj cX5_takeWord rb_76 0 = true := by decide +kernel
set_option maxRecDepth 1000000 in
theorem rd_76_1 : rv_dj cX5_takeWord rb_76 1 = true := by decide +kernel
theorem rd_76 : rv_DK (cX5_takeWord, rb_76) := rv_dc_join 2 (fun j hj => by
  rcases (show j = 0 ∨ j = 1 by omega) with rfl | rfl
  · exact rd_76_0
  · exact rd_76_1) (by decide +kernel)
set_option maxRecDepth 1000000 in
theorem rd_77_0 : rv_dj cX6_areAlike rb_77 0 = true := by decide +kernel
theorem rd_77 : rv_DK (cX6_areAlike, rb_77) := rv_dc_join 1 (fun j hj => by rcases (show j = 0 by omega) with rfl; exact rd_77_0) (by decide +kernel)
set_option maxRecDepth 1000000 in
theorem rd_78_0 : rv_dj cX6_beginMends rb_78 0 = true := by decide +kernel
set_option maxRecDepth 1000000 in
theorem rd_78_1 : rv_dj cX6_beginMends rb_78 1 = true := by decide +kernel
theorem rd_78 : rv_DK (cX6_beginMends, rb_78) := rv_dc_join 2 (fun j hj => by
  rcases (show j = 0 ∨ j = 1 by omega) with rfl | rfl
  · exact rd_78_0
  · exact rd_78_1) (by decide +kernel)
set_option maxRecDepth 1000000 in
theorem rd_79_0 : rv_dj cX6_beginPeace rb_79 0 = true := by decide +kernel
theorem rd_79 : rv_DK (cX6_beginPeace, rb_79) := rv_dc_join 1 (fun j hj => by rcases (show j = 0 by omega) with rfl; exact rd_79_0) (by decide +kernel)
set_option maxRecDepth 1000000 in
theorem rd_80_0 : rv_dj cX6_breaksOf rb_80 0 = true := by decide +kernel
theorem rd_80 : rv_DK (cX6_breaksOf, rb_80) := rv_dc_join 1 (fun j hj => by rcases (show j = 0 by omega) with rfl; exact rd_80_0) (by decide +kernel)
set_option maxRecDepth 1000000 in
theorem rd_81_0 : rv_dj cX6_forget rb_81 0 = true := by decide +kernel
theorem rd_81 : rv_DK (cX6_forget, rb_81) := rv_dc_join 1 (fun j hj => by rcases (show j = 0 by omega) with rfl; exact rd_81_0) (by decide +kernel)
set_option maxRecDepth 1000000 in
theorem rd_82_0 : rv_dj cX6_greatestWithin rb_82 0 = true := by decide +kernel
set_option maxRecDepth 1000000 in
theorem rd_82_1 : rv_dj cX6_greatestWithin rb_82 1 = true := by decide +kernel
theorem rd_82 : rv_DK (cX6_greatestWithin, rb_82) := rv_dc_join 2 (fun j hj => by
  rcases (show j = 0 ∨ j = 1 by omega) with rfl | rfl
  · exact rd_82_0
  · exact rd_82_1) (by decide +kernel)
set_option maxRecDepth 1000000 in
theorem rd_83_0 : rv_dj cX6_init rb_83 0 = true := by decide +kernel
set_option maxRecDepth 1000000 in
theorem rd_83_1 : rv_dj cX6_init rb_83 1 = true := by decide +kernel
theorem rd_83 : rv_DK (cX6_init, rb_83) := rv_dc_join 2 (fun j hj => by
  rcases (show j = 0 ∨ j = 1 by omega) with rfl | rfl
  · exact rd_83_0
  · exact rd_83_1) (by decide +kernel)
set_option maxRecDepth 1000000 in
theorem rd_84_0 : rv_dj cX6_keepGone rb_84 0 = true := by decide +kernel
theorem rd_84 : rv_DK (cX6_keepGone, rb_84) := rv_dc_join 1 (fun j hj => by rcases (show j = 0 by omega) with rfl; exact rd_84_0) (by decide +kernel)
set_option maxRecDepth 1000000 in
theorem rd_85_0 : rv_dj cX6_leastToBear rb_85 0 = true := by decide +kernel
set_option maxRecDepth 1000000 in
theorem rd_85_1 : rv_dj cX6_leastToBear rb_85 1 = true := by decide +kernel
theorem rd_85 : rv_DK (cX6_leastToBear, rb_85) := rv_dc_join 2 (fun j hj => by
  rcases (show j = 0 ∨ j = 1 by omega) with rfl | rfl
  · exact rd_85_0
  · exact rd_85_1) (by decide +kernel)
set_option maxRecDepth 1000000 in
theorem rd_86_0 : rv_dj cX6_movedFrom rb_86 0 = true := by decide +kernel
set_option maxRecDepth 1000000 in
theorem rd_86_1 : rv_dj cX6_movedFrom rb_86 1 = true := by decide +kernel
theorem rd_86 : rv_DK (cX6_movedFrom, rb_86) := rv_dc_join 2 (fun j hj => by
  rcases (show j = 0 ∨ j = 1 by omega) with rfl | rfl
  · exact rd_86_0
  · exact rd_86_1) (by decide +kernel)
