set_option maxRecDepth 1000000 in
theorem rd_59_0 : rv_dj cX10_weigh rb_59 0 = true := by decide +kernel
set_option maxRecDepth 1000000 in
theorem rd_59_1 : rv_dj cX10_weigh rb_59 1 = true := by decide +kernel
theorem rd_59 : rv_DK (cX10_weigh, rb_59) := rv_dc_join 2 (fun j hj => by
  rcases (show j = 0 ∨ j = 1 by omega) with rfl | rfl
  · exact rd_59_0
  · exact rd_59_1) (by decide +kernel)
set_option maxRecDepth 1000000 in
theorem rd_60_0 : rv_dj cX11_answer rb_60 0 = true := by decide +kernel
theorem rd_60 : rv_DK (cX11_answer, rb_60) := rv_dc_join 1 (fun j hj => by rcases (show j = 0 by omega) with rfl; exact rd_60_0) (by decide +kernel)
set_option maxRecDepth 1000000 in
theorem rd_61_0 : rv_dj cX11_bars rb_61 0 = true := by decide +kernel
theorem rd_61 : rv_DK (cX11_bars, rb_61) := rv_dc_join 1 (fun j hj => by rcases (show j = 0 by omega) with rfl; exact rd_61_0) (by decide +kernel)
set_option maxRecDepth 1000000 in
theorem rd_62_0 : rv_dj cX11_bear rb_62 0 = true := by decide +kernel
theorem rd_62 : rv_DK (cX11_bear, rb_62) := rv_dc_join 1 (fun j hj => by rcases (show j = 0 by omega) with rfl; exact rd_62_0) (by decide +kernel)
set_option maxRecDepth 1000000 in
theorem rd_63_0 : rv_dj cX11_breaks rb_63 0 = true := by decide +kernel
theorem rd_63 : rv_DK (cX11_breaks, rb_63) := rv_dc_join 1 (fun j hj => by rcases (show j = 0 by omega) with rfl; exact rd_63_0) (by decide +kernel)
set_option maxRecDepth 1000000 in
theorem rd_64_0 : rv_dj cX11_count rb_64 0 = true := by decide +kernel
theorem rd_64 : rv_DK (cX11_count, rb_64) := rv_dc_join 1 (fun j hj => by rcases (show j = 0 by omega) with rfl; exact rd_64_0) (by decide +kernel)
set_option maxRecDepth 1000000 in
theorem rd_65_0 : rv_dj cX11_fault rb_65 0 = true := by decide +kernel
theorem rd_65 : rv_DK (cX11_fault, rb_65) := rv_dc_join 1 (fun j hj => by rcases (show j = 0 by omega) with rfl; exact rd_65_0) (by decide +kernel)
set_option maxRecDepth 1000000 in
theorem rd_66_0 : rv_dj cX11_feed rb_66 0 = true := by decide +kernel
theorem rd_66 : rv_DK (cX11_feed, rb_66) := rv_dc_join 1 (fun j hj => by rcases (show j = 0 by omega) with rfl; exact rd_66_0) (by decide +kernel)
set_option maxRecDepth 1000000 in
theorem rd_67_0 : rv_dj cX11_first rb_67 0 = true := by decide +kernel
set_option maxRecDepth 1000000 in
theorem rd_67_1 : rv_dj cX11_first rb_67 1 = true := by decide +kernel
theorem rd_67 : rv_DK (cX11_first, rb_67) := rv_dc_join 2 (fun j hj => by
  rcases (show j = 0 ∨ j = 1 by omega) with rfl | rfl
  · exact rd_67_0
  · exact rd_67_1) (by decide +kernel)
set_option maxRecDepth 1000000 in
theorem rd_68_0 : rv_dj cX11_forget rb_68 0 = true := by decide +kernel
theorem rd_68 : rv_DK (cX11_forget, rb_68) := rv_dc_join 1 (fun j hj => by rcases (show j = 0 by omega) with rfl; exact rd_68_0) (by decide +kernel)
set_option maxRecDepth 1000000 in
theorem rd_69_0 : rv_dj cX11_gain rb_69 0 = true := by decide +kernel
theorem rd_69 : rv_DK (cX11_gain, rb_69) := rv_dc_join 1 (fun j hj => by rcases (show j = 0 by omega) with rfl; exact rd_69_0) (by decide +kernel)
set_option maxRecDepth 1000000 in
theorem rd_70_0 : rv_dj cX11_goes rb_70 0 = true := by decide +kernel
theorem rd_70 : rv_DK (cX11_goes, rb_70) := rv_dc_join 1 (fun j hj => by rcases (show j = 0 by omega) with rfl; exact rd_70_0) (by decide +kernel)
set_option maxRecDepth 1000000 in
theorem rd_71_0 : rv_dj cX11_gone rb_71 0 = true := by decide +kernel
theorem rd_71 : rv_DK (cX11_gone, rb_71) := rv_dc_join 1 (fun j hj => by rcases (show j = 0 by omega) with rfl; exact rd_71_0) (by decide +kernel)
set_option maxRecDepth 1000000 in
theorem rd_72_0 : rv_dj cX11_granted rb_72 0 = true := by decide +kernel
theorem rd_72 : rv_DK (cX11_granted, rb_72) := rv_dc_join 1 (fun j hj => by rcases (show j = 0 by omega) with rfl; exact rd_72_0) (by decide +kernel)
set_option maxRecDepth 1000000 in
theorem rd_73_0 : rv_dj cX11_greedy rb_73 0 = true := by decide +kernel
theorem rd_73 : rv_DK (cX11_greedy, rb_73) := rv_dc_join 1 (fun j hj => by rcases (show j = 0 by omega) with rfl; exact rd_73_0) (by decide +kernel)
set_option maxRecDepth 1000000 in
theorem rd_74_0 : rv_dj cX11_init rb_74 0 = true := by decide +kernel
set_option maxRecDepth 1000000 in
theorem rd_74_1 : rv_dj cX11_init rb_74 1 = true := by decide +kernel
set_option maxRecDepth 1000000 in
theorem rd_74_2 : rv_dj cX11_init rb_74 2 = true := by decide +kernel
theorem rd_74 : rv_DK (cX11_init, rb_74) := rv_dc_join 3 (fun j hj => by
  rcases (show j = 0 ∨ j = 1 ∨ j = 2 by omega) with rfl | rfl | rfl
  · exact rd_74_0
  · exact rd_74_1
  · exact rd_74_2) (by decide +kernel)
set_option maxRecDepth 1000000 in
theorem rd_75_0 : rv_dj cX11_isKind rb_75 0 = true := by decide +kernel
theorem rd_75 : rv_DK (cX11_isKind, rb_75) := rv_dc_join 1 (fun j hj => by rcases (show j = 0 by omega) with rfl; exact rd_75_0) (by decide +kernel)
set_option maxRecDepth 1000000 in
theorem rd_76_0 : rv_dj cX11_isTray rb_76 0 = true := by decide +kernel
theorem rd_76 : rv_DK (cX11_isTray, rb_76) := rv_dc_join 1 (fun j hj => by rcases (show j = 0 by omega) with rfl; exact rd_76_0) (by decide +kernel)
set_option maxRecDepth 1000000 in
theorem rd_77_0 : rv_dj cX11_knot rb_77 0 = true := by decide +kernel
theorem rd_77 : rv_DK (cX11_knot, rb_77) := rv_dc_join 1 (fun j hj => by rcases (show j = 0 by omega) with rfl; exact rd_77_0) (by decide +kernel)
set_option maxRecDepth 1000000 in
theorem rd_78_0 : rv_dj cX11_lawful rb_78 0 = true := by decide +kernel
theorem rd_78 : rv_DK (cX11_lawful, rb_78) := rv_dc_join 1 (fun j hj => by rcases (show j = 0 by omega) with rfl; exact rd_78_0) (by decide +kernel)
set_option maxRecDepth 1000000 in
theorem rd_79_0 : rv_dj cX11_mend rb_79 0 = true := by decide +kernel
set_option maxRecDepth 1000000 in
theorem rd_79_1 : rv_dj cX11_mend rb_79 1 = true := by decide +kernel
theorem rd_79 : rv_DK (cX11_mend, rb_79) := rv_dc_join 2 (fun j hj => by
  rcases (show j = 0 ∨ j = 1 by omega) with rfl | rfl
  · exact rd_79_0
  · exact rd_79_1) (by decide +kernel)
set_option maxRecDepth 1000000 in
theorem rd_80_0 : rv_dj cX11_must rb_80 0 = true := by decide +kernel
theorem rd_80 : rv_DK (cX11_must, rb_80) := rv_dc_join 1 (fun j hj => by rcases (show j = 0 by omega) with rfl; exact rd_80_0) (by decide +kernel)
set_option maxRecDepth 1000000 in
theorem rd_81_0 : rv_dj cX11_near rb_81 0 = true := by decide +kernel
theorem rd_81 : rv_DK (cX11_near, rb_81) := rv_dc_join 1 (fun j hj => by rcases (show j = 0 by omega) with rfl; exact rd_81_0) (by decide +kernel)
set_option maxRecDepth 1000000 in
theorem rd_82_0 : rv_dj cX11_nearRoom rb_82 0 = true := by decide +kernel
theorem rd_82 : rv_DK (cX11_nearRoom, rb_82) := rv_dc_join 1 (fun j hj => by rcases (show j = 0 by omega) with rfl; exact rd_82_0) (by decide +kernel)
set_option maxRecDepth 1000000 in
theorem rd_83_0 : rv_dj cX11_none rb_83 0 = true := by decide +kernel
theorem rd_83 : rv_DK (cX11_none, rb_83) := rv_dc_join 1 (fun j hj => by rcases (show j = 0 by omega) with rfl; exact rd_83_0) (by decide +kernel)
set_option maxRecDepth 1000000 in
theorem rd_84_0 : rv_dj cX11_person rb_84 0 = true := by decide +kernel
set_option maxRecDepth 1000000 in
theorem rd_84_1 : rv_dj cX11_person rb_84 1 = true := by decide +kernel
theorem rd_84 : rv_DK (cX11_person, rb_84) := rv_dc_join 2 (fun j hj => by
  rcases (show j = 0 ∨ j = 1 by omega) with rfl | rfl
  · exact rd_84_0
  · exact rd_84_1) (by decide +kernel)
set_option maxRecDepth 1000000 in
theorem rd_85_0 : rv_dj cX11_placeTrouble rb_85 0 = true := by decide +kernel
theorem rd_85 : rv_DK (cX11_placeTrouble, rb_85) := rv_dc_join 1 (fun j hj => by rcases (show j = 0 by omega) with rfl; exact rd_85_0) (by decide +kernel)
set_option maxRecDepth 1000000 in
theorem rd_86_0 : rv_dj cX11_pour rb_86 0 = true := by decide +kernel
set_option maxRecDepth 1000000 in
theorem rd_86_1 : rv_dj cX11_pour rb_86 1 = true := by decide +kernel
theorem rd_86 : rv_DK (cX11_pour, rb_86) := rv_dc_join 2 (fun j hj => by
  rcases (show j = 0 ∨ j = 1 by omega) with rfl | rfl
  · exact rd_86_0
  · exact rd_86_1) (by decide +kernel)
set_option maxRecDepth 1000000 in
theorem rd_87_0 : rv_dj cX11_ran rb_87 0 = true := by decide +kernel
set_option maxRecDepth 1000000 in
theorem rd_87_1 : rv_dj cX11_ran rb_87 1 = true := by decide +kernel
theorem rd_87 : rv_DK (cX11_ran, rb_87) := rv_dc_join 2 (fun j hj => by
  rcases (show j = 0 ∨ j = 1 by omega) with rfl | rfl
  · exact rd_87_0
  · exact rd_87_1) (by decide +kernel)
set_option maxRecDepth 1000000 in
theorem rd_88_0 : rv_dj cX11_rather rb_88 0 = true := by decide +kernel
theorem rd_88 : rv_DK (cX11_rather, rb_88) := rv_dc_join 1 (fun j hj => by rcases (show j = 0 by omega) with rfl; exact rd_88_0) (by decide +kernel)
set_option maxRecDepth 1000000 in
theorem rd_89_0 : rv_dj cX11_read rb_89 0 = true := by decide +kernel
theorem rd_89 : rv_DK (cX11_read, rb_89) := rv_dc_join 1 (fun j hj => by rcases (show j = 0 by omega) with rfl; exact rd_89_0) (by decide +kernel)
set_option maxRecDepth 1000000 in
theorem rd_90_0 : rv_dj cX11_refused rb_90 0 = true := by decide +kernel
theorem rd_90 : rv_DK (cX11_refused, rb_90) := rv_dc_join 1 (fun j hj => by rcases (show j = 0 by omega) with rfl; exact rd_90_0) (by decide +kernel)
set_option maxRecDepth 1000000 in
theorem rd_91_0 : rv_dj cX11_room rb_91 0 = true := by decide +kernel
theorem rd_91 : rv_DK (cX11_room, rb_91) := rv_dc_join 1 (fun j hj => by rcases (show j = 0 by omega) with rfl; exact rd_91_0) (by decide +kernel)
set_option maxRecDepth 1000000 in
theorem rd_92_0 : rv_dj cX11_run rb_92 0 = true := by decide +kernel
theorem rd_92 : rv_DK (cX11_run, rb_92) := rv_dc_join 1 (fun j hj => by rcases (show j = 0 by omega) with rfl; exact rd_92_0) (by decide +kernel)
set_option maxRecDepth 1000000 in
theorem rd_93_0 : rv_dj cX11_sizes rb_93 0 = true := by decide +kernel
theorem rd_93 : rv_DK (cX11_sizes, rb_93) := rv_dc_join 1 (fun j hj => by rcases (show j = 0 by omega) with rfl; exact rd_93_0) (by decide +kernel)
set_option maxRecDepth 1000000 in
theorem rd_94_0 : rv_dj cX11_sort rb_94 0 = true := by decide +kernel
theorem rd_94 : rv_DK (cX11_sort, rb_94) := rv_dc_join 1 (fun j hj => by rcases (show j = 0 by omega) with rfl; exact rd_94_0) (by decide +kernel)
set_option maxRecDepth 1000000 in
theorem rd_95_0 : rv_dj cX11_status rb_95 0 = true := by decide +kernel
theorem rd_95 : rv_DK (cX11_status, rb_95) := rv_dc_join 1 (fun j hj => by rcases (show j = 0 by omega) with rfl; exact rd_95_0) (by decide +kernel)
