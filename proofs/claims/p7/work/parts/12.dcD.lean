set_option maxRecDepth 1000000 in
theorem rd_87_0 : rv_dj cX6_nextPeace rb_87 0 = true := by decide +kernel
theorem rd_87 : rv_DK (cX6_nextPeace, rb_87) := rv_dc_join 1 (fun j hj => by rcases (show j = 0 by omega) with rfl; exact rd_87_0) (by decide +kernel)
set_option maxRecDepth 1000000 in
theorem rd_88_0 : rv_dj cX6_noteMend rb_88 0 = true := by decide +kernel
theorem rd_88 : rv_DK (cX6_noteMend, rb_88) := rv_dc_join 1 (fun j hj => by rcases (show j = 0 by omega) with rfl; exact rd_88_0) (by decide +kernel)
set_option maxRecDepth 1000000 in
theorem rd_89_0 : rv_dj cX6_putBack rb_89 0 = true := by decide +kernel
theorem rd_89 : rv_DK (cX6_putBack, rb_89) := rv_dc_join 1 (fun j hj => by rcases (show j = 0 by omega) with rfl; exact rd_89_0) (by decide +kernel)
set_option maxRecDepth 1000000 in
theorem rd_90_0 : rv_dj cX6_seekNear rb_90 0 = true := by decide +kernel
set_option maxRecDepth 1000000 in
theorem rd_90_1 : rv_dj cX6_seekNear rb_90 1 = true := by decide +kernel
theorem rd_90 : rv_DK (cX6_seekNear, rb_90) := rv_dc_join 2 (fun j hj => by
  rcases (show j = 0 ∨ j = 1 by omega) with rfl | rfl
  · exact rd_90_0
  · exact rd_90_1) (by decide +kernel)
set_option maxRecDepth 1000000 in
theorem rd_91_0 : rv_dj cX6_settleWithout rb_91 0 = true := by decide +kernel
set_option maxRecDepth 1000000 in
theorem rd_91_1 : rv_dj cX6_settleWithout rb_91 1 = true := by decide +kernel
theorem rd_91 : rv_DK (cX6_settleWithout, rb_91) := rv_dc_join 2 (fun j hj => by
  rcases (show j = 0 ∨ j = 1 by omega) with rfl | rfl
  · exact rd_91_0
  · exact rd_91_1) (by decide +kernel)
set_option maxRecDepth 1000000 in
theorem rd_92_0 : rv_dj cX6_smallestKnot rb_92 0 = true := by decide +kernel
set_option maxRecDepth 1000000 in
theorem rd_92_1 : rv_dj cX6_smallestKnot rb_92 1 = true := by decide +kernel
theorem rd_92 : rv_DK (cX6_smallestKnot, rb_92) := rv_dc_join 2 (fun j hj => by
  rcases (show j = 0 ∨ j = 1 by omega) with rfl | rfl
  · exact rd_92_0
  · exact rd_92_1) (by decide +kernel)
set_option maxRecDepth 1000000 in
theorem rd_93_0 : rv_dj cX6_takeGreatest rb_93 0 = true := by decide +kernel
set_option maxRecDepth 1000000 in
theorem rd_93_1 : rv_dj cX6_takeGreatest rb_93 1 = true := by decide +kernel
theorem rd_93 : rv_DK (cX6_takeGreatest, rb_93) := rv_dc_join 2 (fun j hj => by
  rcases (show j = 0 ∨ j = 1 by omega) with rfl | rfl
  · exact rd_93_0
  · exact rd_93_1) (by decide +kernel)
set_option maxRecDepth 1000000 in
theorem rd_94_0 : rv_dj cX6_takeOut rb_94 0 = true := by decide +kernel
theorem rd_94 : rv_DK (cX6_takeOut, rb_94) := rv_dc_join 1 (fun j hj => by rcases (show j = 0 by omega) with rfl; exact rd_94_0) (by decide +kernel)
set_option maxRecDepth 1000000 in
theorem rd_95_0 : rv_dj cX6_tryPeople rb_95 0 = true := by decide +kernel
theorem rd_95 : rv_DK (cX6_tryPeople, rb_95) := rv_dc_join 1 (fun j hj => by rcases (show j = 0 by omega) with rfl; exact rd_95_0) (by decide +kernel)
set_option maxRecDepth 1000000 in
theorem rd_96_0 : rv_dj cX6_trySizes rb_96 0 = true := by decide +kernel
theorem rd_96 : rv_DK (cX6_trySizes, rb_96) := rv_dc_join 1 (fun j hj => by rcases (show j = 0 by omega) with rfl; exact rd_96_0) (by decide +kernel)
set_option maxRecDepth 1000000 in
theorem rd_97_0 : rv_dj cX6_tryWords rb_97 0 = true := by decide +kernel
set_option maxRecDepth 1000000 in
theorem rd_97_1 : rv_dj cX6_tryWords rb_97 1 = true := by decide +kernel
theorem rd_97 : rv_DK (cX6_tryWords, rb_97) := rv_dc_join 2 (fun j hj => by
  rcases (show j = 0 ∨ j = 1 by omega) with rfl | rfl
  · exact rd_97_0
  · exact rd_97_1) (by decide +kernel)
set_option maxRecDepth 1000000 in
theorem rd_98_0 : rv_dj cX6_weighGain rb_98 0 = true := by decide +kernel
set_option maxRecDepth 1000000 in
theorem rd_98_1 : rv_dj cX6_weighGain rb_98 1 = true := by decide +kernel
theorem rd_98 : rv_DK (cX6_weighGain, rb_98) := rv_dc_join 2 (fun j hj => by
  rcases (show j = 0 ∨ j = 1 by omega) with rfl | rfl
  · exact rd_98_0
  · exact rd_98_1) (by decide +kernel)
set_option maxRecDepth 1000000 in
theorem rd_99_0 : rv_dj cX7_cut rb_99 0 = true := by decide +kernel
theorem rd_99 : rv_DK (cX7_cut, rb_99) := rv_dc_join 1 (fun j hj => by rcases (show j = 0 by omega) with rfl; exact rd_99_0) (by decide +kernel)
set_option maxRecDepth 1000000 in
theorem rd_100_0 : rv_dj cX7_has rb_100 0 = true := by decide +kernel
theorem rd_100 : rv_DK (cX7_has, rb_100) := rv_dc_join 1 (fun j hj => by rcases (show j = 0 by omega) with rfl; exact rd_100_0) (by decide +kernel)
set_option maxRecDepth 1000000 in
theorem rd_101_0 : rv_dj cX7_init rb_101 0 = true := by decide +kernel
theorem rd_101 : rv_DK (cX7_init, rb_101) := rv_dc_join 1 (fun j hj => by rcases (show j = 0 by omega) with rfl; exact rd_101_0) (by decide +kernel)
set_option maxRecDepth 1000000 in
theorem rd_102_0 : rv_dj cX7_isMissing rb_102 0 = true := by decide +kernel
theorem rd_102 : rv_DK (cX7_isMissing, rb_102) := rv_dc_join 1 (fun j hj => by rcases (show j = 0 by omega) with rfl; exact rd_102_0) (by decide +kernel)
set_option maxRecDepth 1000000 in
theorem rd_103_0 : rv_dj cX7_lay rb_103 0 = true := by decide +kernel
theorem rd_103 : rv_DK (cX7_lay, rb_103) := rv_dc_join 1 (fun j hj => by rcases (show j = 0 by omega) with rfl; exact rd_103_0) (by decide +kernel)
set_option maxRecDepth 1000000 in
theorem rd_104_0 : rv_dj cX7_put rb_104 0 = true := by decide +kernel
theorem rd_104 : rv_DK (cX7_put, rb_104) := rv_dc_join 1 (fun j hj => by rcases (show j = 0 by omega) with rfl; exact rd_104_0) (by decide +kernel)
set_option maxRecDepth 1000000 in
theorem rd_105_0 : rv_dj cX8_beginTest rb_105 0 = true := by decide +kernel
theorem rd_105 : rv_DK (cX8_beginTest, rb_105) := rv_dc_join 1 (fun j hj => by rcases (show j = 0 by omega) with rfl; exact rd_105_0) (by decide +kernel)
set_option maxRecDepth 1000000 in
theorem rd_106_0 : rv_dj cX8_clear rb_106 0 = true := by decide +kernel
theorem rd_106 : rv_DK (cX8_clear, rb_106) := rv_dc_join 1 (fun j hj => by rcases (show j = 0 by omega) with rfl; exact rd_106_0) (by decide +kernel)
set_option maxRecDepth 1000000 in
theorem rd_107_0 : rv_dj cX8_emit rb_107 0 = true := by decide +kernel
theorem rd_107 : rv_DK (cX8_emit, rb_107) := rv_dc_join 1 (fun j hj => by rcases (show j = 0 by omega) with rfl; exact rd_107_0) (by decide +kernel)
set_option maxRecDepth 1000000 in
theorem rd_108_0 : rv_dj cX8_endSaying rb_108 0 = true := by decide +kernel
theorem rd_108 : rv_DK (cX8_endSaying, rb_108) := rv_dc_join 1 (fun j hj => by rcases (show j = 0 by omega) with rfl; exact rd_108_0) (by decide +kernel)
set_option maxRecDepth 1000000 in
theorem rd_109_0 : rv_dj cX8_holds rb_109 0 = true := by decide +kernel
theorem rd_109 : rv_DK (cX8_holds, rb_109) := rv_dc_join 1 (fun j hj => by rcases (show j = 0 by omega) with rfl; exact rd_109_0) (by decide +kernel)
set_option maxRecDepth 1000000 in
theorem rd_110_0 : rv_dj cX8_init rb_110 0 = true := by decide +kernel
theorem rd_110 : rv_DK (cX8_init, rb_110) := rv_dc_join 1 (fun j hj => by rcases (show j = 0 by omega) with rfl; exact rd_110_0) (by decide +kernel)
set_option maxRecDepth 1000000 in
theorem rd_111_0 : rv_dj cX8_isBar rb_111 0 = true := by decide +kernel
theorem rd_111 : rv_DK (cX8_isBar, rb_111) := rv_dc_join 1 (fun j hj => by rcases (show j = 0 by omega) with rfl; exact rd_111_0) (by decide +kernel)
set_option maxRecDepth 1000000 in
theorem rd_112_0 : rv_dj cX8_join rb_112 0 = true := by decide +kernel
set_option maxRecDepth 1000000 in
theorem rd_112_1 : rv_dj cX8_join rb_112 1 = true := by decide +kernel
theorem rd_112 : rv_DK (cX8_join, rb_112) := rv_dc_join 2 (fun j hj => by
  rcases (show j = 0 ∨ j = 1 by omega) with rfl | rfl
  · exact rd_112_0
  · exact rd_112_1) (by decide +kernel)
set_option maxRecDepth 1000000 in
theorem rd_113_0 : rv_dj cX8_share rb_113 0 = true := by decide +kernel
theorem rd_113 : rv_DK (cX8_share, rb_113) := rv_dc_join 1 (fun j hj => by rcases (show j = 0 by omega) with rfl; exact rd_113_0) (by decide +kernel)
set_option maxRecDepth 1000000 in
theorem rd_114_0 : rv_dj cX8_work rb_114 0 = true := by decide +kernel
set_option maxRecDepth 1000000 in
theorem rd_114_1 : rv_dj cX8_work rb_114 1 = true := by decide +kernel
set_option maxRecDepth 1000000 in
theorem rd_114_2 : rv_dj cX8_work rb_114 2 = true := by decide +kernel
theorem rd_114 : rv_DK (cX8_work, rb_114) := rv_dc_join 3 (fun j hj => by
  rcases (show j = 0 ∨ j = 1 ∨ j = 2 by omega) with rfl | rfl | rfl
  · exact rd_114_0
  · exact rd_114_1
  · exact rd_114_2) (by decide +kernel)
set_option maxRecDepth 1000000 in
theorem rd_115_0 : rv_dj cX9_aim rb_115 0 = true := by decide +kernel
set_option maxRecDepth 1000000 in
theorem rd_115_1 : rv_dj cX9_aim rb_115 1 = true := by decide +kernel
set_option maxRecDepth 1000000 in
theorem rd_115_2 : rv_dj cX9_aim rb_115 2 = true := by decide +kernel
theorem rd_115 : rv_DK (cX9_aim, rb_115) := rv_dc_join 3 (fun j hj => by
  rcases (show j = 0 ∨ j = 1 ∨ j = 2 by omega) with rfl | rfl | rfl
  · exact rd_115_0
  · exact rd_115_1
  · exact rd_115_2) (by decide +kernel)
set_option maxRecDepth 1000000 in
theorem rd_116_0 : rv_dj cX9_init rb_116 0 = true := by decide +kernel
set_option maxRecDepth 1000000 in
theorem rd_116_1 : rv_dj cX9_init rb_116 1 = true := by decide +kernel
theorem rd_116 : rv_DK (cX9_init, rb_116) := rv_dc_join 2 (fun j hj => by
  rcases (show j = 0 ∨ j = 1 by omega) with rfl | rfl
  · exact rd_116_0
  · exact rd_116_1) (by decide +kernel)
set_option maxRecDepth 1000000 in
theorem rd_117_0 : rv_dj cX9_isAllAlike rb_117 0 = true := by decide +kernel
theorem rd_117 : rv_DK (cX9_isAllAlike, rb_117) := rv_dc_join 1 (fun j hj => by rcases (show j = 0 by omega) with rfl; exact rd_117_0) (by decide +kernel)
set_option maxRecDepth 1000000 in
theorem rd_118_0 : rv_dj cX9_isQuiet rb_118 0 = true := by decide +kernel
set_option maxRecDepth 1000000 in
theorem rd_118_1 : rv_dj cX9_isQuiet rb_118 1 = true := by decide +kernel
set_option maxRecDepth 1000000 in
theorem rd_118_2 : rv_dj cX9_isQuiet rb_118 2 = true := by decide +kernel
theorem rd_118 : rv_DK (cX9_isQuiet, rb_118) := rv_dc_join 3 (fun j hj => by
  rcases (show j = 0 ∨ j = 1 ∨ j = 2 by omega) with rfl | rfl | rfl
  · exact rd_118_0
  · exact rd_118_1
  · exact rd_118_2) (by decide +kernel)
