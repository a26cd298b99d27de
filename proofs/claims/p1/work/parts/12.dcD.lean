set_option maxRecDepth 1000000 in
theorem rd_96_0 : rv_dj cX11_step rb_96 0 = true := by decide +kernel
theorem rd_96 : rv_DK (cX11_step, rb_96) := rv_dc_join 1 (fun j hj => by rcases (show j = 0 by omega) with rfl; exact rd_96_0) (by decide +kernel)
set_option maxRecDepth 1000000 in
theorem rd_97_0 : rv_dj cX11_sum rb_97 0 = true := by decide +kernel
theorem rd_97 : rv_DK (cX11_sum, rb_97) := rv_dc_join 1 (fun j hj => by rcases (show j = 0 by omega) with rfl; exact rd_97_0) (by decide +kernel)
set_option maxRecDepth 1000000 in
theorem rd_98_0 : rv_dj cX11_together rb_98 0 = true := by decide +kernel
theorem rd_98 : rv_DK (cX11_together, rb_98) := rv_dc_join 1 (fun j hj => by rcases (show j = 0 by omega) with rfl; exact rd_98_0) (by decide +kernel)
set_option maxRecDepth 1000000 in
theorem rd_99_0 : rv_dj cX11_toldTrouble rb_99 0 = true := by decide +kernel
theorem rd_99 : rv_DK (cX11_toldTrouble, rb_99) := rv_dc_join 1 (fun j hj => by rcases (show j = 0 by omega) with rfl; exact rd_99_0) (by decide +kernel)
set_option maxRecDepth 1000000 in
theorem rd_100_0 : rv_dj cX11_tray rb_100 0 = true := by decide +kernel
theorem rd_100 : rv_DK (cX11_tray, rb_100) := rv_dc_join 1 (fun j hj => by rcases (show j = 0 by omega) with rfl; exact rd_100_0) (by decide +kernel)
set_option maxRecDepth 1000000 in
theorem rd_101_0 : rv_dj cX11_week rb_101 0 = true := by decide +kernel
theorem rd_101 : rv_DK (cX11_week, rb_101) := rv_dc_join 1 (fun j hj => by rcases (show j = 0 by omega) with rfl; exact rd_101_0) (by decide +kernel)
set_option maxRecDepth 1000000 in
theorem rd_102_0 : rv_dj cX11_weeks rb_102 0 = true := by decide +kernel
theorem rd_102 : rv_DK (cX11_weeks, rb_102) := rv_dc_join 1 (fun j hj => by rcases (show j = 0 by omega) with rfl; exact rd_102_0) (by decide +kernel)
set_option maxRecDepth 1000000 in
theorem rd_103_0 : rv_dj cX11_wish rb_103 0 = true := by decide +kernel
set_option maxRecDepth 1000000 in
theorem rd_103_1 : rv_dj cX11_wish rb_103 1 = true := by decide +kernel
theorem rd_103 : rv_DK (cX11_wish, rb_103) := rv_dc_join 2 (fun j hj => by
  rcases (show j = 0 ∨ j = 1 by omega) with rfl | rfl
  · exact rd_103_0
  · exact rd_103_1) (by decide +kernel)
set_option maxRecDepth 1000000 in
theorem rd_104_0 : rv_dj cX11_worth rb_104 0 = true := by decide +kernel
theorem rd_104 : rv_DK (cX11_worth, rb_104) := rv_dc_join 1 (fun j hj => by rcases (show j = 0 by omega) with rfl; exact rd_104_0) (by decide +kernel)
set_option maxRecDepth 1000000 in
theorem rd_105_0 : rv_dj cX11_write rb_105 0 = true := by decide +kernel
theorem rd_105 : rv_DK (cX11_write, rb_105) := rv_dc_join 1 (fun j hj => by rcases (show j = 0 by omega) with rfl; exact rd_105_0) (by decide +kernel)
set_option maxRecDepth 1000000 in
theorem rd_106_0 : rv_dj cX12_areAlike rb_106 0 = true := by decide +kernel
set_option maxRecDepth 1000000 in
theorem rd_106_1 : rv_dj cX12_areAlike rb_106 1 = true := by decide +kernel
theorem rd_106 : rv_DK (cX12_areAlike, rb_106) := rv_dc_join 2 (fun j hj => by
  rcases (show j = 0 ∨ j = 1 by omega) with rfl | rfl
  · exact rd_106_0
  · exact rd_106_1) (by decide +kernel)
set_option maxRecDepth 1000000 in
theorem rd_107_0 : rv_dj cX12_areFriends rb_107 0 = true := by decide +kernel
set_option maxRecDepth 1000000 in
theorem rd_107_1 : rv_dj cX12_areFriends rb_107 1 = true := by decide +kernel
set_option maxRecDepth 1000000 in
theorem rd_107_2 : rv_dj cX12_areFriends rb_107 2 = true := by decide +kernel
set_option maxRecDepth 1000000 in
theorem rd_107_3 : rv_dj cX12_areFriends rb_107 3 = true := by decide +kernel
theorem rd_107 : rv_DK (cX12_areFriends, rb_107) := rv_dc_join 4 (fun j hj => by
  rcases (show j = 0 ∨ j = 1 ∨ j = 2 ∨ j = 3 by omega) with rfl | rfl | rfl | rfl
  · exact rd_107_0
  · exact rd_107_1
  · exact rd_107_2
  · exact rd_107_3) (by decide +kernel)
set_option maxRecDepth 1000000 in
theorem rd_108_0 : rv_dj cX12_areLawful rb_108 0 = true := by decide +kernel
theorem rd_108 : rv_DK (cX12_areLawful, rb_108) := rv_dc_join 1 (fun j hj => by rcases (show j = 0 by omega) with rfl; exact rd_108_0) (by decide +kernel)
set_option maxRecDepth 1000000 in
theorem rd_109_0 : rv_dj cX12_asksAll rb_109 0 = true := by decide +kernel
theorem rd_109 : rv_DK (cX12_asksAll, rb_109) := rv_dc_join 1 (fun j hj => by rcases (show j = 0 by omega) with rfl; exact rd_109_0) (by decide +kernel)
set_option maxRecDepth 1000000 in
theorem rd_110_0 : rv_dj cX12_bars rb_110 0 = true := by decide +kernel
theorem rd_110 : rv_DK (cX12_bars, rb_110) := rv_dc_join 1 (fun j hj => by rcases (show j = 0 by omega) with rfl; exact rd_110_0) (by decide +kernel)
set_option maxRecDepth 1000000 in
theorem rd_111_0 : rv_dj cX12_bear rb_111 0 = true := by decide +kernel
set_option maxRecDepth 1000000 in
theorem rd_111_1 : rv_dj cX12_bear rb_111 1 = true := by decide +kernel
theorem rd_111 : rv_DK (cX12_bear, rb_111) := rv_dc_join 2 (fun j hj => by
  rcases (show j = 0 ∨ j = 1 by omega) with rfl | rfl
  · exact rd_111_0
  · exact rd_111_1) (by decide +kernel)
set_option maxRecDepth 1000000 in
theorem rd_112_0 : rv_dj cX12_beginsAll rb_112 0 = true := by decide +kernel
theorem rd_112 : rv_DK (cX12_beginsAll, rb_112) := rv_dc_join 1 (fun j hj => by rcases (show j = 0 by omega) with rfl; exact rd_112_0) (by decide +kernel)
set_option maxRecDepth 1000000 in
theorem rd_113_0 : rv_dj cX12_borne rb_113 0 = true := by decide +kernel
theorem rd_113 : rv_DK (cX12_borne, rb_113) := rv_dc_join 1 (fun j hj => by rcases (show j = 0 by omega) with rfl; exact rd_113_0) (by decide +kernel)
set_option maxRecDepth 1000000 in
theorem rd_114_0 : rv_dj cX12_breakCount rb_114 0 = true := by decide +kernel
theorem rd_114 : rv_DK (cX12_breakCount, rb_114) := rv_dc_join 1 (fun j hj => by rcases (show j = 0 by omega) with rfl; exact rd_114_0) (by decide +kernel)
set_option maxRecDepth 1000000 in
theorem rd_115_0 : rv_dj cX12_breaks rb_115 0 = true := by decide +kernel
theorem rd_115 : rv_DK (cX12_breaks, rb_115) := rv_dc_join 1 (fun j hj => by rcases (show j = 0 by omega) with rfl; exact rd_115_0) (by decide +kernel)
set_option maxRecDepth 1000000 in
theorem rd_116_0 : rv_dj cX12_cores rb_116 0 = true := by decide +kernel
set_option maxRecDepth 1000000 in
theorem rd_116_1 : rv_dj cX12_cores rb_116 1 = true := by decide +kernel
set_option maxRecDepth 1000000 in
theorem rd_116_2 : rv_dj cX12_cores rb_116 2 = true := by decide +kernel
theorem rd_116 : rv_DK (cX12_cores, rb_116) := rv_dc_join 3 (fun j hj => by
  rcases (show j = 0 ∨ j = 1 ∨ j = 2 by omega) with rfl | rfl | rfl
  · exact rd_116_0
  · exact rd_116_1
  · exact rd_116_2) (by decide +kernel)
set_option maxRecDepth 1000000 in
theorem rd_117_0 : rv_dj cX12_count rb_117 0 = true := by decide +kernel
theorem rd_117 : rv_DK (cX12_count, rb_117) := rv_dc_join 1 (fun j hj => by rcases (show j = 0 by omega) with rfl; exact rd_117_0) (by decide +kernel)
set_option maxRecDepth 1000000 in
theorem rd_118_0 : rv_dj cX12_everybody rb_118 0 = true := by decide +kernel
theorem rd_118 : rv_DK (cX12_everybody, rb_118) := rv_dc_join 1 (fun j hj => by rcases (show j = 0 by omega) with rfl; exact rd_118_0) (by decide +kernel)
set_option maxRecDepth 1000000 in
theorem rd_119_0 : rv_dj cX12_fault rb_119 0 = true := by decide +kernel
theorem rd_119 : rv_DK (cX12_fault, rb_119) := rv_dc_join 1 (fun j hj => by rcases (show j = 0 by omega) with rfl; exact rd_119_0) (by decide +kernel)
set_option maxRecDepth 1000000 in
theorem rd_120_0 : rv_dj cX12_feed rb_120 0 = true := by decide +kernel
theorem rd_120 : rv_DK (cX12_feed, rb_120) := rv_dc_join 1 (fun j hj => by rcases (show j = 0 by omega) with rfl; exact rd_120_0) (by decide +kernel)
set_option maxRecDepth 1000000 in
theorem rd_121_0 : rv_dj cX12_first rb_121 0 = true := by decide +kernel
set_option maxRecDepth 1000000 in
theorem rd_121_1 : rv_dj cX12_first rb_121 1 = true := by decide +kernel
theorem rd_121 : rv_DK (cX12_first, rb_121) := rv_dc_join 2 (fun j hj => by
  rcases (show j = 0 ∨ j = 1 by omega) with rfl | rfl
  · exact rd_121_0
  · exact rd_121_1) (by decide +kernel)
set_option maxRecDepth 1000000 in
theorem rd_122_0 : rv_dj cX12_four rb_122 0 = true := by decide +kernel
theorem rd_122 : rv_DK (cX12_four, rb_122) := rv_dc_join 1 (fun j hj => by rcases (show j = 0 by omega) with rfl; exact rd_122_0) (by decide +kernel)
set_option maxRecDepth 1000000 in
theorem rd_123_0 : rv_dj cX12_gain rb_123 0 = true := by decide +kernel
set_option maxRecDepth 1000000 in
theorem rd_123_1 : rv_dj cX12_gain rb_123 1 = true := by decide +kernel
theorem rd_123 : rv_DK (cX12_gain, rb_123) := rv_dc_join 2 (fun j hj => by
  rcases (show j = 0 ∨ j = 1 by omega) with rfl | rfl
  · exact rd_123_0
  · exact rd_123_1) (by decide +kernel)
set_option maxRecDepth 1000000 in
theorem rd_124_0 : rv_dj cX12_gives rb_124 0 = true := by decide +kernel
theorem rd_124 : rv_DK (cX12_gives, rb_124) := rv_dc_join 1 (fun j hj => by rcases (show j = 0 by omega) with rfl; exact rd_124_0) (by decide +kernel)
set_option maxRecDepth 1000000 in
theorem rd_125_0 : rv_dj cX12_goes rb_125 0 = true := by decide +kernel
set_option maxRecDepth 1000000 in
theorem rd_125_1 : rv_dj cX12_goes rb_125 1 = true := by decide +kernel
set_option maxRecDepth 1000000 in
theorem rd_125_2 : rv_dj cX12_goes rb_125 2 = true := by decide +kernel
set_option maxRecDepth 1000000 in
theorem rd_125_3 : rv_dj cX12_goes rb_125 3 = true := by decide +kernel
theorem rd_125 : rv_DK (cX12_goes, rb_125) := rv_dc_join 4 (fun j hj => by
  rcases (show j = 0 ∨ j = 1 ∨ j = 2 ∨ j = 3 by omega) with rfl | rfl | rfl | rfl
  · exact rd_125_0
  · exact rd_125_1
  · exact rd_125_2
  · exact rd_125_3) (by decide +kernel)
