set_option maxRecDepth 1000000 in
theorem rd_119_0 : rv_dj cX9_joiners rb_119 0 = true := by decide +kernel
set_option maxRecDepth 1000000 in
theorem rd_119_1 : rv_dj cX9_joiners rb_119 1 = true := by decide +kernel
theorem rd_119 : rv_DK (cX9_joiners, rb_119) := rv_dc_join 2 (fun j hj => by
  rcases (show j = 0 ∨ j = 1 by omega) with rfl | rfl
  · exact rd_119_0
  · exact rd_119_1) (by decide +kernel)
set_option maxRecDepth 1000000 in
theorem rd_120_0 : rv_dj cX9_learnWants rb_120 0 = true := by decide +kernel
set_option maxRecDepth 1000000 in
theorem rd_120_1 : rv_dj cX9_learnWants rb_120 1 = true := by decide +kernel
theorem rd_120 : rv_DK (cX9_learnWants, rb_120) := rv_dc_join 2 (fun j hj => by
  rcases (show j = 0 ∨ j = 1 by omega) with rfl | rfl
  · exact rd_120_0
  · exact rd_120_1) (by decide +kernel)
set_option maxRecDepth 1000000 in
theorem rd_121_0 : rv_dj cX9_leavers rb_121 0 = true := by decide +kernel
set_option maxRecDepth 1000000 in
theorem rd_121_1 : rv_dj cX9_leavers rb_121 1 = true := by decide +kernel
theorem rd_121 : rv_DK (cX9_leavers, rb_121) := rv_dc_join 2 (fun j hj => by
  rcases (show j = 0 ∨ j = 1 by omega) with rfl | rfl
  · exact rd_121_0
  · exact rd_121_1) (by decide +kernel)
set_option maxRecDepth 1000000 in
theorem rd_122_0 : rv_dj cX10_allBetter rb_122 0 = true := by decide +kernel
theorem rd_122 : rv_DK (cX10_allBetter, rb_122) := rv_dc_join 1 (fun j hj => by rcases (show j = 0 by omega) with rfl; exact rd_122_0) (by decide +kernel)
set_option maxRecDepth 1000000 in
theorem rd_123_0 : rv_dj cX10_anyBetter rb_123 0 = true := by decide +kernel
theorem rd_123 : rv_DK (cX10_anyBetter, rb_123) := rv_dc_join 1 (fun j hj => by rcases (show j = 0 by omega) with rfl; exact rd_123_0) (by decide +kernel)
set_option maxRecDepth 1000000 in
theorem rd_124_0 : rv_dj cX10_areFriends rb_124 0 = true := by decide +kernel
theorem rd_124 : rv_DK (cX10_areFriends, rb_124) := rv_dc_join 1 (fun j hj => by rcases (show j = 0 by omega) with rfl; exact rd_124_0) (by decide +kernel)
set_option maxRecDepth 1000000 in
theorem rd_125_0 : rv_dj cX10_better rb_125 0 = true := by decide +kernel
theorem rd_125 : rv_DK (cX10_better, rb_125) := rv_dc_join 1 (fun j hj => by rcases (show j = 0 by omega) with rfl; exact rd_125_0) (by decide +kernel)
set_option maxRecDepth 1000000 in
theorem rd_126_0 : rv_dj cX10_bringBack rb_126 0 = true := by decide +kernel
set_option maxRecDepth 1000000 in
theorem rd_126_1 : rv_dj cX10_bringBack rb_126 1 = true := by decide +kernel
theorem rd_126 : rv_DK (cX10_bringBack, rb_126) := rv_dc_join 2 (fun j hj => by
  rcases (show j = 0 ∨ j = 1 by omega) with rfl | rfl
  · exact rd_126_0
  · exact rd_126_1) (by decide +kernel)
set_option maxRecDepth 1000000 in
theorem rd_127_0 : rv_dj cX10_counted rb_127 0 = true := by decide +kernel
theorem rd_127 : rv_DK (cX10_counted, rb_127) := rv_dc_join 1 (fun j hj => by rcases (show j = 0 by omega) with rfl; exact rd_127_0) (by decide +kernel)
set_option maxRecDepth 1000000 in
theorem rd_128_0 : rv_dj cX10_cut rb_128 0 = true := by decide +kernel
theorem rd_128 : rv_DK (cX10_cut, rb_128) := rv_dc_join 1 (fun j hj => by rcases (show j = 0 by omega) with rfl; exact rd_128_0) (by decide +kernel)
set_option maxRecDepth 1000000 in
theorem rd_129_0 : rv_dj cX10_forgetWish rb_129 0 = true := by decide +kernel
theorem rd_129 : rv_DK (cX10_forgetWish, rb_129) := rv_dc_join 1 (fun j hj => by rcases (show j = 0 by omega) with rfl; exact rd_129_0) (by decide +kernel)
set_option maxRecDepth 1000000 in
theorem rd_130_0 : rv_dj cX10_init rb_130 0 = true := by decide +kernel
theorem rd_130 : rv_DK (cX10_init, rb_130) := rv_dc_join 1 (fun j hj => by rcases (show j = 0 by omega) with rfl; exact rd_130_0) (by decide +kernel)
set_option maxRecDepth 1000000 in
theorem rd_131_0 : rv_dj cX10_isAlike rb_131 0 = true := by decide +kernel
theorem rd_131 : rv_DK (cX10_isAlike, rb_131) := rv_dc_join 1 (fun j hj => by rcases (show j = 0 by omega) with rfl; exact rd_131_0) (by decide +kernel)
set_option maxRecDepth 1000000 in
theorem rd_132_0 : rv_dj cX10_isBarred rb_132 0 = true := by decide +kernel
theorem rd_132 : rv_DK (cX10_isBarred, rb_132) := rv_dc_join 1 (fun j hj => by rcases (show j = 0 by omega) with rfl; exact rd_132_0) (by decide +kernel)
set_option maxRecDepth 1000000 in
theorem rd_133_0 : rv_dj cX10_isFriendly rb_133 0 = true := by decide +kernel
set_option maxRecDepth 1000000 in
theorem rd_133_1 : rv_dj cX10_isFriendly rb_133 1 = true := by decide +kernel
theorem rd_133 : rv_DK (cX10_isFriendly, rb_133) := rv_dc_join 2 (fun j hj => by
  rcases (show j = 0 ∨ j = 1 by omega) with rfl | rfl
  · exact rd_133_0
  · exact rd_133_1) (by decide +kernel)
set_option maxRecDepth 1000000 in
theorem rd_134_0 : rv_dj cX10_lead rb_134 0 = true := by decide +kernel
theorem rd_134 : rv_DK (cX10_lead, rb_134) := rv_dc_join 1 (fun j hj => by rcases (show j = 0 by omega) with rfl; exact rd_134_0) (by decide +kernel)
set_option maxRecDepth 1000000 in
theorem rd_135_0 : rv_dj cX10_leaveOut rb_135 0 = true := by decide +kernel
set_option maxRecDepth 1000000 in
theorem rd_135_1 : rv_dj cX10_leaveOut rb_135 1 = true := by decide +kernel
theorem rd_135 : rv_DK (cX10_leaveOut, rb_135) := rv_dc_join 2 (fun j hj => by
  rcases (show j = 0 ∨ j = 1 by omega) with rfl | rfl
  · exact rd_135_0
  · exact rd_135_1) (by decide +kernel)
set_option maxRecDepth 1000000 in
theorem rd_136_0 : rv_dj cX10_plain rb_136 0 = true := by decide +kernel
theorem rd_136 : rv_DK (cX10_plain, rb_136) := rv_dc_join 1 (fun j hj => by rcases (show j = 0 by omega) with rfl; exact rd_136_0) (by decide +kernel)
set_option maxRecDepth 1000000 in
theorem rd_137_0 : rv_dj cX10_refresh rb_137 0 = true := by decide +kernel
set_option maxRecDepth 1000000 in
theorem rd_137_1 : rv_dj cX10_refresh rb_137 1 = true := by decide +kernel
theorem rd_137 : rv_DK (cX10_refresh, rb_137) := rv_dc_join 2 (fun j hj => by
  rcases (show j = 0 ∨ j = 1 by omega) with rfl | rfl
  · exact rd_137_0
  · exact rd_137_1) (by decide +kernel)
set_option maxRecDepth 1000000 in
theorem rd_138_0 : rv_dj cX10_weigh rb_138 0 = true := by decide +kernel
set_option maxRecDepth 1000000 in
theorem rd_138_1 : rv_dj cX10_weigh rb_138 1 = true := by decide +kernel
theorem rd_138 : rv_DK (cX10_weigh, rb_138) := rv_dc_join 2 (fun j hj => by
  rcases (show j = 0 ∨ j = 1 by omega) with rfl | rfl
  · exact rd_138_0
  · exact rd_138_1) (by decide +kernel)
set_option maxRecDepth 1000000 in
theorem rd_139_0 : rv_dj cX11_answer rb_139 0 = true := by decide +kernel
theorem rd_139 : rv_DK (cX11_answer, rb_139) := rv_dc_join 1 (fun j hj => by rcases (show j = 0 by omega) with rfl; exact rd_139_0) (by decide +kernel)
set_option maxRecDepth 1000000 in
theorem rd_140_0 : rv_dj cX11_bars rb_140 0 = true := by decide +kernel
theorem rd_140 : rv_DK (cX11_bars, rb_140) := rv_dc_join 1 (fun j hj => by rcases (show j = 0 by omega) with rfl; exact rd_140_0) (by decide +kernel)
set_option maxRecDepth 1000000 in
theorem rd_141_0 : rv_dj cX11_bear rb_141 0 = true := by decide +kernel
theorem rd_141 : rv_DK (cX11_bear, rb_141) := rv_dc_join 1 (fun j hj => by rcases (show j = 0 by omega) with rfl; exact rd_141_0) (by decide +kernel)
set_option maxRecDepth 1000000 in
theorem rd_142_0 : rv_dj cX11_breaks rb_142 0 = true := by decide +kernel
theorem rd_142 : rv_DK (cX11_breaks, rb_142) := rv_dc_join 1 (fun j hj => by rcases (show j = 0 by omega) with rfl; exact rd_142_0) (by decide +kernel)
set_option maxRecDepth 1000000 in
theorem rd_143_0 : rv_dj cX11_count rb_143 0 = true := by decide +kernel
theorem rd_143 : rv_DK (cX11_count, rb_143) := rv_dc_join 1 (fun j hj => by rcases (show j = 0 by omega) with rfl; exact rd_143_0) (by decide +kernel)
set_option maxRecDepth 1000000 in
theorem rd_144_0 : rv_dj cX11_fault rb_144 0 = true := by decide +kernel
theorem rd_144 : rv_DK (cX11_fault, rb_144) := rv_dc_join 1 (fun j hj => by rcases (show j = 0 by omega) with rfl; exact rd_144_0) (by decide +kernel)
set_option maxRecDepth 1000000 in
theorem rd_145_0 : rv_dj cX11_feed rb_145 0 = true := by decide +kernel
theorem rd_145 : rv_DK (cX11_feed, rb_145) := rv_dc_join 1 (fun j hj => by rcases (show j = 0 by omega) with rfl; exact rd_145_0) (by decide +kernel)
set_option maxRecDepth 1000000 in
theorem rd_146_0 : rv_dj cX11_first rb_146 0 = true := by decide +kernel
set_option maxRecDepth 1000000 in
theorem rd_146_1 : rv_dj cX11_first rb_146 1 = true := by decide +kernel
theorem rd_146 : rv_DK (cX11_first, rb_146) := rv_dc_join 2 (fun j hj => by
  rcases (show j = 0 ∨ j = 1 by omega) with rfl | rfl
  · exact rd_146_0
  · exact rd_146_1) (by decide +kernel)
set_option maxRecDepth 1000000 in
theorem rd_147_0 : rv_dj cX11_forget rb_147 0 = true := by decide +kernel
theorem rd_147 : rv_DK (cX11_forget, rb_147) := rv_dc_join 1 (fun j hj => by rcases (show j = 0 by omega) with rfl; exact rd_147_0) (by decide +kernel)
set_option maxRecDepth 1000000 in
theorem rd_148_0 : rv_dj cX11_gain rb_148 0 = true := by decide +kernel
theorem rd_148 : rv_DK (cX11_gain, rb_148) := rv_dc_join 1 (fun j hj => by rcases (show j = 0 by omega) with rfl; exact rd_148_0) (by decide +kernel)
set_option maxRecDepth 1000000 in
theorem rd_149_0 : rv_dj cX11_goes rb_149 0 = true := by decide +kernel
theorem rd_149 : rv_DK (cX11_goes, rb_149) := rv_dc_join 1 (fun j hj => by rcases (show j = 0 by omega) with rfl; exact rd_149_0) (by decide +kernel)
set_option maxRecDepth 1000000 in
theorem rd_150_0 : rv_dj cX11_gone rb_150 0 = true := by decide +kernel
theorem rd_150 : rv_DK (cX11_gone, rb_150) := rv_dc_join 1 (fun j hj => by rcases (show j = 0 by omega) with rfl; exact rd_150_0) (by decide +kernel)
set_option maxRecDepth 1000000 in
theorem rd_151_0 : rv_dj cX11_granted rb_151 0 = true := by decide +kernel
theorem rd_151 : rv_DK (cX11_granted, rb_151) := rv_dc_join 1 (fun j hj => by rcases (show j = 0 by omega) with rfl; exact rd_151_0) (by decide +kernel)
set_option maxRecDepth 1000000 in
theorem rd_152_0 : rv_dj cX11_greedy rb_152 0 = true := by decide +kernel
theorem rd_152 : rv_DK (cX11_greedy, rb_152) := rv_dc_join 1 (fun j hj => by rcases (show j = 0 by omega) with rfl; exact rd_152_0) (by decide +kernel)
set_option maxRecDepth 1000000 in
theorem rd_153_0 : rv_dj cX11_init rb_153 0 = true := by decide +kernel
set_option maxRecDepth 1000000 in
theorem rd_153_1 : rv_dj cX11_init rb_153 1 = true := by decide +kernel
set_option maxRecDepth 1000000 in
theorem rd_153_2 : rv_dj cX11_init rb_153 2 = true := by decide +kernel
theorem rd_153 : rv_DK (cX11_init, rb_153) := rv_dc_join 3 (fun j hj => by
  rcases (show j = 0 ∨ j = 1 ∨ j = 2 by omega) with rfl | rfl | rfl
  · exact rd_153_0
  · exact rd_153_1
  · exact rd_153_2) (by decide +kernel)
