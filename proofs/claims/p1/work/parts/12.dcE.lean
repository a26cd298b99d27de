set_option maxRecDepth 1000000 in
theorem rd_126_0 : rv_dj cX12_goesOn rb_126 0 = true := by decide +kernel
set_option maxRecDepth 1000000 in
theorem rd_126_1 : rv_dj cX12_goesOn rb_126 1 = true := by decide +kernel
theorem rd_126 : rv_DK (cX12_goesOn, rb_126) := rv_dc_join 2 (fun j hj => by
  rcases (show j = 0 ∨ j = 1 by omega) with rfl | rfl
  · exact rd_126_0
  · exact rd_126_1) (by decide +kernel)
set_option maxRecDepth 1000000 in
theorem rd_127_0 : rv_dj cX12_goesThrough rb_127 0 = true := by decide +kernel
set_option maxRecDepth 1000000 in
theorem rd_127_1 : rv_dj cX12_goesThrough rb_127 1 = true := by decide +kernel
theorem rd_127 : rv_DK (cX12_goesThrough, rb_127) := rv_dc_join 2 (fun j hj => by
  rcases (show j = 0 ∨ j = 1 by omega) with rfl | rfl
  · exact rd_127_0
  · exact rd_127_1) (by decide +kernel)
set_option maxRecDepth 1000000 in
theorem rd_128_0 : rv_dj cX12_gone rb_128 0 = true := by decide +kernel
theorem rd_128 : rv_DK (cX12_gone, rb_128) := rv_dc_join 1 (fun j hj => by rcases (show j = 0 by omega) with rfl; exact rd_128_0) (by decide +kernel)
set_option maxRecDepth 1000000 in
theorem rd_129_0 : rv_dj cX12_greedy rb_129 0 = true := by decide +kernel
set_option maxRecDepth 1000000 in
theorem rd_129_1 : rv_dj cX12_greedy rb_129 1 = true := by decide +kernel
set_option maxRecDepth 1000000 in
theorem rd_129_2 : rv_dj cX12_greedy rb_129 2 = true := by decide +kernel
set_option maxRecDepth 1000000 in
theorem rd_129_3 : rv_dj cX12_greedy rb_129 3 = true := by decide +kernel
theorem rd_129 : rv_DK (cX12_greedy, rb_129) := rv_dc_join 4 (fun j hj => by
  rcases (show j = 0 ∨ j = 1 ∨ j = 2 ∨ j = 3 by omega) with rfl | rfl | rfl | rfl
  · exact rd_129_0
  · exact rd_129_1
  · exact rd_129_2
  · exact rd_129_3) (by decide +kernel)
set_option maxRecDepth 1000000 in
theorem rd_130_0 : rv_dj cX12_hasPeace rb_130 0 = true := by decide +kernel
theorem rd_130 : rv_DK (cX12_hasPeace, rb_130) := rv_dc_join 1 (fun j hj => by rcases (show j = 0 by omega) with rfl; exact rd_130_0) (by decide +kernel)
set_option maxRecDepth 1000000 in
theorem rd_131_0 : rv_dj cX12_init rb_131 0 = true := by decide +kernel
set_option maxRecDepth 1000000 in
theorem rd_131_1 : rv_dj cX12_init rb_131 1 = true := by decide +kernel
set_option maxRecDepth 1000000 in
theorem rd_131_2 : rv_dj cX12_init rb_131 2 = true := by decide +kernel
set_option maxRecDepth 1000000 in
theorem rd_131_3 : rv_dj cX12_init rb_131 3 = true := by decide +kernel
set_option maxRecDepth 1000000 in
theorem rd_131_4 : rv_dj cX12_init rb_131 4 = true := by decide +kernel
set_option maxRecDepth 1000000 in
theorem rd_131_5 : rv_dj cX12_init rb_131 5 = true := by decide +kernel
theorem rd_131 : rv_DK (cX12_init, rb_131) := rv_dc_join 6 (fun j hj => by
  rcases (show j = 0 ∨ j = 1 ∨ j = 2 ∨ j = 3 ∨ j = 4 ∨ j = 5 by omega) with rfl | rfl | rfl | rfl | rfl | rfl
  · exact rd_131_0
  · exact rd_131_1
  · exact rd_131_2
  · exact rd_131_3
  · exact rd_131_4
  · exact rd_131_5) (by decide +kernel)
set_option maxRecDepth 1000000 in
theorem rd_132_0 : rv_dj cX12_is rb_132 0 = true := by decide +kernel
theorem rd_132 : rv_DK (cX12_is, rb_132) := rv_dc_join 1 (fun j hj => by rcases (show j = 0 by omega) with rfl; exact rd_132_0) (by decide +kernel)
set_option maxRecDepth 1000000 in
theorem rd_133_0 : rv_dj cX12_isGroup rb_133 0 = true := by decide +kernel
theorem rd_133 : rv_DK (cX12_isGroup, rb_133) := rv_dc_join 1 (fun j hj => by rcases (show j = 0 by omega) with rfl; exact rd_133_0) (by decide +kernel)
set_option maxRecDepth 1000000 in
theorem rd_134_0 : rv_dj cX12_isIn rb_134 0 = true := by decide +kernel
theorem rd_134 : rv_DK (cX12_isIn, rb_134) := rv_dc_join 1 (fun j hj => by rcases (show j = 0 by omega) with rfl; exact rd_134_0) (by decide +kernel)
theorem rd_135 : rv_DK (cX12_isKey, rb_135) := fun e h => by cases h
set_option maxRecDepth 1000000 in
theorem rd_136_0 : rv_dj cX12_isKind rb_136 0 = true := by decide +kernel
theorem rd_136 : rv_DK (cX12_isKind, rb_136) := rv_dc_join 1 (fun j hj => by rcases (show j = 0 by omega) with rfl; exact rd_136_0) (by decide +kernel)
theorem rd_137 : rv_DK (cX12_isName, rb_137) := fun e h => by cases h
set_option maxRecDepth 1000000 in
theorem rd_138_0 : rv_dj cX12_isPerson rb_138 0 = true := by decide +kernel
theorem rd_138 : rv_DK (cX12_isPerson, rb_138) := rv_dc_join 1 (fun j hj => by rcases (show j = 0 by omega) with rfl; exact rd_138_0) (by decide +kernel)
set_option maxRecDepth 1000000 in
theorem rd_139_0 : rv_dj cX12_isTray rb_139 0 = true := by decide +kernel
theorem rd_139 : rv_DK (cX12_isTray, rb_139) := rv_dc_join 1 (fun j hj => by rcases (show j = 0 by omega) with rfl; exact rd_139_0) (by decide +kernel)
set_option maxRecDepth 1000000 in
theorem rd_140_0 : rv_dj cX12_keepsBest rb_140 0 = true := by decide +kernel
theorem rd_140 : rv_DK (cX12_keepsBest, rb_140) := rv_dc_join 1 (fun j hj => by rcases (show j = 0 by omega) with rfl; exact rd_140_0) (by decide +kernel)
set_option maxRecDepth 1000000 in
theorem rd_141_0 : rv_dj cX12_knot rb_141 0 = true := by decide +kernel
set_option maxRecDepth 1000000 in
theorem rd_141_1 : rv_dj cX12_knot rb_141 1 = true := by decide +kernel
theorem rd_141 : rv_DK (cX12_knot, rb_141) := rv_dc_join 2 (fun j hj => by
  rcases (show j = 0 ∨ j = 1 by omega) with rfl | rfl
  · exact rd_141_0
  · exact rd_141_1) (by decide +kernel)
set_option maxRecDepth 1000000 in
theorem rd_142_0 : rv_dj cX12_lawful rb_142 0 = true := by decide +kernel
theorem rd_142 : rv_DK (cX12_lawful, rb_142) := rv_dc_join 1 (fun j hj => by rcases (show j = 0 by omega) with rfl; exact rd_142_0) (by decide +kernel)
set_option maxRecDepth 1000000 in
theorem rd_143_0 : rv_dj cX12_mend rb_143 0 = true := by decide +kernel
set_option maxRecDepth 1000000 in
theorem rd_143_1 : rv_dj cX12_mend rb_143 1 = true := by decide +kernel
set_option maxRecDepth 1000000 in
theorem rd_143_2 : rv_dj cX12_mend rb_143 2 = true := by decide +kernel
set_option maxRecDepth 1000000 in
theorem rd_143_3 : rv_dj cX12_mend rb_143 3 = true := by decide +kernel
theorem rd_143 : rv_DK (cX12_mend, rb_143) := rv_dc_join 4 (fun j hj => by
  rcases (show j = 0 ∨ j = 1 ∨ j = 2 ∨ j = 3 by omega) with rfl | rfl | rfl | rfl
  · exact rd_143_0
  · exact rd_143_1
  · exact rd_143_2
  · exact rd_143_3) (by decide +kernel)
set_option maxRecDepth 1000000 in
theorem rd_144_0 : rv_dj cX12_must rb_144 0 = true := by decide +kernel
set_option maxRecDepth 1000000 in
theorem rd_144_1 : rv_dj cX12_must rb_144 1 = true := by decide +kernel
theorem rd_144 : rv_DK (cX12_must, rb_144) := rv_dc_join 2 (fun j hj => by
  rcases (show j = 0 ∨ j = 1 by omega) with rfl | rfl
  · exact rd_144_0
  · exact rd_144_1) (by decide +kernel)
set_option maxRecDepth 1000000 in
theorem rd_145_0 : rv_dj cX12_named rb_145 0 = true := by decide +kernel
theorem rd_145 : rv_DK (cX12_named, rb_145) := rv_dc_join 1 (fun j hj => by rcases (show j = 0 by omega) with rfl; exact rd_145_0) (by decide +kernel)
set_option maxRecDepth 1000000 in
theorem rd_146_0 : rv_dj cX12_near rb_146 0 = true := by decide +kernel
theorem rd_146 : rv_DK (cX12_near, rb_146) := rv_dc_join 1 (fun j hj => by rcases (show j = 0 by omega) with rfl; exact rd_146_0) (by decide +kernel)
set_option maxRecDepth 1000000 in
theorem rd_147_0 : rv_dj cX12_nearRoom rb_147 0 = true := by decide +kernel
theorem rd_147 : rv_DK (cX12_nearRoom, rb_147) := rv_dc_join 1 (fun j hj => by rcases (show j = 0 by omega) with rfl; exact rd_147_0) (by decide +kernel)
set_option maxRecDepth 1000000 in
theorem rd_148_0 : rv_dj cX12_nears rb_148 0 = true := by decide +kernel
theorem rd_148 : rv_DK (cX12_nears, rb_148) := rv_dc_join 1 (fun j hj => by rcases (show j = 0 by omega) with rfl; exact rd_148_0) (by decide +kernel)
set_option maxRecDepth 1000000 in
theorem rd_149_0 : rv_dj cX12_nobodyBars rb_149 0 = true := by decide +kernel
set_option maxRecDepth 1000000 in
theorem rd_149_1 : rv_dj cX12_nobodyBars rb_149 1 = true := by decide +kernel
theorem rd_149 : rv_DK (cX12_nobodyBars, rb_149) := rv_dc_join 2 (fun j hj => by
  rcases (show j = 0 ∨ j = 1 by omega) with rfl | rfl
  · exact rd_149_0
  · exact rd_149_1) (by decide +kernel)
set_option maxRecDepth 1000000 in
theorem rd_150_0 : rv_dj cX12_pairs rb_150 0 = true := by decide +kernel
set_option maxRecDepth 1000000 in
theorem rd_150_1 : rv_dj cX12_pairs rb_150 1 = true := by decide +kernel
theorem rd_150 : rv_DK (cX12_pairs, rb_150) := rv_dc_join 2 (fun j hj => by
  rcases (show j = 0 ∨ j = 1 by omega) with rfl | rfl
  · exact rd_150_0
  · exact rd_150_1) (by decide +kernel)
set_option maxRecDepth 1000000 in
theorem rd_151_0 : rv_dj cX12_person rb_151 0 = true := by decide +kernel
set_option maxRecDepth 1000000 in
theorem rd_151_1 : rv_dj cX12_person rb_151 1 = true := by decide +kernel
theorem rd_151 : rv_DK (cX12_person, rb_151) := rv_dc_join 2 (fun j hj => by
  rcases (show j = 0 ∨ j = 1 by omega) with rfl | rfl
  · exact rd_151_0
  · exact rd_151_1) (by decide +kernel)
