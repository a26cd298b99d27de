set_option maxRecDepth 1000000 in
theorem rd_152_0 : rv_dj cX12_pour rb_152 0 = true := by decide +kernel
set_option maxRecDepth 1000000 in
theorem rd_152_1 : rv_dj cX12_pour rb_152 1 = true := by decide +kernel
set_option maxRecDepth 1000000 in
theorem rd_152_2 : rv_dj cX12_pour rb_152 2 = true := by decide +kernel
theorem rd_152 : rv_DK (cX12_pour, rb_152) := rv_dc_join 3 (fun j hj => by
  rcases (show j = 0 ∨ j = 1 ∨ j = 2 by omega) with rfl | rfl | rfl
  · exact rd_152_0
  · exact rd_152_1
  · exact rd_152_2) (by decide +kernel)
set_option maxRecDepth 1000000 in
theorem rd_153_0 : rv_dj cX12_ran rb_153 0 = true := by decide +kernel
theorem rd_153 : rv_DK (cX12_ran, rb_153) := rv_dc_join 1 (fun j hj => by rcases (show j = 0 by omega) with rfl; exact rd_153_0) (by decide +kernel)
set_option maxRecDepth 1000000 in
theorem rd_154_0 : rv_dj cX12_rather rb_154 0 = true := by decide +kernel
theorem rd_154 : rv_DK (cX12_rather, rb_154) := rv_dc_join 1 (fun j hj => by rcases (show j = 0 by omega) with rfl; exact rd_154_0) (by decide +kernel)
set_option maxRecDepth 1000000 in
theorem rd_155_0 : rv_dj cX12_read rb_155 0 = true := by decide +kernel
theorem rd_155 : rv_DK (cX12_read, rb_155) := rv_dc_join 1 (fun j hj => by rcases (show j = 0 by omega) with rfl; exact rd_155_0) (by decide +kernel)
set_option maxRecDepth 1000000 in
theorem rd_156_0 : rv_dj cX12_ready rb_156 0 = true := by decide +kernel
theorem rd_156 : rv_DK (cX12_ready, rb_156) := rv_dc_join 1 (fun j hj => by rcases (show j = 0 by omega) with rfl; exact rd_156_0) (by decide +kernel)
set_option maxRecDepth 1000000 in
theorem rd_157_0 : rv_dj cX12_refuse rb_157 0 = true := by decide +kernel
theorem rd_157 : rv_DK (cX12_refuse, rb_157) := rv_dc_join 1 (fun j hj => by rcases (show j = 0 by omega) with rfl; exact rd_157_0) (by decide +kernel)
set_option maxRecDepth 1000000 in
theorem rd_158_0 : rv_dj cX12_room rb_158 0 = true := by decide +kernel
theorem rd_158 : rv_DK (cX12_room, rb_158) := rv_dc_join 1 (fun j hj => by rcases (show j = 0 by omega) with rfl; exact rd_158_0) (by decide +kernel)
set_option maxRecDepth 1000000 in
theorem rd_159_0 : rv_dj cX12_rules rb_159 0 = true := by decide +kernel
set_option maxRecDepth 1000000 in
theorem rd_159_1 : rv_dj cX12_rules rb_159 1 = true := by decide +kernel
set_option maxRecDepth 1000000 in
theorem rd_159_2 : rv_dj cX12_rules rb_159 2 = true := by decide +kernel
theorem rd_159 : rv_DK (cX12_rules, rb_159) := rv_dc_join 3 (fun j hj => by
  rcases (show j = 0 ∨ j = 1 ∨ j = 2 by omega) with rfl | rfl | rfl
  · exact rd_159_0
  · exact rd_159_1
  · exact rd_159_2) (by decide +kernel)
set_option maxRecDepth 1000000 in
theorem rd_160_0 : rv_dj cX12_run rb_160 0 = true := by decide +kernel
set_option maxRecDepth 1000000 in
theorem rd_160_1 : rv_dj cX12_run rb_160 1 = true := by decide +kernel
set_option maxRecDepth 1000000 in
theorem rd_160_2 : rv_dj cX12_run rb_160 2 = true := by decide +kernel
theorem rd_160 : rv_DK (cX12_run, rb_160) := rv_dc_join 3 (fun j hj => by
  rcases (show j = 0 ∨ j = 1 ∨ j = 2 by omega) with rfl | rfl | rfl
  · exact rd_160_0
  · exact rd_160_1
  · exact rd_160_2) (by decide +kernel)
set_option maxRecDepth 1000000 in
theorem rd_161_0 : rv_dj cX12_scans rb_161 0 = true := by decide +kernel
set_option maxRecDepth 1000000 in
theorem rd_161_1 : rv_dj cX12_scans rb_161 1 = true := by decide +kernel
set_option maxRecDepth 1000000 in
theorem rd_161_2 : rv_dj cX12_scans rb_161 2 = true := by decide +kernel
theorem rd_161 : rv_DK (cX12_scans, rb_161) := rv_dc_join 3 (fun j hj => by
  rcases (show j = 0 ∨ j = 1 ∨ j = 2 by omega) with rfl | rfl | rfl
  · exact rd_161_0
  · exact rd_161_1
  · exact rd_161_2) (by decide +kernel)
set_option maxRecDepth 1000000 in
theorem rd_162_0 : rv_dj cX12_sets rb_162 0 = true := by decide +kernel
set_option maxRecDepth 1000000 in
theorem rd_162_1 : rv_dj cX12_sets rb_162 1 = true := by decide +kernel
theorem rd_162 : rv_DK (cX12_sets, rb_162) := rv_dc_join 2 (fun j hj => by
  rcases (show j = 0 ∨ j = 1 by omega) with rfl | rfl
  · exact rd_162_0
  · exact rd_162_1) (by decide +kernel)
set_option maxRecDepth 1000000 in
theorem rd_163_0 : rv_dj cX12_sizes rb_163 0 = true := by decide +kernel
theorem rd_163 : rv_DK (cX12_sizes, rb_163) := rv_dc_join 1 (fun j hj => by rcases (show j = 0 by omega) with rfl; exact rd_163_0) (by decide +kernel)
set_option maxRecDepth 1000000 in
theorem rd_164_0 : rv_dj cX12_some rb_164 0 = true := by decide +kernel
theorem rd_164 : rv_DK (cX12_some, rb_164) := rv_dc_join 1 (fun j hj => by rcases (show j = 0 by omega) with rfl; exact rd_164_0) (by decide +kernel)
set_option maxRecDepth 1000000 in
theorem rd_165_0 : rv_dj cX12_sort rb_165 0 = true := by decide +kernel
theorem rd_165 : rv_DK (cX12_sort, rb_165) := rv_dc_join 1 (fun j hj => by rcases (show j = 0 by omega) with rfl; exact rd_165_0) (by decide +kernel)
set_option maxRecDepth 1000000 in
theorem rd_166_0 : rv_dj cX12_status rb_166 0 = true := by decide +kernel
theorem rd_166 : rv_DK (cX12_status, rb_166) := rv_dc_join 1 (fun j hj => by rcases (show j = 0 by omega) with rfl; exact rd_166_0) (by decide +kernel)
set_option maxRecDepth 1000000 in
theorem rd_167_0 : rv_dj cX12_step rb_167 0 = true := by decide +kernel
theorem rd_167 : rv_DK (cX12_step, rb_167) := rv_dc_join 1 (fun j hj => by rcases (show j = 0 by omega) with rfl; exact rd_167_0) (by decide +kernel)
set_option maxRecDepth 1000000 in
theorem rd_168_0 : rv_dj cX12_sum rb_168 0 = true := by decide +kernel
theorem rd_168 : rv_DK (cX12_sum, rb_168) := rv_dc_join 1 (fun j hj => by rcases (show j = 0 by omega) with rfl; exact rd_168_0) (by decide +kernel)
set_option maxRecDepth 1000000 in
theorem rd_169_0 : rv_dj cX12_swaps rb_169 0 = true := by decide +kernel
set_option maxRecDepth 1000000 in
theorem rd_169_1 : rv_dj cX12_swaps rb_169 1 = true := by decide +kernel
set_option maxRecDepth 1000000 in
theorem rd_169_2 : rv_dj cX12_swaps rb_169 2 = true := by decide +kernel
theorem rd_169 : rv_DK (cX12_swaps, rb_169) := rv_dc_join 3 (fun j hj => by
  rcases (show j = 0 ∨ j = 1 ∨ j = 2 by omega) with rfl | rfl | rfl
  · exact rd_169_0
  · exact rd_169_1
  · exact rd_169_2) (by decide +kernel)
set_option maxRecDepth 1000000 in
theorem rd_170_0 : rv_dj cX12_together rb_170 0 = true := by decide +kernel
set_option maxRecDepth 1000000 in
theorem rd_170_1 : rv_dj cX12_together rb_170 1 = true := by decide +kernel
theorem rd_170 : rv_DK (cX12_together, rb_170) := rv_dc_join 2 (fun j hj => by
  rcases (show j = 0 ∨ j = 1 by omega) with rfl | rfl
  · exact rd_170_0
  · exact rd_170_1) (by decide +kernel)
set_option maxRecDepth 1000000 in
theorem rd_171_0 : rv_dj cX12_tray rb_171 0 = true := by decide +kernel
set_option maxRecDepth 1000000 in
theorem rd_171_1 : rv_dj cX12_tray rb_171 1 = true := by decide +kernel
theorem rd_171 : rv_DK (cX12_tray, rb_171) := rv_dc_join 2 (fun j hj => by
  rcases (show j = 0 ∨ j = 1 by omega) with rfl | rfl
  · exact rd_171_0
  · exact rd_171_1) (by decide +kernel)
set_option maxRecDepth 1000000 in
theorem rd_172_0 : rv_dj cX12_valueOf rb_172 0 = true := by decide +kernel
set_option maxRecDepth 1000000 in
theorem rd_172_1 : rv_dj cX12_valueOf rb_172 1 = true := by decide +kernel
theorem rd_172 : rv_DK (cX12_valueOf, rb_172) := rv_dc_join 2 (fun j hj => by
  rcases (show j = 0 ∨ j = 1 by omega) with rfl | rfl
  · exact rd_172_0
  · exact rd_172_1) (by decide +kernel)
set_option maxRecDepth 1000000 in
theorem rd_173_0 : rv_dj cX12_week rb_173 0 = true := by decide +kernel
theorem rd_173 : rv_DK (cX12_week, rb_173) := rv_dc_join 1 (fun j hj => by rcases (show j = 0 by omega) with rfl; exact rd_173_0) (by decide +kernel)
set_option maxRecDepth 1000000 in
theorem rd_174_0 : rv_dj cX12_weeks rb_174 0 = true := by decide +kernel
set_option maxRecDepth 1000000 in
theorem rd_174_1 : rv_dj cX12_weeks rb_174 1 = true := by decide +kernel
set_option maxRecDepth 1000000 in
theorem rd_174_2 : rv_dj cX12_weeks rb_174 2 = true := by decide +kernel
set_option maxRecDepth 1000000 in
theorem rd_174_3 : rv_dj cX12_weeks rb_174 3 = true := by decide +kernel
theorem rd_174 : rv_DK (cX12_weeks, rb_174) := rv_dc_join 4 (fun j hj => by
  rcases (show j = 0 ∨ j = 1 ∨ j = 2 ∨ j = 3 by omega) with rfl | rfl | rfl | rfl
  · exact rd_174_0
  · exact rd_174_1
  · exact rd_174_2
  · exact rd_174_3) (by decide +kernel)
