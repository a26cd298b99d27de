set_option maxRecDepth 1000000 in
theorem rd_154_0 : rv_dj cX11_isKind rb_154 0 = true := by decide +kernel
theorem rd_154 : rv_DK (cX11_isKind, rb_154) := rv_dc_join 1 (fun j hj => by rcases (show j = 0 by omega) with rfl; exact rd_154_0) (by decide +kernel)
set_option maxRecDepth 1000000 in
theorem rd_155_0 : rv_dj cX11_isTray rb_155 0 = true := by decide +kernel
theorem rd_155 : rv_DK (cX11_isTray, rb_155) := rv_dc_join 1 (fun j hj => by rcases (show j = 0 by omega) with rfl; exact rd_155_0) (by decide +kernel)
set_option maxRecDepth 1000000 in
theorem rd_156_0 : rv_dj cX11_knot rb_156 0 = true := by decide +kernel
theorem rd_156 : rv_DK (cX11_knot, rb_156) := rv_dc_join 1 (fun j hj => by rcases (show j = 0 by omega) with rfl; exact rd_156_0) (by decide +kernel)
set_option maxRecDepth 1000000 in
theorem rd_157_0 : rv_dj cX11_lawful rb_157 0 = true := by decide +kernel
theorem rd_157 : rv_DK (cX11_lawful, rb_157) := rv_dc_join 1 (fun j hj => by rcases (show j = 0 by omega) with rfl; exact rd_157_0) (by decide +kernel)
set_option maxRecDepth 1000000 in
theorem rd_158_0 : rv_dj cX11_mend rb_158 0 = true := by decide +kernel
set_option maxRecDepth 1000000 in
theorem rd_158_1 : rv_dj cX11_mend rb_158 1 = true := by decide +kernel
theorem rd_158 : rv_DK (cX11_mend, rb_158) := rv_dc_join 2 (fun j hj => by
  rcases (show j = 0 ∨ j = 1 by omega) with rfl | rfl
  · exact rd_158_0
  · exact rd_158_1) (by decide +kernel)
set_option maxRecDepth 1000000 in
theorem rd_159_0 : rv_dj cX11_must rb_159 0 = true := by decide +kernel
theorem rd_159 : rv_DK (cX11_must, rb_159) := rv_dc_join 1 (fun j hj => by rcases (show j = 0 by omega) with rfl; exact rd_159_0) (by decide +kernel)
set_option maxRecDepth 1000000 in
theorem rd_160_0 : rv_dj cX11_near rb_160 0 = true := by decide +kernel
theorem rd_160 : rv_DK (cX11_near, rb_160) := rv_dc_join 1 (fun j hj => by rcases (show j = 0 by omega) with rfl; exact rd_160_0) (by decide +kernel)
set_option maxRecDepth 1000000 in
theorem rd_161_0 : rv_dj cX11_nearRoom rb_161 0 = true := by decide +kernel
theorem rd_161 : rv_DK (cX11_nearRoom, rb_161) := rv_dc_join 1 (fun j hj => by rcases (show j = 0 by omega) with rfl; exact rd_161_0) (by decide +kernel)
set_option maxRecDepth 1000000 in
theorem rd_162_0 : rv_dj cX11_none rb_162 0 = true := by decide +kernel
theorem rd_162 : rv_DK (cX11_none, rb_162) := rv_dc_join 1 (fun j hj => by rcases (show j = 0 by omega) with rfl; exact rd_162_0) (by decide +kernel)
set_option maxRecDepth 1000000 in
theorem rd_163_0 : rv_dj cX11_person rb_163 0 = true := by decide +kernel
set_option maxRecDepth 1000000 in
theorem rd_163_1 : rv_dj cX11_person rb_163 1 = true := by decide +kernel
theorem rd_163 : rv_DK (cX11_person, rb_163) := rv_dc_join 2 (fun j hj => by
  rcases (show j = 0 ∨ j = 1 by omega) with rfl | rfl
  · exact rd_163_0
  · exact rd_163_1) (by decide +kernel)
set_option maxRecDepth 1000000 in
theorem rd_164_0 : rv_dj cX11_placeTrouble rb_164 0 = true := by decide +kernel
theorem rd_164 : rv_DK (cX11_placeTrouble, rb_164) := rv_dc_join 1 (fun j hj => by rcases (show j = 0 by omega) with rfl; exact rd_164_0) (by decide +kernel)
set_option maxRecDepth 1000000 in
theorem rd_165_0 : rv_dj cX11_pour rb_165 0 = true := by decide +kernel
set_option maxRecDepth 1000000 in
theorem rd_165_1 : rv_dj cX11_pour rb_165 1 = true := by decide +kernel
theorem rd_165 : rv_DK (cX11_pour, rb_165) := rv_dc_join 2 (fun j hj => by
  rcases (show j = 0 ∨ j = 1 by omega) with rfl | rfl
  · exact rd_165_0
  · exact rd_165_1) (by decide +kernel)
set_option maxRecDepth 1000000 in
theorem rd_166_0 : rv_dj cX11_ran rb_166 0 = true := by decide +kernel
set_option maxRecDepth 1000000 in
theorem rd_166_1 : rv_dj cX11_ran rb_166 1 = true := by decide +kernel
theorem rd_166 : rv_DK (cX11_ran, rb_166) := rv_dc_join 2 (fun j hj => by
  rcases (show j = 0 ∨ j = 1 by omega) with rfl | rfl
  · exact rd_166_0
  · exact rd_166_1) (by decide +kernel)
set_option maxRecDepth 1000000 in
theorem rd_167_0 : rv_dj cX11_rather rb_167 0 = true := by decide +kernel
theorem rd_167 : rv_DK (cX11_rather, rb_167) := rv_dc_join 1 (fun j hj => by rcases (show j = 0 by omega) with rfl; exact rd_167_0) (by decide +kernel)
set_option maxRecDepth 1000000 in
theorem rd_168_0 : rv_dj cX11_read rb_168 0 = true := by decide +kernel
theorem rd_168 : rv_DK (cX11_read, rb_168) := rv_dc_join 1 (fun j hj => by rcases (show j = 0 by omega) with rfl; exact rd_168_0) (by decide +kernel)
set_option maxRecDepth 1000000 in
theorem rd_169_0 : rv_dj cX11_refused rb_169 0 = true := by decide +kernel
theorem rd_169 : rv_DK (cX11_refused, rb_169) := rv_dc_join 1 (fun j hj => by rcases (show j = 0 by omega) with rfl; exact rd_169_0) (by decide +kernel)
set_option maxRecDepth 1000000 in
theorem rd_170_0 : rv_dj cX11_room rb_170 0 = true := by decide +kernel
theorem rd_170 : rv_DK (cX11_room, rb_170) := rv_dc_join 1 (fun j hj => by rcases (show j = 0 by omega) with rfl; exact rd_170_0) (by decide +kernel)
set_option maxRecDepth 1000000 in
theorem rd_171_0 : rv_dj cX11_run rb_171 0 = true := by decide +kernel
theorem rd_171 : rv_DK (cX11_run, rb_171) := rv_dc_join 1 (fun j hj => by rcases (show j = 0 by omega) with rfl; exact rd_171_0) (by decide +kernel)
set_option maxRecDepth 1000000 in
theorem rd_172_0 : rv_dj cX11_sizes rb_172 0 = true := by decide +kernel
theorem rd_172 : rv_DK (cX11_sizes, rb_172) := rv_dc_join 1 (fun j hj => by rcases (show j = 0 by omega) with rfl; exact rd_172_0) (by decide +kernel)
set_option maxRecDepth 1000000 in
theorem rd_173_0 : rv_dj cX11_sort rb_173 0 = true := by decide +kernel
theorem rd_173 : rv_DK (cX11_sort, rb_173) := rv_dc_join 1 (fun j hj => by rcases (show j = 0 by omega) with rfl; exact rd_173_0) (by decide +kernel)
set_option maxRecDepth 1000000 in
theorem rd_174_0 : rv_dj cX11_status rb_174 0 = true := by decide +kernel
theorem rd_174 : rv_DK (cX11_status, rb_174) := rv_dc_join 1 (fun j hj => by rcases (show j = 0 by omega) with rfl; exact rd_174_0) (by decide +kernel)
set_option maxRecDepth 1000000 in
theorem rd_175_0 : rv_dj cX11_step rb_175 0 = true := by decide +kernel
theorem rd_175 : rv_DK (cX11_step, rb_175) := rv_dc_join 1 (fun j hj => by rcases (show j = 0 by omega) with rfl; exact rd_175_0) (by decide +kernel)
set_option maxRecDepth 1000000 in
theorem rd_176_0 : rv_dj cX11_sum rb_176 0 = true := by decide +kernel
theorem rd_176 : rv_DK (cX11_sum, rb_176) := rv_dc_join 1 (fun j hj => by rcases (show j = 0 by omega) with rfl; exact rd_176_0) (by decide +kernel)
set_option maxRecDepth 1000000 in
theorem rd_177_0 : rv_dj cX11_tellTray rb_177 0 = true := by decide +kernel
theorem rd_177 : rv_DK (cX11_tellTray, rb_177) := rv_dc_join 1 (fun j hj => by rcases (show j = 0 by omega) with rfl; exact rd_177_0) (by decide +kernel)
set_option maxRecDepth 1000000 in
theorem rd_178_0 : rv_dj cX11_together rb_178 0 = true := by decide +kernel
theorem rd_178 : rv_DK (cX11_together, rb_178) := rv_dc_join 1 (fun j hj => by rcases (show j = 0 by omega) with rfl; exact rd_178_0) (by decide +kernel)
set_option maxRecDepth 1000000 in
theorem rd_179_0 : rv_dj cX11_toldTrouble rb_179 0 = true := by decide +kernel
theorem rd_179 : rv_DK (cX11_toldTrouble, rb_179) := rv_dc_join 1 (fun j hj => by rcases (show j = 0 by omega) with rfl; exact rd_179_0) (by decide +kernel)
set_option maxRecDepth 1000000 in
theorem rd_180_0 : rv_dj cX11_tray rb_180 0 = true := by decide +kernel
theorem rd_180 : rv_DK (cX11_tray, rb_180) := rv_dc_join 1 (fun j hj => by rcases (show j = 0 by omega) with rfl; exact rd_180_0) (by decide +kernel)
set_option maxRecDepth 1000000 in
theorem rd_181_0 : rv_dj cX11_walk rb_181 0 = true := by decide +kernel
set_option maxRecDepth 1000000 in
theorem rd_181_1 : rv_dj cX11_walk rb_181 1 = true := by decide +kernel
set_option maxRecDepth 1000000 in
theorem rd_181_2 : rv_dj cX11_walk rb_181 2 = true := by decide +kernel
theorem rd_181 : rv_DK (cX11_walk, rb_181) := rv_dc_join 3 (fun j hj => by
  rcases (show j = 0 ∨ j = 1 ∨ j = 2 by omega) with rfl | rfl | rfl
  · exact rd_181_0
  · exact rd_181_1
  · exact rd_181_2) (by decide +kernel)
set_option maxRecDepth 1000000 in
theorem rd_182_0 : rv_dj cX11_week rb_182 0 = true := by decide +kernel
theorem rd_182 : rv_DK (cX11_week, rb_182) := rv_dc_join 1 (fun j hj => by rcases (show j = 0 by omega) with rfl; exact rd_182_0) (by decide +kernel)
set_option maxRecDepth 1000000 in
theorem rd_183_0 : rv_dj cX11_weeks rb_183 0 = true := by decide +kernel
theorem rd_183 : rv_DK (cX11_weeks, rb_183) := rv_dc_join 1 (fun j hj => by rcases (show j = 0 by omega) with rfl; exact rd_183_0) (by decide +kernel)
set_option maxRecDepth 1000000 in
theorem rd_184_0 : rv_dj cX11_wish rb_184 0 = true := by decide +kernel
set_option maxRecDepth 1000000 in
theorem rd_184_1 : rv_dj cX11_wish rb_184 1 = true := by decide +kernel
theorem rd_184 : rv_DK (cX11_wish, rb_184) := rv_dc_join 2 (fun j hj => by
  rcases (show j = 0 ∨ j = 1 by omega) with rfl | rfl
  · exact rd_184_0
  · exact rd_184_1) (by decide +kernel)
set_option maxRecDepth 1000000 in
theorem rd_185_0 : rv_dj cX11_worth rb_185 0 = true := by decide +kernel
theorem rd_185 : rv_DK (cX11_worth, rb_185) := rv_dc_join 1 (fun j hj => by rcases (show j = 0 by omega) with rfl; exact rd_185_0) (by decide +kernel)
set_option maxRecDepth 1000000 in
theorem rd_186_0 : rv_dj cX11_write rb_186 0 = true := by decide +kernel
theorem rd_186 : rv_DK (cX11_write, rb_186) := rv_dc_join 1 (fun j hj => by rcases (show j = 0 by omega) with rfl; exact rd_186_0) (by decide +kernel)
set_option maxRecDepth 1000000 in
theorem rd_187_0 : rv_dj cX12_areAlike rb_187 0 = true := by decide +kernel
set_option maxRecDepth 1000000 in
theorem rd_187_1 : rv_dj cX12_areAlike rb_187 1 = true := by decide +kernel
theorem rd_187 : rv_DK (cX12_areAlike, rb_187) := rv_dc_join 2 (fun j hj => by
  rcases (show j = 0 ∨ j = 1 by omega) with rfl | rfl
  · exact rd_187_0
  · exact rd_187_1) (by decide +kernel)
set_option maxRecDepth 1000000 in
theorem rd_188_0 : rv_dj cX12_areFriends rb_188 0 = true := by decide +kernel
set_option maxRecDepth 1000000 in
theorem rd_188_1 : rv_dj cX12_areFriends rb_188 1 = true := by decide +kernel
set_option maxRecDepth 1000000 in
theorem rd_188_2 : rv_dj cX12_areFriends rb_188 2 = true := by decide +kernel
set_option maxRecDepth 1000000 in
theorem rd_188_3 : rv_dj cX12_areFriends rb_188 3 = true := by decide +kernel
theorem rd_188 : rv_DK (cX12_areFriends, rb_188) := rv_dc_join 4 (fun j hj => by
  rcases (show j = 0 ∨ j = 1 ∨ j = 2 ∨ j = 3 by omega) with rfl | rfl | rfl | rfl
  · exact rd_188_0
  · exact rd_188_1
  · exact rd_188_2
  · exact rd_188_3) (by decide +kernel)
