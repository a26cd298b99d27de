set_option maxRecDepth 1000000 in
theorem rd_175_0 : rv_dj cX12_wholeHouse rb_175 0 = true := by decide +kernel
theorem rd_175 : rv_DK (cX12_wholeHouse, rb_175) := rv_dc_join 1 (fun j hj => by rcases (show j = 0 by omega) with rfl; exact rd_175_0) (by decide +kernel)
set_option maxRecDepth 1000000 in
theorem rd_176_0 : rv_dj cX12_wish rb_176 0 = true := by decide +kernel
set_option maxRecDepth 1000000 in
theorem rd_176_1 : rv_dj cX12_wish rb_176 1 = true := by decide +kernel
set_option maxRecDepth 1000000 in
theorem rd_176_2 : rv_dj cX12_wish rb_176 2 = true := by decide +kernel
set_option maxRecDepth 1000000 in
theorem rd_176_3 : rv_dj cX12_wish rb_176 3 = true := by decide +kernel
set_option maxRecDepth 1000000 in
theorem rd_176_4 : rv_dj cX12_wish rb_176 4 = true := by decide +kernel
set_option maxRecDepth 1000000 in
theorem rd_176_5 : rv_dj cX12_wish rb_176 5 = true := by decide +kernel
set_option maxRecDepth 1000000 in
theorem rd_176_6 : rv_dj cX12_wish rb_176 6 = true := by decide +kernel
set_option maxRecDepth 1000000 in
theorem rd_176_7 : rv_dj cX12_wish rb_176 7 = true := by decide +kernel
theorem rd_176 : rv_DK (cX12_wish, rb_176) := rv_dc_join 8 (fun j hj => by
  rcases (show j = 0 ∨ j = 1 ∨ j = 2 ∨ j = 3 ∨ j = 4 ∨ j = 5 ∨ j = 6 ∨ j = 7 by omega) with rfl | rfl | rfl | rfl | rfl | rfl | rfl | rfl
  · exact rd_176_0
  · exact rd_176_1
  · exact rd_176_2
  · exact rd_176_3
  · exact rd_176_4
  · exact rd_176_5
  · exact rd_176_6
  · exact rd_176_7) (by decide +kernel)
set_option maxRecDepth 1000000 in
theorem rd_177_0 : rv_dj cX12_worth rb_177 0 = true := by decide +kernel
theorem rd_177 : rv_DK (cX12_worth, rb_177) := rv_dc_join 1 (fun j hj => by rcases (show j = 0 by omega) with rfl; exact rd_177_0) (by decide +kernel)
set_option maxRecDepth 1000000 in
theorem rd_178_0 : rv_dj cX12_write rb_178 0 = true := by decide +kernel
theorem rd_178 : rv_DK (cX12_write, rb_178) := rv_dc_join 1 (fun j hj => by rcases (show j = 0 by omega) with rfl; exact rd_178_0) (by decide +kernel)
set_option maxRecDepth 1000000 in
theorem rd_179_0 : rv_dj cX12_wrongParting rb_179 0 = true := by decide +kernel
set_option maxRecDepth 1000000 in
theorem rd_179_1 : rv_dj cX12_wrongParting rb_179 1 = true := by decide +kernel
theorem rd_179 : rv_DK (cX12_wrongParting, rb_179) := rv_dc_join 2 (fun j hj => by
  rcases (show j = 0 ∨ j = 1 by omega) with rfl | rfl
  · exact rd_179_0
  · exact rd_179_1) (by decide +kernel)
set_option maxRecDepth 1000000 in
theorem rd_180_0 : rv_dj cX12_wrongPlace rb_180 0 = true := by decide +kernel
theorem rd_180 : rv_DK (cX12_wrongPlace, rb_180) := rv_dc_join 1 (fun j hj => by rcases (show j = 0 by omega) with rfl; exact rd_180_0) (by decide +kernel)
