set_option maxRecDepth 1000000 in
theorem rd_288_0 : rv_dj cX12_words rb_288 0 = true := by decide +kernel
theorem rd_288 : rv_DK (cX12_words, rb_288) := rv_dc_join 1 (fun j hj => by rcases (show j = 0 by omega) with rfl; exact rd_288_0) (by decide +kernel)
set_option maxRecDepth 1000000 in
theorem rd_289_0 : rv_dj cX12_work rb_289 0 = true := by decide +kernel
set_option maxRecDepth 1000000 in
theorem rd_289_1 : rv_dj cX12_work rb_289 1 = true := by decide +kernel
theorem rd_289 : rv_DK (cX12_work, rb_289) := rv_dc_join 2 (fun j hj => by
  rcases (show j = 0 ∨ j = 1 by omega) with rfl | rfl
  · exact rd_289_0
  · exact rd_289_1) (by decide +kernel)
set_option maxRecDepth 1000000 in
theorem rd_290_0 : rv_dj cX12_worth rb_290 0 = true := by decide +kernel
theorem rd_290 : rv_DK (cX12_worth, rb_290) := rv_dc_join 1 (fun j hj => by rcases (show j = 0 by omega) with rfl; exact rd_290_0) (by decide +kernel)
set_option maxRecDepth 1000000 in
theorem rd_291_0 : rv_dj cX12_write rb_291 0 = true := by decide +kernel
theorem rd_291 : rv_DK (cX12_write, rb_291) := rv_dc_join 1 (fun j hj => by rcases (show j = 0 by omega) with rfl; exact rd_291_0) (by decide +kernel)
set_option maxRecDepth 1000000 in
theorem rd_292_0 : rv_dj cX12_wrongParting rb_292 0 = true := by decide +kernel
set_option maxRecDepth 1000000 in
theorem rd_292_1 : rv_dj cX12_wrongParting rb_292 1 = true := by decide +kernel
theorem rd_292 : rv_DK (cX12_wrongParting, rb_292) := rv_dc_join 2 (fun j hj => by
  rcases (show j = 0 ∨ j = 1 by omega) with rfl | rfl
  · exact rd_292_0
  · exact rd_292_1) (by decide +kernel)
set_option maxRecDepth 1000000 in
theorem rd_293_0 : rv_dj cX12_wrongPlace rb_293 0 = true := by decide +kernel
theorem rd_293 : rv_DK (cX12_wrongPlace, rb_293) := rv_dc_join 1 (fun j hj => by rcases (show j = 0 by omega) with rfl; exact rd_293_0) (by decide +kernel)
