set_option maxRecDepth 1000000 in
theorem rd_267_0 : rv_dj cX12_run rb_267 0 = true := by decide +kernel
set_option maxRecDepth 1000000 in
theorem rd_267_1 : rv_dj cX12_run rb_267 1 = true := by decide +kernel
set_option maxRecDepth 1000000 in
theorem rd_267_2 : rv_dj cX12_run rb_267 2 = true := by decide +kernel
theorem rd_267 : rv_DK (cX12_run, rb_267) := rv_dc_join 3 (fun j hj => by
  rcases (show j = 0 ∨ j = 1 ∨ j = 2 by omega) with rfl | rfl | rfl
  · exact rd_267_0
  · exact rd_267_1
  · exact rd_267_2) (by decide +kernel)
set_option maxRecDepth 1000000 in
theorem rd_268_0 : rv_dj cX12_saying rb_268 0 = true := by decide +kernel
set_option maxRecDepth 1000000 in
theorem rd_268_1 : rv_dj cX12_saying rb_268 1 = true := by decide +kernel
set_option maxRecDepth 1000000 in
theorem rd_268_2 : rv_dj cX12_saying rb_268 2 = true := by decide +kernel
theorem rd_268 : rv_DK (cX12_saying, rb_268) := rv_dc_join 3 (fun j hj => by
  rcases (show j = 0 ∨ j = 1 ∨ j = 2 by omega) with rfl | rfl | rfl
  · exact rd_268_0
  · exact rd_268_1
  · exact rd_268_2) (by decide +kernel)
set_option maxRecDepth 1000000 in
theorem rd_269_0 : rv_dj cX12_scans rb_269 0 = true := by decide +kernel
set_option maxRecDepth 1000000 in
theorem rd_269_1 : rv_dj cX12_scans rb_269 1 = true := by decide +kernel
set_option maxRecDepth 1000000 in
theorem rd_269_2 : rv_dj cX12_scans rb_269 2 = true := by decide +kernel
theorem rd_269 : rv_DK (cX12_scans, rb_269) := rv_dc_join 3 (fun j hj => by
  rcases (show j = 0 ∨ j = 1 ∨ j = 2 by omega) with rfl | rfl | rfl
  · exact rd_269_0
  · exact rd_269_1
  · exact rd_269_2) (by decide +kernel)
set_option maxRecDepth 1000000 in
theorem rd_270_0 : rv_dj cX12_sets rb_270 0 = true := by decide +kernel
set_option maxRecDepth 1000000 in
theorem rd_270_1 : rv_dj cX12_sets rb_270 1 = true := by decide +kernel
theorem rd_270 : rv_DK (cX12_sets, rb_270) := rv_dc_join 2 (fun j hj => by
  rcases (show j = 0 ∨ j = 1 by omega) with rfl | rfl
  · exact rd_270_0
  · exact rd_270_1) (by decide +kernel)
set_option maxRecDepth 1000000 in
theorem rd_271_0 : rv_dj cX12_sizes rb_271 0 = true := by decide +kernel
theorem rd_271 : rv_DK (cX12_sizes, rb_271) := rv_dc_join 1 (fun j hj => by rcases (show j = 0 by omega) with rfl; exact rd_271_0) (by decide +kernel)
set_option maxRecDepth 1000000 in
theorem rd_272_0 : rv_dj cX12_some rb_272 0 = true := by decide +kernel
theorem rd_272 : rv_DK (cX12_some, rb_272) := rv_dc_join 1 (fun j hj => by rcases (show j = 0 by omega) with rfl; exact rd_272_0) (by decide +kernel)
set_option maxRecDepth 1000000 in
theorem rd_273_0 : rv_dj cX12_sort rb_273 0 = true := by decide +kernel
theorem rd_273 : rv_DK (cX12_sort, rb_273) := rv_dc_join 1 (fun j hj => by rcases (show j = 0 by omega) with rfl; exact rd_273_0) (by decide +kernel)
set_option maxRecDepth 1000000 in
theorem rd_274_0 : rv_dj cX12_status rb_274 0 = true := by decide +kernel
theorem rd_274 : rv_DK (cX12_status, rb_274) := rv_dc_join 1 (fun j hj => by rcases (show j = 0 by omega) with rfl; exact rd_274_0) (by decide +kernel)
set_option maxRecDepth 1000000 in
theorem rd_275_0 : rv_dj cX12_step rb_275 0 = true := by decide +kernel
theorem rd_275 : rv_DK (cX12_step, rb_275) := rv_dc_join 1 (fun j hj => by rcases (show j = 0 by omega) with rfl; exact rd_275_0) (by decide +kernel)
set_option maxRecDepth 1000000 in
theorem rd_276_0 : rv_dj cX12_sum rb_276 0 = true := by decide +kernel
theorem rd_276 : rv_DK (cX12_sum, rb_276) := rv_dc_join 1 (fun j hj => by rcases (show j = 0 by omega) with rfl; exact rd_276_0) (by decide +kernel)
set_option maxRecDepth 1000000 in
theorem rd_277_0 : rv_dj cX12_swaps rb_277 0 = true := by decide +kernel
set_option maxRecDepth 1000000 in
theorem rd_277_1 : rv_dj cX12_swaps rb_277 1 = true := by decide +kernel
set_option maxRecDepth 1000000 in
theorem rd_277_2 : rv_dj cX12_swaps rb_277 2 = true := by decide +kernel
theorem rd_277 : rv_DK (cX12_swaps, rb_277) := rv_dc_join 3 (fun j hj => by
  rcases (show j = 0 ∨ j = 1 ∨ j = 2 by omega) with rfl | rfl | rfl
  · exact rd_277_0
  · exact rd_277_1
  · exact rd_277_2) (by decide +kernel)
set_option maxRecDepth 1000000 in
theorem rd_278_0 : rv_dj cX12_tells rb_278 0 = true := by decide +kernel
theorem rd_278 : rv_DK (cX12_tells, rb_278) := rv_dc_join 1 (fun j hj => by rcases (show j = 0 by omega) with rfl; exact rd_278_0) (by decide +kernel)
set_option maxRecDepth 1000000 in
theorem rd_279_0 : rv_dj cX12_test rb_279 0 = true := by decide +kernel
theorem rd_279 : rv_DK (cX12_test, rb_279) := rv_dc_join 1 (fun j hj => by rcases (show j = 0 by omega) with rfl; exact rd_279_0) (by decide +kernel)
set_option maxRecDepth 1000000 in
theorem rd_280_0 : rv_dj cX12_together rb_280 0 = true := by decide +kernel
set_option maxRecDepth 1000000 in
theorem rd_280_1 : rv_dj cX12_together rb_280 1 = true := by decide +kernel
theorem rd_280 : rv_DK (cX12_together, rb_280) := rv_dc_join 2 (fun j hj => by
  rcases (show j = 0 ∨ j = 1 by omega) with rfl | rfl
  · exact rd_280_0
  · exact rd_280_1) (by decide +kernel)
set_option maxRecDepth 1000000 in
theorem rd_281_0 : rv_dj cX12_tray rb_281 0 = true := by decide +kernel
set_option maxRecDepth 1000000 in
theorem rd_281_1 : rv_dj cX12_tray rb_281 1 = true := by decide +kernel
theorem rd_281 : rv_DK (cX12_tray, rb_281) := rv_dc_join 2 (fun j hj => by
  rcases (show j = 0 ∨ j = 1 by omega) with rfl | rfl
  · exact rd_281_0
  · exact rd_281_1) (by decide +kernel)
set_option maxRecDepth 1000000 in
theorem rd_282_0 : rv_dj cX12_valueOf rb_282 0 = true := by decide +kernel
set_option maxRecDepth 1000000 in
theorem rd_282_1 : rv_dj cX12_valueOf rb_282 1 = true := by decide +kernel
theorem rd_282 : rv_DK (cX12_valueOf, rb_282) := rv_dc_join 2 (fun j hj => by
  rcases (show j = 0 ∨ j = 1 by omega) with rfl | rfl
  · exact rd_282_0
  · exact rd_282_1) (by decide +kernel)
set_option maxRecDepth 1000000 in
theorem rd_283_0 : rv_dj cX12_want rb_283 0 = true := by decide +kernel
theorem rd_283 : rv_DK (cX12_want, rb_283) := rv_dc_join 1 (fun j hj => by rcases (show j = 0 by omega) with rfl; exact rd_283_0) (by decide +kernel)
set_option maxRecDepth 1000000 in
theorem rd_284_0 : rv_dj cX12_week rb_284 0 = true := by decide +kernel
theorem rd_284 : rv_DK (cX12_week, rb_284) := rv_dc_join 1 (fun j hj => by rcases (show j = 0 by omega) with rfl; exact rd_284_0) (by decide +kernel)
set_option maxRecDepth 1000000 in
theorem rd_285_0 : rv_dj cX12_weeks rb_285 0 = true := by decide +kernel
set_option maxRecDepth 1000000 in
theorem rd_285_1 : rv_dj cX12_weeks rb_285 1 = true := by decide +kernel
set_option maxRecDepth 1000000 in
theorem rd_285_2 : rv_dj cX12_weeks rb_285 2 = true := by decide +kernel
set_option maxRecDepth 1000000 in
theorem rd_285_3 : rv_dj cX12_weeks rb_285 3 = true := by decide +kernel
theorem rd_285 : rv_DK (cX12_weeks, rb_285) := rv_dc_join 4 (fun j hj => by
  rcases (show j = 0 ∨ j = 1 ∨ j = 2 ∨ j = 3 by omega) with rfl | rfl | rfl | rfl
  · exact rd_285_0
  · exact rd_285_1
  · exact rd_285_2
  · exact rd_285_3) (by decide +kernel)
set_option maxRecDepth 1000000 in
theorem rd_286_0 : rv_dj cX12_wholeHouse rb_286 0 = true := by decide +kernel
theorem rd_286 : rv_DK (cX12_wholeHouse, rb_286) := rv_dc_join 1 (fun j hj => by rcases (show j = 0 by omega) with rfl; exact rd_286_0) (by decide +kernel)
set_option maxRecDepth 1000000 in
theorem rd_287_0 : rv_dj cX12_wish rb_287 0 = true := by decide +kernel
set_option maxRecDepth 1000000 in
theorem rd_287_1 : rv_dj cX12_wish rb_287 1 = true := by decide +kernel
set_option maxRecDepth 1000000 in
theorem rd_287_2 : rv_dj cX12_wish rb_287 2 = true := by decide +kernel
set_option maxRecDepth 1000000 in
theorem rd_287_3 : rv_dj cX12_wish rb_287 3 = true := by decide +kernel
set_option maxRecDepth 1000000 in
theorem rd_287_4 : rv_dj cX12_wish rb_287 4 = true := by decide +kernel
set_option maxRecDepth 1000000 in
theorem rd_287_5 : rv_dj cX12_wish rb_287 5 = true := by decide +kernel
set_option maxRecDepth 1000000 in
theorem rd_287_6 : rv_dj cX12_wish rb_287 6 = true := by decide +kernel
set_option maxRecDepth 1000000 in
theorem rd_287_7 : rv_dj cX12_wish rb_287 7 = true := by decide +kernel
theorem rd_287 : rv_DK (cX12_wish, rb_287) := rv_dc_join 8 (fun j hj => by
  rcases (show j = 0 ∨ j = 1 ∨ j = 2 ∨ j = 3 ∨ j = 4 ∨ j = 5 ∨ j = 6 ∨ j = 7 by omega) with rfl | rfl | rfl | rfl | rfl | rfl | rfl | rfl
  · exact rd_287_0
  · exact rd_287_1
  · exact rd_287_2
  · exact rd_287_3
  · exact rd_287_4
  · exact rd_287_5
  · exact rd_287_6
  · exact rd_287_7) (by decide +kernel)
