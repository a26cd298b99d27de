set_option maxRecDepth 1000000 in
theorem rd_246_0 : rv_dj cX12_must rb_246 0 = true := by decide +kernel
set_option maxRecDepth 1000000 in
theorem rd_246_1 : rv_dj cX12_must rb_246 1 = true := by decide +kernel
theorem rd_246 : rv_DK (cX12_must, rb_246) := rv_dc_join 2 (fun j hj => by
  rcases (show j = 0 ∨ j = 1 by omega) with rfl | rfl
  · exact rd_246_0
  · exact rd_246_1) (by decide +kernel)
set_option maxRecDepth 1000000 in
theorem rd_247_0 : rv_dj cX12_named rb_247 0 = true := by decide +kernel
theorem rd_247 : rv_DK (cX12_named, rb_247) := rv_dc_join 1 (fun j hj => by rcases (show j = 0 by omega) with rfl; exact rd_247_0) (by decide +kernel)
set_option maxRecDepth 1000000 in
theorem rd_248_0 : rv_dj cX12_near rb_248 0 = true := by decide +kernel
theorem rd_248 : rv_DK (cX12_near, rb_248) := rv_dc_join 1 (fun j hj => by rcases (show j = 0 by omega) with rfl; exact rd_248_0) (by decide +kernel)
set_option maxRecDepth 1000000 in
theorem rd_249_0 : rv_dj cX12_nearRoom rb_249 0 = true := by decide +kernel
theorem rd_249 : rv_DK (cX12_nearRoom, rb_249) := rv_dc_join 1 (fun j hj => by rcases (show j = 0 by omega) with rfl; exact rd_249_0) (by decide +kernel)
set_option maxRecDepth 1000000 in
theorem rd_250_0 : rv_dj cX12_nears rb_250 0 = true := by decide +kernel
theorem rd_250 : rv_DK (cX12_nears, rb_250) := rv_dc_join 1 (fun j hj => by rcases (show j = 0 by omega) with rfl; exact rd_250_0) (by decide +kernel)
set_option maxRecDepth 1000000 in
theorem rd_251_0 : rv_dj cX12_next rb_251 0 = true := by decide +kernel
set_option maxRecDepth 1000000 in
theorem rd_251_1 : rv_dj cX12_next rb_251 1 = true := by decide +kernel
set_option maxRecDepth 1000000 in
theorem rd_251_2 : rv_dj cX12_next rb_251 2 = true := by decide +kernel
set_option maxRecDepth 1000000 in
theorem rd_251_3 : rv_dj cX12_next rb_251 3 = true := by decide +kernel
theorem rd_251 : rv_DK (cX12_next, rb_251) := rv_dc_join 4 (fun j hj => by
  rcases (show j = 0 ∨ j = 1 ∨ j = 2 ∨ j = 3 by omega) with rfl | rfl | rfl | rfl
  · exact rd_251_0
  · exact rd_251_1
  · exact rd_251_2
  · exact rd_251_3) (by decide +kernel)
set_option maxRecDepth 1000000 in
theorem rd_252_0 : rv_dj cX12_nobodyBars rb_252 0 = true := by decide +kernel
set_option maxRecDepth 1000000 in
theorem rd_252_1 : rv_dj cX12_nobodyBars rb_252 1 = true := by decide +kernel
theorem rd_252 : rv_DK (cX12_nobodyBars, rb_252) := rv_dc_join 2 (fun j hj => by
  rcases (show j = 0 ∨ j = 1 by omega) with rfl | rfl
  · exact rd_252_0
  · exact rd_252_1) (by decide +kernel)
set_option maxRecDepth 1000000 in
theorem rd_253_0 : rv_dj cX12_numbers rb_253 0 = true := by decide +kernel
set_option maxRecDepth 1000000 in
theorem rd_253_1 : rv_dj cX12_numbers rb_253 1 = true := by decide +kernel
theorem rd_253 : rv_DK (cX12_numbers, rb_253) := rv_dc_join 2 (fun j hj => by
  rcases (show j = 0 ∨ j = 1 by omega) with rfl | rfl
  · exact rd_253_0
  · exact rd_253_1) (by decide +kernel)
set_option maxRecDepth 1000000 in
theorem rd_254_0 : rv_dj cX12_one rb_254 0 = true := by decide +kernel
set_option maxRecDepth 1000000 in
theorem rd_254_1 : rv_dj cX12_one rb_254 1 = true := by decide +kernel
set_option maxRecDepth 1000000 in
theorem rd_254_2 : rv_dj cX12_one rb_254 2 = true := by decide +kernel
theorem rd_254 : rv_DK (cX12_one, rb_254) := rv_dc_join 3 (fun j hj => by
  rcases (show j = 0 ∨ j = 1 ∨ j = 2 by omega) with rfl | rfl | rfl
  · exact rd_254_0
  · exact rd_254_1
  · exact rd_254_2) (by decide +kernel)
set_option maxRecDepth 1000000 in
theorem rd_255_0 : rv_dj cX12_pairs rb_255 0 = true := by decide +kernel
set_option maxRecDepth 1000000 in
theorem rd_255_1 : rv_dj cX12_pairs rb_255 1 = true := by decide +kernel
theorem rd_255 : rv_DK (cX12_pairs, rb_255) := rv_dc_join 2 (fun j hj => by
  rcases (show j = 0 ∨ j = 1 by omega) with rfl | rfl
  · exact rd_255_0
  · exact rd_255_1) (by decide +kernel)
set_option maxRecDepth 1000000 in
theorem rd_256_0 : rv_dj cX12_person rb_256 0 = true := by decide +kernel
set_option maxRecDepth 1000000 in
theorem rd_256_1 : rv_dj cX12_person rb_256 1 = true := by decide +kernel
theorem rd_256 : rv_DK (cX12_person, rb_256) := rv_dc_join 2 (fun j hj => by
  rcases (show j = 0 ∨ j = 1 by omega) with rfl | rfl
  · exact rd_256_0
  · exact rd_256_1) (by decide +kernel)
set_option maxRecDepth 1000000 in
theorem rd_257_0 : rv_dj cX12_pour rb_257 0 = true := by decide +kernel
set_option maxRecDepth 1000000 in
theorem rd_257_1 : rv_dj cX12_pour rb_257 1 = true := by decide +kernel
set_option maxRecDepth 1000000 in
theorem rd_257_2 : rv_dj cX12_pour rb_257 2 = true := by decide +kernel
theorem rd_257 : rv_DK (cX12_pour, rb_257) := rv_dc_join 3 (fun j hj => by
  rcases (show j = 0 ∨ j = 1 ∨ j = 2 by omega) with rfl | rfl | rfl
  · exact rd_257_0
  · exact rd_257_1
  · exact rd_257_2) (by decide +kernel)
set_option maxRecDepth 1000000 in
theorem rd_258_0 : rv_dj cX12_puts rb_258 0 = true := by decide +kernel
theorem rd_258 : rv_DK (cX12_puts, rb_258) := rv_dc_join 1 (fun j hj => by rcases (show j = 0 by omega) with rfl; exact rd_258_0) (by decide +kernel)
set_option maxRecDepth 1000000 in
theorem rd_259_0 : rv_dj cX12_ran rb_259 0 = true := by decide +kernel
theorem rd_259 : rv_DK (cX12_ran, rb_259) := rv_dc_join 1 (fun j hj => by rcases (show j = 0 by omega) with rfl; exact rd_259_0) (by decide +kernel)
set_option maxRecDepth 1000000 in
theorem rd_260_0 : rv_dj cX12_rather rb_260 0 = true := by decide +kernel
theorem rd_260 : rv_DK (cX12_rather, rb_260) := rv_dc_join 1 (fun j hj => by rcases (show j = 0 by omega) with rfl; exact rd_260_0) (by decide +kernel)
set_option maxRecDepth 1000000 in
theorem rd_261_0 : rv_dj cX12_read rb_261 0 = true := by decide +kernel
theorem rd_261 : rv_DK (cX12_read, rb_261) := rv_dc_join 1 (fun j hj => by rcases (show j = 0 by omega) with rfl; exact rd_261_0) (by decide +kernel)
set_option maxRecDepth 1000000 in
theorem rd_262_0 : rv_dj cX12_reads rb_262 0 = true := by decide +kernel
set_option maxRecDepth 1000000 in
theorem rd_262_1 : rv_dj cX12_reads rb_262 1 = true := by decide +kernel
set_option maxRecDepth 1000000 in
theorem rd_262_2 : rv_dj cX12_reads rb_262 2 = true := by decide +kernel
set_option maxRecDepth 1000000 in
theorem rd_262_3 : rv_dj cX12_reads rb_262 3 = true := by decide +kernel
set_option maxRecDepth 1000000 in
theorem rd_262_4 : rv_dj cX12_reads rb_262 4 = true := by decide +kernel
theorem rd_262 : rv_DK (cX12_reads, rb_262) := rv_dc_join 5 (fun j hj => by
  rcases (show j = 0 ∨ j = 1 ∨ j = 2 ∨ j = 3 ∨ j = 4 by omega) with rfl | rfl | rfl | rfl | rfl
  · exact rd_262_0
  · exact rd_262_1
  · exact rd_262_2
  · exact rd_262_3
  · exact rd_262_4) (by decide +kernel)
set_option maxRecDepth 1000000 in
theorem rd_263_0 : rv_dj cX12_ready rb_263 0 = true := by decide +kernel
theorem rd_263 : rv_DK (cX12_ready, rb_263) := rv_dc_join 1 (fun j hj => by rcases (show j = 0 by omega) with rfl; exact rd_263_0) (by decide +kernel)
set_option maxRecDepth 1000000 in
theorem rd_264_0 : rv_dj cX12_refuse rb_264 0 = true := by decide +kernel
theorem rd_264 : rv_DK (cX12_refuse, rb_264) := rv_dc_join 1 (fun j hj => by rcases (show j = 0 by omega) with rfl; exact rd_264_0) (by decide +kernel)
set_option maxRecDepth 1000000 in
theorem rd_265_0 : rv_dj cX12_room rb_265 0 = true := by decide +kernel
theorem rd_265 : rv_DK (cX12_room, rb_265) := rv_dc_join 1 (fun j hj => by rcases (show j = 0 by omega) with rfl; exact rd_265_0) (by decide +kernel)
set_option maxRecDepth 1000000 in
theorem rd_266_0 : rv_dj cX12_rules rb_266 0 = true := by decide +kernel
set_option maxRecDepth 1000000 in
theorem rd_266_1 : rv_dj cX12_rules rb_266 1 = true := by decide +kernel
set_option maxRecDepth 1000000 in
theorem rd_266_2 : rv_dj cX12_rules rb_266 2 = true := by decide +kernel
theorem rd_266 : rv_DK (cX12_rules, rb_266) := rv_dc_join 3 (fun j hj => by
  rcases (show j = 0 ∨ j = 1 ∨ j = 2 by omega) with rfl | rfl | rfl
  · exact rd_266_0
  · exact rd_266_1
  · exact rd_266_2) (by decide +kernel)
