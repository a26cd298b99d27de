set_option maxRecDepth 1000000 in
theorem rd_221_0 : rv_dj cX12_goesOn rb_221 0 = true := by decide +kernel
set_option maxRecDepth 1000000 in
theorem rd_221_1 : rv_dj cX12_goesOn rb_221 1 = true := by decide +kernel
theorem rd_221 : rv_DK (cX12_goesOn, rb_221) := rv_dc_join 2 (fun j hj => by
  rcases (show j = 0 ∨ j = 1 by omega) with rfl | rfl
  · exact rd_221_0
  · exact rd_221_1) (by decide +kernel)
set_option maxRecDepth 1000000 in
theorem rd_222_0 : rv_dj cX12_goesThrough rb_222 0 = true := by decide +kernel
set_option maxRecDepth 1000000 in
theorem rd_222_1 : rv_dj cX12_goesThrough rb_222 1 = true := by decide +kernel
theorem rd_222 : rv_DK (cX12_goesThrough, rb_222) := rv_dc_join 2 (fun j hj => by
  rcases (show j = 0 ∨ j = 1 by omega) with rfl | rfl
  · exact rd_222_0
  · exact rd_222_1) (by decide +kernel)
set_option maxRecDepth 1000000 in
theorem rd_223_0 : rv_dj cX12_gone rb_223 0 = true := by decide +kernel
theorem rd_223 : rv_DK (cX12_gone, rb_223) := rv_dc_join 1 (fun j hj => by rcases (show j = 0 by omega) with rfl; exact rd_223_0) (by decide +kernel)
set_option maxRecDepth 1000000 in
theorem rd_224_0 : rv_dj cX12_greedy rb_224 0 = true := by decide +kernel
set_option maxRecDepth 1000000 in
theorem rd_224_1 : rv_dj cX12_greedy rb_224 1 = true := by decide +kernel
set_option maxRecDepth 1000000 in
theorem rd_224_2 : rv_dj cX12_greedy rb_224 2 = true := by decide +kernel
set_option maxRecDepth 1000000 in
theorem rd_224_3 : rv_dj cX12_greedy rb_224 3 = true := by decide +kernel
theorem rd_224 : rv_DK (cX12_greedy, rb_224) := rv_dc_join 4 (fun j hj => by
  rcases (show j = 0 ∨ j = 1 ∨ j = 2 ∨ j = 3 by omega) with rfl | rfl | rfl | rfl
  · exact rd_224_0
  · exact rd_224_1
  · exact rd_224_2
  · exact rd_224_3) (by decide +kernel)
set_option maxRecDepth 1000000 in
theorem rd_225_0 : rv_dj cX12_hasPeace rb_225 0 = true := by decide +kernel
theorem rd_225 : rv_DK (cX12_hasPeace, rb_225) := rv_dc_join 1 (fun j hj => by rcases (show j = 0 by omega) with rfl; exact rd_225_0) (by decide +kernel)
set_option maxRecDepth 1000000 in
theorem rd_226_0 : rv_dj cX12_holds rb_226 0 = true := by decide +kernel
set_option maxRecDepth 1000000 in
theorem rd_226_1 : rv_dj cX12_holds rb_226 1 = true := by decide +kernel
set_option maxRecDepth 1000000 in
theorem rd_226_2 : rv_dj cX12_holds rb_226 2 = true := by decide +kernel
theorem rd_226 : rv_DK (cX12_holds, rb_226) := rv_dc_join 3 (fun j hj => by
  rcases (show j = 0 ∨ j = 1 ∨ j = 2 by omega) with rfl | rfl | rfl
  · exact rd_226_0
  · exact rd_226_1
  · exact rd_226_2) (by decide +kernel)
set_option maxRecDepth 1000000 in
theorem rd_227_0 : rv_dj cX12_init rb_227 0 = true := by decide +kernel
set_option maxRecDepth 1000000 in
theorem rd_227_1 : rv_dj cX12_init rb_227 1 = true := by decide +kernel
set_option maxRecDepth 1000000 in
theorem rd_227_2 : rv_dj cX12_init rb_227 2 = true := by decide +kernel
set_option maxRecDepth 1000000 in
theorem rd_227_3 : rv_dj cX12_init rb_227 3 = true := by decide +kernel
set_option maxRecDepth 1000000 in
theorem rd_227_4 : rv_dj cX12_init rb_227 4 = true := by decide +kernel
set_option maxRecDepth 1000000 in
theorem rd_227_5 : rv_dj cX12_init rb_227 5 = true := by decide +kernel
theorem rd_227 : rv_DK (cX12_init, rb_227) := rv_dc_join 6 (fun j hj => by
  rcases (show j = 0 ∨ j = 1 ∨ j = 2 ∨ j = 3 ∨ j = 4 ∨ j = 5 by omega) with rfl | rfl | rfl | rfl | rfl | rfl
  · exact rd_227_0
  · exact rd_227_1
  · exact rd_227_2
  · exact rd_227_3
  · exact rd_227_4
  · exact rd_227_5) (by decide +kernel)
set_option maxRecDepth 1000000 in
theorem rd_228_0 : rv_dj cX12_is rb_228 0 = true := by decide +kernel
theorem rd_228 : rv_DK (cX12_is, rb_228) := rv_dc_join 1 (fun j hj => by rcases (show j = 0 by omega) with rfl; exact rd_228_0) (by decide +kernel)
set_option maxRecDepth 1000000 in
theorem rd_229_0 : rv_dj cX12_isDigit rb_229 0 = true := by decide +kernel
theorem rd_229 : rv_DK (cX12_isDigit, rb_229) := rv_dc_join 1 (fun j hj => by rcases (show j = 0 by omega) with rfl; exact rd_229_0) (by decide +kernel)
set_option maxRecDepth 1000000 in
theorem rd_230_0 : rv_dj cX12_isGroup rb_230 0 = true := by decide +kernel
theorem rd_230 : rv_DK (cX12_isGroup, rb_230) := rv_dc_join 1 (fun j hj => by rcases (show j = 0 by omega) with rfl; exact rd_230_0) (by decide +kernel)
set_option maxRecDepth 1000000 in
theorem rd_231_0 : rv_dj cX12_isIn rb_231 0 = true := by decide +kernel
theorem rd_231 : rv_DK (cX12_isIn, rb_231) := rv_dc_join 1 (fun j hj => by rcases (show j = 0 by omega) with rfl; exact rd_231_0) (by decide +kernel)
set_option maxRecDepth 1000000 in
theorem rd_232_0 : rv_dj cX12_isKey rb_232 0 = true := by decide +kernel
theorem rd_232 : rv_DK (cX12_isKey, rb_232) := rv_dc_join 1 (fun j hj => by rcases (show j = 0 by omega) with rfl; exact rd_232_0) (by decide +kernel)
set_option maxRecDepth 1000000 in
theorem rd_233_0 : rv_dj cX12_isKind rb_233 0 = true := by decide +kernel
theorem rd_233 : rv_DK (cX12_isKind, rb_233) := rv_dc_join 1 (fun j hj => by rcases (show j = 0 by omega) with rfl; exact rd_233_0) (by decide +kernel)
set_option maxRecDepth 1000000 in
theorem rd_234_0 : rv_dj cX12_isName rb_234 0 = true := by decide +kernel
set_option maxRecDepth 1000000 in
theorem rd_234_1 : rv_dj cX12_isName rb_234 1 = true := by decide +kernel
theorem rd_234 : rv_DK (cX12_isName, rb_234) := rv_dc_join 2 (fun j hj => by
  rcases (show j = 0 ∨ j = 1 by omega) with rfl | rfl
  · exact rd_234_0
  · exact rd_234_1) (by decide +kernel)
set_option maxRecDepth 1000000 in
theorem rd_235_0 : rv_dj cX12_isPerson rb_235 0 = true := by decide +kernel
theorem rd_235 : rv_DK (cX12_isPerson, rb_235) := rv_dc_join 1 (fun j hj => by rcases (show j = 0 by omega) with rfl; exact rd_235_0) (by decide +kernel)
set_option maxRecDepth 1000000 in
theorem rd_236_0 : rv_dj cX12_isSign rb_236 0 = true := by decide +kernel
theorem rd_236 : rv_DK (cX12_isSign, rb_236) := rv_dc_join 1 (fun j hj => by rcases (show j = 0 by omega) with rfl; exact rd_236_0) (by decide +kernel)
set_option maxRecDepth 1000000 in
theorem rd_237_0 : rv_dj cX12_isSmall rb_237 0 = true := by decide +kernel
theorem rd_237 : rv_DK (cX12_isSmall, rb_237) := rv_dc_join 1 (fun j hj => by rcases (show j = 0 by omega) with rfl; exact rd_237_0) (by decide +kernel)
set_option maxRecDepth 1000000 in
theorem rd_238_0 : rv_dj cX12_isThere rb_238 0 = true := by decide +kernel
theorem rd_238 : rv_DK (cX12_isThere, rb_238) := rv_dc_join 1 (fun j hj => by rcases (show j = 0 by omega) with rfl; exact rd_238_0) (by decide +kernel)
set_option maxRecDepth 1000000 in
theorem rd_239_0 : rv_dj cX12_isTray rb_239 0 = true := by decide +kernel
theorem rd_239 : rv_DK (cX12_isTray, rb_239) := rv_dc_join 1 (fun j hj => by rcases (show j = 0 by omega) with rfl; exact rd_239_0) (by decide +kernel)
set_option maxRecDepth 1000000 in
theorem rd_240_0 : rv_dj cX12_isWord rb_240 0 = true := by decide +kernel
set_option maxRecDepth 1000000 in
theorem rd_240_1 : rv_dj cX12_isWord rb_240 1 = true := by decide +kernel
theorem rd_240 : rv_DK (cX12_isWord, rb_240) := rv_dc_join 2 (fun j hj => by
  rcases (show j = 0 ∨ j = 1 by omega) with rfl | rfl
  · exact rd_240_0
  · exact rd_240_1) (by decide +kernel)
set_option maxRecDepth 1000000 in
theorem rd_241_0 : rv_dj cX12_keepsBest rb_241 0 = true := by decide +kernel
theorem rd_241 : rv_DK (cX12_keepsBest, rb_241) := rv_dc_join 1 (fun j hj => by rcases (show j = 0 by omega) with rfl; exact rd_241_0) (by decide +kernel)
set_option maxRecDepth 1000000 in
theorem rd_242_0 : rv_dj cX12_knot rb_242 0 = true := by decide +kernel
set_option maxRecDepth 1000000 in
theorem rd_242_1 : rv_dj cX12_knot rb_242 1 = true := by decide +kernel
theorem rd_242 : rv_DK (cX12_knot, rb_242) := rv_dc_join 2 (fun j hj => by
  rcases (show j = 0 ∨ j = 1 by omega) with rfl | rfl
  · exact rd_242_0
  · exact rd_242_1) (by decide +kernel)
set_option maxRecDepth 1000000 in
theorem rd_243_0 : rv_dj cX12_lawful rb_243 0 = true := by decide +kernel
theorem rd_243 : rv_DK (cX12_lawful, rb_243) := rv_dc_join 1 (fun j hj => by rcases (show j = 0 by omega) with rfl; exact rd_243_0) (by decide +kernel)
set_option maxRecDepth 1000000 in
theorem rd_244_0 : rv_dj cX12_mend rb_244 0 = true := by decide +kernel
set_option maxRecDepth 1000000 in
theorem rd_244_1 : rv_dj cX12_mend rb_244 1 = true := by decide +kernel
set_option maxRecDepth 1000000 in
theorem rd_244_2 : rv_dj cX12_mend rb_244 2 = true := by decide +kernel
set_option maxRecDepth 1000000 in
theorem rd_244_3 : rv_dj cX12_mend rb_244 3 = true := by decide +kernel
theorem rd_244 : rv_DK (cX12_mend, rb_244) := rv_dc_join 4 (fun j hj => by
  rcases (show j = 0 ∨ j = 1 ∨ j = 2 ∨ j = 3 by omega) with rfl | rfl | rfl | rfl
  · exact rd_244_0
  · exact rd_244_1
  · exact rd_244_2
  · exact rd_244_3) (by decide +kernel)
set_option maxRecDepth 1000000 in
theorem rd_245_0 : rv_dj cX12_moves rb_245 0 = true := by decide +kernel
set_option maxRecDepth 1000000 in
theorem rd_245_1 : rv_dj cX12_moves rb_245 1 = true := by decide +kernel
set_option maxRecDepth 1000000 in
theorem rd_245_2 : rv_dj cX12_moves rb_245 2 = true := by decide +kernel
theorem rd_245 : rv_DK (cX12_moves, rb_245) := rv_dc_join 3 (fun j hj => by
  rcases (show j = 0 ∨ j = 1 ∨ j = 2 by omega) with rfl | rfl | rfl
  · exact rd_245_0
  · exact rd_245_1
  · exact rd_245_2) (by decide +kernel)
