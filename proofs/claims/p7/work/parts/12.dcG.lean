set_option maxRecDepth 1000000 in
theorem rd_189_0 : rv_dj cX12_areLawful rb_189 0 = true := by decide +kernel
theorem rd_189 : rv_DK (cX12_areLawful, rb_189) := rv_dc_join 1 (fun j hj => by rcases (show j = 0 by omega) with rfl; exact rd_189_0) (by decide +kernel)
set_option maxRecDepth 1000000 in
theorem rd_190_0 : rv_dj cX12_asks rb_190 0 = true := by decide +kernel
set_option maxRecDepth 1000000 in
theorem rd_190_1 : rv_dj cX12_asks rb_190 1 = true := by decide +kernel
set_option maxRecDepth 1000000 in
theorem rd_190_2 : rv_dj cX12_asks rb_190 2 = true := by decide +kernel
theorem rd_190 : rv_DK (cX12_asks, rb_190) := rv_dc_join 3 (fun j hj => by
  rcases (show j = 0 ∨ j = 1 ∨ j = 2 by omega) with rfl | rfl | rfl
  · exact rd_190_0
  · exact rd_190_1
  · exact rd_190_2) (by decide +kernel)
set_option maxRecDepth 1000000 in
theorem rd_191_0 : rv_dj cX12_asksAll rb_191 0 = true := by decide +kernel
theorem rd_191 : rv_DK (cX12_asksAll, rb_191) := rv_dc_join 1 (fun j hj => by rcases (show j = 0 by omega) with rfl; exact rd_191_0) (by decide +kernel)
set_option maxRecDepth 1000000 in
theorem rd_192_0 : rv_dj cX12_atom rb_192 0 = true := by decide +kernel
set_option maxRecDepth 1000000 in
theorem rd_192_1 : rv_dj cX12_atom rb_192 1 = true := by decide +kernel
theorem rd_192 : rv_DK (cX12_atom, rb_192) := rv_dc_join 2 (fun j hj => by
  rcases (show j = 0 ∨ j = 1 by omega) with rfl | rfl
  · exact rd_192_0
  · exact rd_192_1) (by decide +kernel)
set_option maxRecDepth 1000000 in
theorem rd_193_0 : rv_dj cX12_atomHere rb_193 0 = true := by decide +kernel
set_option maxRecDepth 1000000 in
theorem rd_193_1 : rv_dj cX12_atomHere rb_193 1 = true := by decide +kernel
theorem rd_193 : rv_DK (cX12_atomHere, rb_193) := rv_dc_join 2 (fun j hj => by
  rcases (show j = 0 ∨ j = 1 by omega) with rfl | rfl
  · exact rd_193_0
  · exact rd_193_1) (by decide +kernel)
set_option maxRecDepth 1000000 in
theorem rd_194_0 : rv_dj cX12_bars rb_194 0 = true := by decide +kernel
theorem rd_194 : rv_DK (cX12_bars, rb_194) := rv_dc_join 1 (fun j hj => by rcases (show j = 0 by omega) with rfl; exact rd_194_0) (by decide +kernel)
set_option maxRecDepth 1000000 in
theorem rd_195_0 : rv_dj cX12_bear rb_195 0 = true := by decide +kernel
set_option maxRecDepth 1000000 in
theorem rd_195_1 : rv_dj cX12_bear rb_195 1 = true := by decide +kernel
theorem rd_195 : rv_DK (cX12_bear, rb_195) := rv_dc_join 2 (fun j hj => by
  rcases (show j = 0 ∨ j = 1 by omega) with rfl | rfl
  · exact rd_195_0
  · exact rd_195_1) (by decide +kernel)
set_option maxRecDepth 1000000 in
theorem rd_196_0 : rv_dj cX12_beginsAll rb_196 0 = true := by decide +kernel
theorem rd_196 : rv_DK (cX12_beginsAll, rb_196) := rv_dc_join 1 (fun j hj => by rcases (show j = 0 by omega) with rfl; exact rd_196_0) (by decide +kernel)
set_option maxRecDepth 1000000 in
theorem rd_197_0 : rv_dj cX12_bestGroup rb_197 0 = true := by decide +kernel
theorem rd_197 : rv_DK (cX12_bestGroup, rb_197) := rv_dc_join 1 (fun j hj => by rcases (show j = 0 by omega) with rfl; exact rd_197_0) (by decide +kernel)
set_option maxRecDepth 1000000 in
theorem rd_198_0 : rv_dj cX12_bits rb_198 0 = true := by decide +kernel
theorem rd_198 : rv_DK (cX12_bits, rb_198) := rv_dc_join 1 (fun j hj => by rcases (show j = 0 by omega) with rfl; exact rd_198_0) (by decide +kernel)
set_option maxRecDepth 1000000 in
theorem rd_199_0 : rv_dj cX12_borne rb_199 0 = true := by decide +kernel
theorem rd_199 : rv_DK (cX12_borne, rb_199) := rv_dc_join 1 (fun j hj => by rcases (show j = 0 by omega) with rfl; exact rd_199_0) (by decide +kernel)
set_option maxRecDepth 1000000 in
theorem rd_200_0 : rv_dj cX12_breakCount rb_200 0 = true := by decide +kernel
theorem rd_200 : rv_DK (cX12_breakCount, rb_200) := rv_dc_join 1 (fun j hj => by rcases (show j = 0 by omega) with rfl; exact rd_200_0) (by decide +kernel)
set_option maxRecDepth 1000000 in
theorem rd_201_0 : rv_dj cX12_breaks rb_201 0 = true := by decide +kernel
theorem rd_201 : rv_DK (cX12_breaks, rb_201) := rv_dc_join 1 (fun j hj => by rcases (show j = 0 by omega) with rfl; exact rd_201_0) (by decide +kernel)
set_option maxRecDepth 1000000 in
theorem rd_202_0 : rv_dj cX12_breaks0 rb_202 0 = true := by decide +kernel
theorem rd_202 : rv_DK (cX12_breaks0, rb_202) := rv_dc_join 1 (fun j hj => by rcases (show j = 0 by omega) with rfl; exact rd_202_0) (by decide +kernel)
set_option maxRecDepth 1000000 in
theorem rd_203_0 : rv_dj cX12_byteAt rb_203 0 = true := by decide +kernel
theorem rd_203 : rv_DK (cX12_byteAt, rb_203) := rv_dc_join 1 (fun j hj => by rcases (show j = 0 by omega) with rfl; exact rd_203_0) (by decide +kernel)
set_option maxRecDepth 1000000 in
theorem rd_204_0 : rv_dj cX12_cameAt rb_204 0 = true := by decide +kernel
set_option maxRecDepth 1000000 in
theorem rd_204_1 : rv_dj cX12_cameAt rb_204 1 = true := by decide +kernel
theorem rd_204 : rv_DK (cX12_cameAt, rb_204) := rv_dc_join 2 (fun j hj => by
  rcases (show j = 0 ∨ j = 1 by omega) with rfl | rfl
  · exact rd_204_0
  · exact rd_204_1) (by decide +kernel)
set_option maxRecDepth 1000000 in
theorem rd_205_0 : rv_dj cX12_cores rb_205 0 = true := by decide +kernel
set_option maxRecDepth 1000000 in
theorem rd_205_1 : rv_dj cX12_cores rb_205 1 = true := by decide +kernel
set_option maxRecDepth 1000000 in
theorem rd_205_2 : rv_dj cX12_cores rb_205 2 = true := by decide +kernel
theorem rd_205 : rv_DK (cX12_cores, rb_205) := rv_dc_join 3 (fun j hj => by
  rcases (show j = 0 ∨ j = 1 ∨ j = 2 by omega) with rfl | rfl | rfl
  · exact rd_205_0
  · exact rd_205_1
  · exact rd_205_2) (by decide +kernel)
set_option maxRecDepth 1000000 in
theorem rd_206_0 : rv_dj cX12_count rb_206 0 = true := by decide +kernel
theorem rd_206 : rv_DK (cX12_count, rb_206) := rv_dc_join 1 (fun j hj => by rcases (show j = 0 by omega) with rfl; exact rd_206_0) (by decide +kernel)
set_option maxRecDepth 1000000 in
theorem rd_207_0 : rv_dj cX12_countedWorth rb_207 0 = true := by decide +kernel
theorem rd_207 : rv_DK (cX12_countedWorth, rb_207) := rv_dc_join 1 (fun j hj => by rcases (show j = 0 by omega) with rfl; exact rd_207_0) (by decide +kernel)
set_option maxRecDepth 1000000 in
theorem rd_208_0 : rv_dj cX12_cut rb_208 0 = true := by decide +kernel
theorem rd_208 : rv_DK (cX12_cut, rb_208) := rv_dc_join 1 (fun j hj => by rcases (show j = 0 by omega) with rfl; exact rd_208_0) (by decide +kernel)
set_option maxRecDepth 1000000 in
theorem rd_209_0 : rv_dj cX12_does rb_209 0 = true := by decide +kernel
set_option maxRecDepth 1000000 in
theorem rd_209_1 : rv_dj cX12_does rb_209 1 = true := by decide +kernel
set_option maxRecDepth 1000000 in
theorem rd_209_2 : rv_dj cX12_does rb_209 2 = true := by decide +kernel
theorem rd_209 : rv_DK (cX12_does, rb_209) := rv_dc_join 3 (fun j hj => by
  rcases (show j = 0 ∨ j = 1 ∨ j = 2 by omega) with rfl | rfl | rfl
  · exact rd_209_0
  · exact rd_209_1
  · exact rd_209_2) (by decide +kernel)
set_option maxRecDepth 1000000 in
theorem rd_210_0 : rv_dj cX12_everybody rb_210 0 = true := by decide +kernel
theorem rd_210 : rv_DK (cX12_everybody, rb_210) := rv_dc_join 1 (fun j hj => by rcases (show j = 0 by omega) with rfl; exact rd_210_0) (by decide +kernel)
set_option maxRecDepth 1000000 in
theorem rd_211_0 : rv_dj cX12_fails rb_211 0 = true := by decide +kernel
theorem rd_211 : rv_DK (cX12_fails, rb_211) := rv_dc_join 1 (fun j hj => by rcases (show j = 0 by omega) with rfl; exact rd_211_0) (by decide +kernel)
set_option maxRecDepth 1000000 in
theorem rd_212_0 : rv_dj cX12_fault rb_212 0 = true := by decide +kernel
theorem rd_212 : rv_DK (cX12_fault, rb_212) := rv_dc_join 1 (fun j hj => by rcases (show j = 0 by omega) with rfl; exact rd_212_0) (by decide +kernel)
set_option maxRecDepth 1000000 in
theorem rd_213_0 : rv_dj cX12_feed rb_213 0 = true := by decide +kernel
theorem rd_213 : rv_DK (cX12_feed, rb_213) := rv_dc_join 1 (fun j hj => by rcases (show j = 0 by omega) with rfl; exact rd_213_0) (by decide +kernel)
set_option maxRecDepth 1000000 in
theorem rd_214_0 : rv_dj cX12_finds rb_214 0 = true := by decide +kernel
theorem rd_214 : rv_DK (cX12_finds, rb_214) := rv_dc_join 1 (fun j hj => by rcases (show j = 0 by omega) with rfl; exact rd_214_0) (by decide +kernel)
set_option maxRecDepth 1000000 in
theorem rd_215_0 : rv_dj cX12_first rb_215 0 = true := by decide +kernel
set_option maxRecDepth 1000000 in
theorem rd_215_1 : rv_dj cX12_first rb_215 1 = true := by decide +kernel
theorem rd_215 : rv_DK (cX12_first, rb_215) := rv_dc_join 2 (fun j hj => by
  rcases (show j = 0 ∨ j = 1 by omega) with rfl | rfl
  · exact rd_215_0
  · exact rd_215_1) (by decide +kernel)
set_option maxRecDepth 1000000 in
theorem rd_216_0 : rv_dj cX12_four rb_216 0 = true := by decide +kernel
theorem rd_216 : rv_DK (cX12_four, rb_216) := rv_dc_join 1 (fun j hj => by rcases (show j = 0 by omega) with rfl; exact rd_216_0) (by decide +kernel)
set_option maxRecDepth 1000000 in
theorem rd_217_0 : rv_dj cX12_gain rb_217 0 = true := by decide +kernel
set_option maxRecDepth 1000000 in
theorem rd_217_1 : rv_dj cX12_gain rb_217 1 = true := by decide +kernel
theorem rd_217 : rv_DK (cX12_gain, rb_217) := rv_dc_join 2 (fun j hj => by
  rcases (show j = 0 ∨ j = 1 by omega) with rfl | rfl
  · exact rd_217_0
  · exact rd_217_1) (by decide +kernel)
set_option maxRecDepth 1000000 in
theorem rd_218_0 : rv_dj cX12_gainOf rb_218 0 = true := by decide +kernel
theorem rd_218 : rv_DK (cX12_gainOf, rb_218) := rv_dc_join 1 (fun j hj => by rcases (show j = 0 by omega) with rfl; exact rd_218_0) (by decide +kernel)
set_option maxRecDepth 1000000 in
theorem rd_219_0 : rv_dj cX12_gives rb_219 0 = true := by decide +kernel
theorem rd_219 : rv_DK (cX12_gives, rb_219) := rv_dc_join 1 (fun j hj => by rcases (show j = 0 by omega) with rfl; exact rd_219_0) (by decide +kernel)
set_option maxRecDepth 1000000 in
theorem rd_220_0 : rv_dj cX12_goes rb_220 0 = true := by decide +kernel
set_option maxRecDepth 1000000 in
theorem rd_220_1 : rv_dj cX12_goes rb_220 1 = true := by decide +kernel
set_option maxRecDepth 1000000 in
theorem rd_220_2 : rv_dj cX12_goes rb_220 2 = true := by decide +kernel
set_option maxRecDepth 1000000 in
theorem rd_220_3 : rv_dj cX12_goes rb_220 3 = true := by decide +kernel
theorem rd_220 : rv_DK (cX12_goes, rb_220) := rv_dc_join 4 (fun j hj => by
  rcases (show j = 0 ∨ j = 1 ∨ j = 2 ∨ j = 3 by omega) with rfl | rfl | rfl | rfl
  · exact rd_220_0
  · exact rd_220_1
  · exact rd_220_2
  · exact rd_220_3) (by decide +kernel)
