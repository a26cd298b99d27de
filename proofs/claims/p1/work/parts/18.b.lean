set_option maxHeartbeats 1000000 in
/-- status -/
theorem lw_k0 {p : Program} {l : Launch} {e : Env} {s : State} {m : MethodId} {below : List Frame} {meth : Method} {c : Code} {b : Nat} {xs : Nat → Int32} {ρ : Nat → Int64} {D : va_G} {cA : Nat → ClassId} (C : lw_X p s m meth c b xs D cA) {ws : va_W} {H : Heap} {locs : List Loc} {ls : Array Slot} {q0 q1 : Nat} (hw : rv_Wd ρ D cA (lw_A s) s [] rh_2 ws H locs) (hq0 : (ws.map Prod.fst)[0]? = some q0) (hq1 : (ws.map Prod.fst)[100]? = some q1) (hl : lv_has ls 4 [(0, .ref b), (1, .ref q0), (2, .ref q1), (3, .int 0)]) : W p l e room_1 s m #[Value.ref b] below meth c H locs 143 52759 (lw_Z below #[Value.ref b] s) (F0 m 192 ls []) := by
  obtain ⟨C0, hKK⟩ := C
  have hts2 := lw_hts C0
  have hx := C0.1
  have hb := C0.2.1
  have hown := C0.2.2.2.2.1
  obtain ⟨as, has, hvs0⟩ := rv_prod_s (ρ := ρ) (L := ws.map Prod.fst) (xs := []) rk_c0 rfl
  obtain ⟨os, hev, hos⟩ := rv_bth_s (rk_0 as has)
  have hlas : as.length = 0 := rv_Vs_len hvs0
  refine lv_aload_n hx hb dL_law_192 rfl (lv_at hl 1 rfl) ?_
  refine lw_cV C0 hKK (k := 13) (mi := 95) (ci := 11) (d := 1) (ts := [12041, 12042, 12043, 10001]) (by decide +kernel) (orc := rv_no) lw_no hev rfl (by simp [hlas]) (vs := [.ref q0]) (rest := []) ⟨⟨q0, hq0, rfl⟩, hvs0⟩ (Nat.le_of_ble_eq_true rfl) hl.1 dL_law_193 hw ⟨Nat.le_of_ble_eq_true rfl, Nat.le_of_ble_eq_true rfl⟩ rfl (fun o ho ws2 v H1 locs1 hrv hw2 hmn => ?_)
  obtain ⟨v1, os2, ho1, hC, hrc, hev2, h2⟩ := rv_b2_s (hos o ho)
  rw [ho1] at hrv
  cases v with
  | none => exact hrv.elim
  | some w =>
    obtain ⟨z, rfl, rfl⟩ := rv_isC_f hC (show rv_V ρ (ws2.map Prod.fst) v1 w from hrv)
    refine lv_aload_n hx hb dL_law_196 rfl (lv_at hl 2 rfl) ?_
    refine lw_cV C0 hKK (k := 17) (mi := 166) (ci := 12) (d := 1) (ts := [16052, 16053, 16054, 10013]) (by decide +kernel) (orc := rv_no) lw_no hev2 hrc (by simp [hlas]) (vs := [.ref q1]) (rest := [.int z]) ⟨⟨q1, hmn _ _ hq1, rfl⟩, (rv_Vs_mono hmn hvs0)⟩ (Nat.le_of_ble_eq_true rfl) hl.1 dL_law_197 hw2 ⟨Nat.le_of_ble_eq_true rfl, Nat.le_of_ble_eq_true rfl⟩ rfl (fun o2 ho2 ws3 v3 H2 locs2 hrv2 hw3 hmn2 => ?_)
    rw [h2 o2 ho2] at hrv2
    cases v3 with
    | none => exact hrv2.elim
    | some w2 =>
      cases (show w2 = .int z from hrv2)
      refine lv_icmp_eq (tgt := 1477) hx hb dL_law_200 (by decide) (fun _ => ?_) (fun q => absurd rfl q)
      exact lw_end C0 hl hw3.2.2.2.1 (Nat.le_of_ble_eq_true rfl) (Nat.le_of_ble_eq_true rfl)
set_option maxHeartbeats 1000000 in
/-- tray -/
theorem lw_k1 {p : Program} {l : Launch} {e : Env} {s : State} {m : MethodId} {below : List Frame} {meth : Method} {c : Code} {b : Nat} {xs : Nat → Int32} {ρ : Nat → Int64} {D : va_G} {cA : Nat → ClassId} (C : lw_X p s m meth c b xs D cA) {ws : va_W} {H : Heap} {locs : List Loc} {ls : Array Slot} {q0 q1 : Nat} (hw : rv_Wd ρ D cA (lw_A s) s [] rh_2 ws H locs) (hq0 : (ws.map Prod.fst)[0]? = some q0) (hq1 : (ws.map Prod.fst)[100]? = some q1) (hl : lv_has ls 4 [(0, .ref b), (1, .ref q0), (2, .ref q1), (3, .int 0)]) : W p l e room_1 s m #[Value.ref b] below meth c H locs 143 52759 (lw_Z below #[Value.ref b] s) (F0 m 205 ls []) := by
  obtain ⟨C0, hKK⟩ := C
  have hts2 := lw_hts C0
  have hx := C0.1
  have hb := C0.2.1
  have hown := C0.2.2.2.2.1
  obtain ⟨as, has, hvs0⟩ := rv_prod_s (ρ := ρ) (L := ws.map Prod.fst) (xs := [xs 1, xs 2, xs 3]) rk_c1 rfl
  obtain ⟨os, hev, hos⟩ := rv_bth_s (rk_1 as has)
  have hlas : as.length = 3 := rv_Vs_len hvs0
  refine lv_aload_n hx hb dL_law_205 rfl (lv_at hl 1 rfl) ?_
  refine lw_arg C0 (j := 1) (pc := 206) (by decide) (by decide) dL_law_206 dL_law_207 dL_law_208 dL_law_209 dL_law_210 hl (lv_at hl 0 rfl) (lv_at hl 3 rfl) hw.2.2.2.1 ?_
  refine lw_arg C0 (j := 2) (pc := 211) (by decide) (by decide) dL_law_211 dL_law_212 dL_law_213 dL_law_214 dL_law_215 hl (lv_at hl 0 rfl) (lv_at hl 3 rfl) hw.2.2.2.1 ?_
  refine lw_arg C0 (j := 3) (pc := 216) (by decide) (by decide) dL_law_216 dL_law_217 dL_law_218 dL_law_219 dL_law_220 hl (lv_at hl 0 rfl) (lv_at hl 3 rfl) hw.2.2.2.1 ?_
  refine lw_cV C0 hKK (k := 18) (mi := 100) (ci := 11) (d := 4) (ts := [12045, 12046, 12047, 10001]) (by decide +kernel) (orc := rv_no) lw_no hev rfl (by simp [hlas]) (vs := [.ref q0, .int (xs 1), .int (xs 2), .int (xs 3)]) (rest := []) ⟨⟨q0, hq0, rfl⟩, hvs0⟩ (Nat.le_of_ble_eq_true rfl) hl.1 dL_law_221 hw ⟨Nat.le_of_ble_eq_true rfl, Nat.le_of_ble_eq_true rfl⟩ rfl (fun o ho ws2 v H1 locs1 hrv hw2 hmn => ?_)
  obtain ⟨v1, os2, ho1, hC, hrc, hev2, h2⟩ := rv_b2_s (hos o ho)
  rw [ho1] at hrv
  cases v with
  | none => exact hrv.elim
  | some w =>
    obtain ⟨z, rfl, rfl⟩ := rv_isC_f hC (show rv_V ρ (ws2.map Prod.fst) v1 w from hrv)
    refine lv_aload_n hx hb dL_law_224 rfl (lv_at hl 2 rfl) ?_
    refine lw_arg C0 (j := 1) (pc := 225) (by decide) (by decide) dL_law_225 dL_law_226 dL_law_227 dL_law_228 dL_law_229 hl (lv_at hl 0 rfl) (lv_at hl 3 rfl) hw2.2.2.2.1 ?_
    refine lw_arg C0 (j := 2) (pc := 230) (by decide) (by decide) dL_law_230 dL_law_231 dL_law_232 dL_law_233 dL_law_234 hl (lv_at hl 0 rfl) (lv_at hl 3 rfl) hw2.2.2.2.1 ?_
    refine lw_arg C0 (j := 3) (pc := 235) (by decide) (by decide) dL_law_235 dL_law_236 dL_law_237 dL_law_238 dL_law_239 hl (lv_at hl 0 rfl) (lv_at hl 3 rfl) hw2.2.2.2.1 ?_
    refine lw_cV C0 hKK (k := 22) (mi := 171) (ci := 12) (d := 4) (ts := [16056, 16057, 16058, 10013]) (by decide +kernel) (orc := rv_no) lw_no hev2 hrc (by simp [hlas]) (vs := [.ref q1, .int (xs 1), .int (xs 2), .int (xs 3)]) (rest := [.int z]) ⟨⟨q1, hmn _ _ hq1, rfl⟩, (rv_Vs_mono hmn hvs0)⟩ (Nat.le_of_ble_eq_true rfl) hl.1 dL_law_240 hw2 ⟨Nat.le_of_ble_eq_true rfl, Nat.le_of_ble_eq_true rfl⟩ rfl (fun o2 ho2 ws3 v3 H2 locs2 hrv2 hw3 hmn2 => ?_)
    rw [h2 o2 ho2] at hrv2
    cases v3 with
    | none => exact hrv2.elim
    | some w2 =>
      cases (show w2 = .int z from hrv2)
      refine lv_icmp_eq (tgt := 1477) hx hb dL_law_243 (by decide) (fun _ => ?_) (fun q => absurd rfl q)
      exact lw_end C0 hl hw3.2.2.2.1 (Nat.le_of_ble_eq_true rfl) (Nat.le_of_ble_eq_true rfl)
set_option maxHeartbeats 1000000 in
/-- write -/
theorem lw_k2 {p : Program} {l : Launch} {e : Env} {s : State} {m : MethodId} {below : List Frame} {meth : Method} {c : Code} {b : Nat} {xs : Nat → Int32} {ρ : Nat → Int64} {D : va_G} {cA : Nat → ClassId} (C : lw_X p s m meth c b xs D cA) {ws : va_W} {H : Heap} {locs : List Loc} {ls : Array Slot} {q0 q1 : Nat} (hw : rv_Wd ρ D cA (lw_A s) s [] rh_2 ws H locs) (hq0 : (ws.map Prod.fst)[0]? = some q0) (hq1 : (ws.map Prod.fst)[100]? = some q1) (hl : lv_has ls 4 [(0, .ref b), (1, .ref q0), (2, .ref q1), (3, .int 0)]) : W p l e room_1 s m #[Value.ref b] below meth c H locs 143 52759 (lw_Z below #[Value.ref b] s) (F0 m 248 ls []) := by
  obtain ⟨C0, hKK⟩ := C
  have hts2 := lw_hts C0
  have hx := C0.1
  have hb := C0.2.1
  have hown := C0.2.2.2.2.1
  obtain ⟨as, has, hvs0⟩ := rv_prod_s (ρ := ρ) (L := ws.map Prod.fst) (xs := [xs 1, xs 2]) rk_c2 rfl
  obtain ⟨os, hev, hos⟩ := rv_bth_s (rk_2 as has)
  have hlas : as.length = 2 := rv_Vs_len hvs0
  refine lv_aload_n hx hb dL_law_248 rfl (lv_at hl 1 rfl) ?_
  refine lw_arg C0 (j := 1) (pc := 249) (by decide) (by decide) dL_law_249 dL_law_250 dL_law_251 dL_law_252 dL_law_253 hl (lv_at hl 0 rfl) (lv_at hl 3 rfl) hw.2.2.2.1 ?_
  refine lw_arg C0 (j := 2) (pc := 254) (by decide) (by decide) dL_law_254 dL_law_255 dL_law_256 dL_law_257 dL_law_258 hl (lv_at hl 0 rfl) (lv_at hl 3 rfl) hw.2.2.2.1 ?_
  refine lw_arg C0 (j := 3) (pc := 259) (by decide) (by decide) dL_law_259 dL_law_260 dL_law_261 dL_law_262 dL_law_263 hl (lv_at hl 0 rfl) (lv_at hl 3 rfl) hw.2.2.2.1 ?_
  refine lv_i2l hx hb dL_law_264 rfl ?_
  refine lv_bipush (v := 32) hx hb dL_law_265 (by decide) ?_
  refine lv_lshl hx hb dL_law_267 rfl ?_
  refine lw_arg C0 (j := 4) (pc := 268) (by decide) (by decide) dL_law_268 dL_law_269 dL_law_270 dL_law_271 dL_law_272 hl (lv_at hl 0 rfl) (lv_at hl 3 rfl) hw.2.2.2.1 ?_
  refine lv_i2l hx hb dL_law_273 rfl ?_
  refine lv_ldc2 (v := 4294967295) hx hb hown (hts2 _ (rv_w_s (p := 18061) (by decide +kernel))) dL_law_274 ?_
  refine lv_land hx hb dL_law_277 ?_
  refine lv_lor hx hb dL_law_278 ?_
  have hvs1 := rv_Vs_join (r := [rv_sym 0]) (rs := [.long ((((xs 3)).toInt64 <<< ((32 : Int32).toInt64 &&& 63)) ||| (((xs 4)).toInt64 &&& 4294967295))]) ⟨rv_V_any _, True.intro⟩ hvs0
  refine lw_cV C0 hKK (k := 25) (mi := 105) (ci := 11) (d := 4) (ts := [12064, 12065, 12066, 10001]) (by decide +kernel) (orc := rv_no) lw_no hev rfl (by simp [hlas]) (vs := [.ref q0, .int (xs 1), .int (xs 2), .long ((((xs 3)).toInt64 <<< ((32 : Int32).toInt64 &&& 63)) ||| (((xs 4)).toInt64 &&& 4294967295))]) (rest := []) ⟨⟨q0, hq0, rfl⟩, hvs1⟩ (Nat.le_of_ble_eq_true rfl) hl.1 dL_law_279 hw ⟨Nat.le_of_ble_eq_true rfl, Nat.le_of_ble_eq_true rfl⟩ rfl (fun o ho ws2 v H1 locs1 hrv hw2 hmn => ?_)
  obtain ⟨v1, os2, ho1, hC, hrc, hev2, h2⟩ := rv_b2_s (hos o ho)
  rw [ho1] at hrv
  cases v with
  | none => exact hrv.elim
  | some w =>
    obtain ⟨z, rfl, rfl⟩ := rv_isC_f hC (show rv_V ρ (ws2.map Prod.fst) v1 w from hrv)
    refine lv_aload_n hx hb dL_law_282 rfl (lv_at hl 2 rfl) ?_
    refine lw_arg C0 (j := 1) (pc := 283) (by decide) (by decide) dL_law_283 dL_law_284 dL_law_285 dL_law_286 dL_law_287 hl (lv_at hl 0 rfl) (lv_at hl 3 rfl) hw2.2.2.2.1 ?_
    refine lw_arg C0 (j := 2) (pc := 288) (by decide) (by decide) dL_law_288 dL_law_289 dL_law_290 dL_law_291 dL_law_292 hl (lv_at hl 0 rfl) (lv_at hl 3 rfl) hw2.2.2.2.1 ?_
    refine lw_arg C0 (j := 3) (pc := 293) (by decide) (by decide) dL_law_293 dL_law_294 dL_law_295 dL_law_296 dL_law_297 hl (lv_at hl 0 rfl) (lv_at hl 3 rfl) hw2.2.2.2.1 ?_
    refine lv_i2l hx hb dL_law_298 rfl ?_
    refine lv_bipush (v := 32) hx hb dL_law_299 (by decide) ?_
    refine lv_lshl hx hb dL_law_301 rfl ?_
    refine lw_arg C0 (j := 4) (pc := 302) (by decide) (by decide) dL_law_302 dL_law_303 dL_law_304 dL_law_305 dL_law_306 hl (lv_at hl 0 rfl) (lv_at hl 3 rfl) hw2.2.2.2.1 ?_
    refine lv_i2l hx hb dL_law_307 rfl ?_
    refine lv_ldc2 (v := 4294967295) hx hb hown (hts2 _ (rv_w_s (p := 18061) (by decide +kernel))) dL_law_308 ?_
    refine lv_land hx hb dL_law_311 ?_
    refine lv_lor hx hb dL_law_312 ?_
    have hvs3 := rv_Vs_join (r := [rv_sym 0]) (rs := [.long ((((xs 3)).toInt64 <<< ((32 : Int32).toInt64 &&& 63)) ||| (((xs 4)).toInt64 &&& 4294967295))]) ⟨rv_V_any _, True.intro⟩ (rv_Vs_mono hmn hvs0)
    refine lw_cV C0 hKK (k := 29) (mi := 178) (ci := 12) (d := 4) (ts := [16067, 16068, 16069, 10013]) (by decide +kernel) (orc := rv_no) lw_no hev2 hrc (by simp [hlas]) (vs := [.ref q1, .int (xs 1), .int (xs 2), .long ((((xs 3)).toInt64 <<< ((32 : Int32).toInt64 &&& 63)) ||| (((xs 4)).toInt64 &&& 4294967295))]) (rest := [.int z]) ⟨⟨q1, hmn _ _ hq1, rfl⟩, hvs3⟩ (Nat.le_of_ble_eq_true rfl) hl.1 dL_law_313 hw2 ⟨Nat.le_of_ble_eq_true rfl, Nat.le_of_ble_eq_true rfl⟩ rfl (fun o2 ho2 ws3 v3 H2 locs2 hrv2 hw3 hmn2 => ?_)
    rw [h2 o2 ho2] at hrv2
    cases v3 with
    | none => exact hrv2.elim
    | some w2 =>
      cases (show w2 = .int z from hrv2)
      refine lv_icmp_eq (tgt := 1477) hx hb dL_law_316 (by decide) (fun _ => ?_) (fun q => absurd rfl q)
      exact lw_end C0 hl hw3.2.2.2.1 (Nat.le_of_ble_eq_true rfl) (Nat.le_of_ble_eq_true rfl)
set_option maxHeartbeats 1000000 in
/-- read -/
theorem lw_k3 {p : Program} {l : Launch} {e : Env} {s : State} {m : MethodId} {below : List Frame} {meth : Method} {c : Code} {b : Nat} {xs : Nat → Int32} {ρ : Nat → Int64} {D : va_G} {cA : Nat → ClassId} (C : lw_X p s m meth c b xs D cA) {ws : va_W} {H : Heap} {locs : List Loc} {ls : Array Slot} {q0 q1 : Nat} (hw : rv_Wd ρ D cA (lw_A s) s [] rh_2 ws H locs) (hq0 : (ws.map Prod.fst)[0]? = some q0) (hq1 : (ws.map Prod.fst)[100]? = some q1) (hl : lv_has ls 4 [(0, .ref b), (1, .ref q0), (2, .ref q1), (3, .int 0)]) : W p l e room_1 s m #[Value.ref b] below meth c H locs 143 52759 (lw_Z below #[Value.ref b] s) (F0 m 321 ls []) := by
  obtain ⟨C0, hKK⟩ := C
  have hts2 := lw_hts C0
  have hx := C0.1
  have hb := C0.2.1
  have hown := C0.2.2.2.2.1
  obtain ⟨as, has, hvs0⟩ := rv_prod_s (ρ := ρ) (L := ws.map Prod.fst) (xs := [xs 1, xs 2]) rk_c3 rfl
  obtain ⟨os, hev, hos⟩ := rv_bth_s (rk_3 as has)
  have hlas : as.length = 2 := rv_Vs_len hvs0
  refine lv_aload_n hx hb dL_law_321 rfl (lv_at hl 1 rfl) ?_
  refine lw_arg C0 (j := 1) (pc := 322) (by decide) (by decide) dL_law_322 dL_law_323 dL_law_324 dL_law_325 dL_law_326 hl (lv_at hl 0 rfl) (lv_at hl 3 rfl) hw.2.2.2.1 ?_
  refine lw_arg C0 (j := 2) (pc := 327) (by decide) (by decide) dL_law_327 dL_law_328 dL_law_329 dL_law_330 dL_law_331 hl (lv_at hl 0 rfl) (lv_at hl 3 rfl) hw.2.2.2.1 ?_
  refine lw_cV C0 hKK (k := 30) (mi := 89) (ci := 11) (d := 3) (ts := [12089, 12090, 12091, 10001]) (by decide +kernel) (orc := rv_no) lw_no hev rfl (by simp [hlas]) (vs := [.ref q0, .int (xs 1), .int (xs 2)]) (rest := []) ⟨⟨q0, hq0, rfl⟩, hvs0⟩ (Nat.le_of_ble_eq_true rfl) hl.1 dL_law_332 hw ⟨Nat.le_of_ble_eq_true rfl, Nat.le_of_ble_eq_true rfl⟩ rfl (fun o ho ws2 v H1 locs1 hrv hw2 hmn => ?_)
  obtain ⟨v1, os2, ho1, hC, hrc, hev2, h2⟩ := rv_b2_s (hos o ho)
  rw [ho1] at hrv
  cases v with
  | none => exact hrv.elim
  | some w =>
    obtain ⟨z, rfl, rfl⟩ := rv_isC_t hC (show rv_V ρ (ws2.map Prod.fst) v1 w from hrv)
    refine lv_aload_n hx hb dL_law_335 rfl (lv_at hl 2 rfl) ?_
    refine lw_arg C0 (j := 1) (pc := 336) (by decide) (by decide) dL_law_336 dL_law_337 dL_law_338 dL_law_339 dL_law_340 hl (lv_at hl 0 rfl) (lv_at hl 3 rfl) hw2.2.2.2.1 ?_
    refine lw_arg C0 (j := 2) (pc := 341) (by decide) (by decide) dL_law_341 dL_law_342 dL_law_343 dL_law_344 dL_law_345 hl (lv_at hl 0 rfl) (lv_at hl 3 rfl) hw2.2.2.2.1 ?_
    refine lw_cV C0 hKK (k := 34) (mi := 155) (ci := 12) (d := 3) (ts := [16078, 16079, 16080, 10013]) (by decide +kernel) (orc := rv_no) lw_no hev2 hrc (by simp [hlas]) (vs := [.ref q1, .int (xs 1), .int (xs 2)]) (rest := [.long z]) ⟨⟨q1, hmn _ _ hq1, rfl⟩, (rv_Vs_mono hmn hvs0)⟩ (Nat.le_of_ble_eq_true rfl) hl.1 dL_law_346 hw2 ⟨Nat.le_of_ble_eq_true rfl, Nat.le_of_ble_eq_true rfl⟩ rfl (fun o2 ho2 ws3 v3 H2 locs2 hrv2 hw3 hmn2 => ?_)
    rw [h2 o2 ho2] at hrv2
    cases v3 with
    | none => exact hrv2.elim
    | some w2 =>
      cases (show w2 = .long z from hrv2)
      refine W.lcmp hx hb dL_law_349 ?_
      refine lv_if_eq (tgt := 1477) hx hb dL_law_350 (by decide) (fun _ => ?_) (fun q => absurd (by simp [lg_cmp]) q)
      exact lw_end C0 hl hw3.2.2.2.1 (Nat.le_of_ble_eq_true rfl) (Nat.le_of_ble_eq_true rfl)
set_option maxHeartbeats 1000000 in
/-- pour -/
theorem lw_k4 {p : Program} {l : Launch} {e : Env} {s : State} {m : MethodId} {below : List Frame} {meth : Method} {c : Code} {b : Nat} {xs : Nat → Int32} {ρ : Nat → Int64} {D : va_G} {cA : Nat → ClassId} (C : lw_X p s m meth c b xs D cA) {ws : va_W} {H : Heap} {locs : List Loc} {ls : Array Slot} {q0 q1 : Nat} (hw : rv_Wd ρ D cA (lw_A s) s [] rh_2 ws H locs) (hq0 : (ws.map Prod.fst)[0]? = some q0) (hq1 : (ws.map Prod.fst)[100]? = some q1) (hl : lv_has ls 4 [(0, .ref b), (1, .ref q0), (2, .ref q1), (3, .int 0)]) : W p l e room_1 s m #[Value.ref b] below meth c H locs 143 52759 (lw_Z below #[Value.ref b] s) (F0 m 355 ls []) := by
  obtain ⟨C0, hKK⟩ := C
  have hts2 := lw_hts C0
  have hx := C0.1
  have hb := C0.2.1
  have hown := C0.2.2.2.2.1
  obtain ⟨as, has, hvs0⟩ := rv_prod_s (ρ := ρ) (L := ws.map Prod.fst) (xs := [xs 1, xs 2, xs 3, xs 4, xs 5]) rk_c4 rfl
  obtain ⟨os, hev, hos⟩ := rv_bth_s (rk_4 as has)
  have hlas : as.length = 5 := rv_Vs_len hvs0
  refine lv_aload_n hx hb dL_law_355 rfl (lv_at hl 1 rfl) ?_
  refine lw_arg C0 (j := 1) (pc := 356) (by decide) (by decide) dL_law_356 dL_law_357 dL_law_358 dL_law_359 dL_law_360 hl (lv_at hl 0 rfl) (lv_at hl 3 rfl) hw.2.2.2.1 ?_
  refine lw_arg C0 (j := 2) (pc := 361) (by decide) (by decide) dL_law_361 dL_law_362 dL_law_363 dL_law_364 dL_law_365 hl (lv_at hl 0 rfl) (lv_at hl 3 rfl) hw.2.2.2.1 ?_
  refine lw_arg C0 (j := 3) (pc := 366) (by decide) (by decide) dL_law_366 dL_law_367 dL_law_368 dL_law_369 dL_law_370 hl (lv_at hl 0 rfl) (lv_at hl 3 rfl) hw.2.2.2.1 ?_
  refine lw_arg C0 (j := 4) (pc := 371) (by decide) (by decide) dL_law_371 dL_law_372 dL_law_373 dL_law_374 dL_law_375 hl (lv_at hl 0 rfl) (lv_at hl 3 rfl) hw.2.2.2.1 ?_
  refine lw_arg C0 (j := 5) (pc := 376) (by decide) (by decide) dL_law_376 dL_law_377 dL_law_378 dL_law_379 dL_law_380 hl (lv_at hl 0 rfl) (lv_at hl 3 rfl) hw.2.2.2.1 ?_
  refine lw_cV C0 hKK (k := 35) (mi := 86) (ci := 11) (d := 6) (ts := [12097, 12098, 12099, 10001]) (by decide +kernel) (orc := rv_no) lw_no hev rfl (by simp [hlas]) (vs := [.ref q0, .int (xs 1), .int (xs 2), .int (xs 3), .int (xs 4), .int (xs 5)]) (rest := []) ⟨⟨q0, hq0, rfl⟩, hvs0⟩ (Nat.le_of_ble_eq_true rfl) hl.1 dL_law_381 hw ⟨Nat.le_of_ble_eq_true rfl, Nat.le_of_ble_eq_true rfl⟩ rfl (fun o ho ws2 v H1 locs1 hrv hw2 hmn => ?_)
  obtain ⟨v1, os2, ho1, hC, hrc, hev2, h2⟩ := rv_b2_s (hos o ho)
  rw [ho1] at hrv
  cases v with
  | none => exact hrv.elim
  | some w =>
    obtain ⟨z, rfl, rfl⟩ := rv_isC_f hC (show rv_V ρ (ws2.map Prod.fst) v1 w from hrv)
    refine lv_aload_n hx hb dL_law_384 rfl (lv_at hl 2 rfl) ?_
    refine lw_arg C0 (j := 1) (pc := 385) (by decide) (by decide) dL_law_385 dL_law_386 dL_law_387 dL_law_388 dL_law_389 hl (lv_at hl 0 rfl) (lv_at hl 3 rfl) hw2.2.2.2.1 ?_
    refine lw_arg C0 (j := 2) (pc := 390) (by decide) (by decide) dL_law_390 dL_law_391 dL_law_392 dL_law_393 dL_law_394 hl (lv_at hl 0 rfl) (lv_at hl 3 rfl) hw2.2.2.2.1 ?_
    refine lw_arg C0 (j := 3) (pc := 395) (by decide) (by decide) dL_law_395 dL_law_396 dL_law_397 dL_law_398 dL_law_399 hl (lv_at hl 0 rfl) (lv_at hl 3 rfl) hw2.2.2.2.1 ?_
    refine lw_arg C0 (j := 4) (pc := 400) (by decide) (by decide) dL_law_400 dL_law_401 dL_law_402 dL_law_403 dL_law_404 hl (lv_at hl 0 rfl) (lv_at hl 3 rfl) hw2.2.2.2.1 ?_
    refine lw_arg C0 (j := 5) (pc := 405) (by decide) (by decide) dL_law_405 dL_law_406 dL_law_407 dL_law_408 dL_law_409 hl (lv_at hl 0 rfl) (lv_at hl 3 rfl) hw2.2.2.2.1 ?_
    refine lw_cV C0 hKK (k := 39) (mi := 152) (ci := 12) (d := 6) (ts := [16083, 16084, 16085, 10013]) (by decide +kernel) (orc := rv_no) lw_no hev2 hrc (by simp [hlas]) (vs := [.ref q1, .int (xs 1), .int (xs 2), .int (xs 3), .int (xs 4), .int (xs 5)]) (rest := [.int z]) ⟨⟨q1, hmn _ _ hq1, rfl⟩, (rv_Vs_mono hmn hvs0)⟩ (Nat.le_of_ble_eq_true rfl) hl.1 dL_law_410 hw2 ⟨Nat.le_of_ble_eq_true rfl, Nat.le_of_ble_eq_true rfl⟩ rfl (fun o2 ho2 ws3 v3 H2 locs2 hrv2 hw3 hmn2 => ?_)
    rw [h2 o2 ho2] at hrv2
    cases v3 with
    | none => exact hrv2.elim
    | some w2 =>
      cases (show w2 = .int z from hrv2)
      refine lv_icmp_eq (tgt := 1477) hx hb dL_law_413 (by decide) (fun _ => ?_) (fun q => absurd rfl q)
      exact lw_end C0 hl hw3.2.2.2.1 (Nat.le_of_ble_eq_true rfl) (Nat.le_of_ble_eq_true rfl)
set_option maxHeartbeats 1000000 in
/-- sizes -/
theorem lw_k6 {p : Program} {l : Launch} {e : Env} {s : State} {m : MethodId} {below : List Frame} {meth : Method} {c : Code} {b : Nat} {xs : Nat → Int32} {ρ : Nat → Int64} {D : va_G} {cA : Nat → ClassId} (C : lw_X p s m meth c b xs D cA) {ws : va_W} {H : Heap} {locs : List Loc} {ls : Array Slot} {q0 q1 : Nat} (hw : rv_Wd ρ D cA (lw_A s) s [] rh_2 ws H locs) (hq0 : (ws.map Prod.fst)[0]? = some q0) (hq1 : (ws.map Prod.fst)[100]? = some q1) (hl : lv_has ls 4 [(0, .ref b), (1, .ref q0), (2, .ref q1), (3, .int 0)]) : W p l e room_1 s m #[Value.ref b] below meth c H locs 143 52759 (lw_Z below #[Value.ref b] s) (F0 m 481 ls []) := by
  obtain ⟨C0, hKK⟩ := C
  have hts2 := lw_hts C0
  have hx := C0.1
  have hb := C0.2.1
  have hown := C0.2.2.2.2.1
  obtain ⟨as, has, hvs0⟩ := rv_prod_s (ρ := ρ) (L := ws.map Prod.fst) (xs := [xs 1]) rk_c6 rfl
  obtain ⟨os, hev, hos⟩ := rv_bth_s (rk_6 as has)
  have hlas : as.length = 1 := rv_Vs_len hvs0
  refine lv_aload_n hx hb dL_law_481 rfl (lv_at hl 1 rfl) ?_
  refine lw_arg C0 (j := 1) (pc := 482) (by decide) (by decide) dL_law_482 dL_law_483 dL_law_484 dL_law_485 dL_law_486 hl (lv_at hl 0 rfl) (lv_at hl 3 rfl) hw.2.2.2.1 ?_
  refine lw_cV C0 hKK (k := 45) (mi := 93) (ci := 11) (d := 2) (ts := [12196, 12197, 12198, 10001]) (by decide +kernel) (orc := rv_no) lw_no hev rfl (by simp [hlas]) (vs := [.ref q0, .int (xs 1)]) (rest := []) ⟨⟨q0, hq0, rfl⟩, hvs0⟩ (Nat.le_of_ble_eq_true rfl) hl.1 dL_law_487 hw ⟨Nat.le_of_ble_eq_true rfl, Nat.le_of_ble_eq_true rfl⟩ rfl (fun o ho ws2 v H1 locs1 hrv hw2 hmn => ?_)
  obtain ⟨v1, os2, ho1, hC, hrc, hev2, h2⟩ := rv_b2_s (hos o ho)
  rw [ho1] at hrv
  cases v with
  | none => exact hrv.elim
  | some w =>
    obtain ⟨z, rfl, rfl⟩ := rv_isC_f hC (show rv_V ρ (ws2.map Prod.fst) v1 w from hrv)
    refine lv_aload_n hx hb dL_law_490 rfl (lv_at hl 2 rfl) ?_
    refine lw_arg C0 (j := 1) (pc := 491) (by decide) (by decide) dL_law_491 dL_law_492 dL_law_493 dL_law_494 dL_law_495 hl (lv_at hl 0 rfl) (lv_at hl 3 rfl) hw2.2.2.2.1 ?_
    refine lw_cV C0 hKK (k := 49) (mi := 163) (ci := 12) (d := 2) (ts := [16161, 16162, 16163, 10013]) (by decide +kernel) (orc := rv_no) lw_no hev2 hrc (by simp [hlas]) (vs := [.ref q1, .int (xs 1)]) (rest := [.int z]) ⟨⟨q1, hmn _ _ hq1, rfl⟩, (rv_Vs_mono hmn hvs0)⟩ (Nat.le_of_ble_eq_true rfl) hl.1 dL_law_496 hw2 ⟨Nat.le_of_ble_eq_true rfl, Nat.le_of_ble_eq_true rfl⟩ rfl (fun o2 ho2 ws3 v3 H2 locs2 hrv2 hw3 hmn2 => ?_)
    rw [h2 o2 ho2] at hrv2
    cases v3 with
    | none => exact hrv2.elim
    | some w2 =>
      cases (show w2 = .int z from hrv2)
      refine lv_icmp_eq (tgt := 1477) hx hb dL_law_499 (by decide) (fun _ => ?_) (fun q => absurd rfl q)
      exact lw_end C0 hl hw3.2.2.2.1 (Nat.le_of_ble_eq_true rfl) (Nat.le_of_ble_eq_true rfl)
set_option maxHeartbeats 1000000 in
/-- must -/
theorem lw_k7 {p : Program} {l : Launch} {e : Env} {s : State} {m : MethodId} {below : List Frame} {meth : Method} {c : Code} {b : Nat} {xs : Nat → Int32} {ρ : Nat → Int64} {D : va_G} {cA : Nat → ClassId} (C : lw_X p s m meth c b xs D cA) {ws : va_W} {H : Heap} {locs : List Loc} {ls : Array Slot} {q0 q1 : Nat} (hw : rv_Wd ρ D cA (lw_A s) s [] rh_2 ws H locs) (hq0 : (ws.map Prod.fst)[0]? = some q0) (hq1 : (ws.map Prod.fst)[100]? = some q1) (hl : lv_has ls 4 [(0, .ref b), (1, .ref q0), (2, .ref q1), (3, .int 0)]) : W p l e room_1 s m #[Value.ref b] below meth c H locs 143 52759 (lw_Z below #[Value.ref b] s) (F0 m 504 ls []) := by
  obtain ⟨C0, hKK⟩ := C
  have hts2 := lw_hts C0
  have hx := C0.1
  have hb := C0.2.1
  have hown := C0.2.2.2.2.1
  obtain ⟨as, has, hvs0⟩ := rv_prod_s (ρ := ρ) (L := ws.map Prod.fst) (xs := [xs 1, xs 2]) rk_c7 rfl
  obtain ⟨os, hev, hos⟩ := rv_bth_s (rk_7 as has)
  have hlas : as.length = 2 := rv_Vs_len hvs0
  refine lv_aload_n hx hb dL_law_504 rfl (lv_at hl 1 rfl) ?_
  refine lw_arg C0 (j := 1) (pc := 505) (by decide) (by decide) dL_law_505 dL_law_506 dL_law_507 dL_law_508 dL_law_509 hl (lv_at hl 0 rfl) (lv_at hl 3 rfl) hw.2.2.2.1 ?_
  refine lw_arg C0 (j := 2) (pc := 510) (by decide) (by decide) dL_law_510 dL_law_511 dL_law_512 dL_law_513 dL_law_514 hl (lv_at hl 0 rfl) (lv_at hl 3 rfl) hw.2.2.2.1 ?_
  refine lw_arg C0 (j := 3) (pc := 515) (by decide) (by decide) dL_law_515 dL_law_516 dL_law_517 dL_law_518 dL_law_519 hl (lv_at hl 0 rfl) (lv_at hl 3 rfl) hw.2.2.2.1 ?_
  refine lw_ne0 hx hb dL_law_520 (tgt := 527) (by decide) dL_law_523 dL_law_524 (tg2 := 528) (by decide) dL_law_527 rfl (fun zb0 hzb0 => ?_)
  have hvs1 := rv_Vs_join (r := [rv_rng (0) (1)]) (rs := [.int zb0]) ⟨⟨_, rfl, hzb0.1, hzb0.2⟩, True.intro⟩ hvs0
  refine lw_cV C0 hKK (k := 50) (mi := 80) (ci := 11) (d := 4) (ts := [12200, 12201, 12202, 10001]) (by decide +kernel) (orc := rv_no) lw_no hev rfl (by simp [hlas]) (vs := [.ref q0, .int (xs 1), .int (xs 2), .int zb0]) (rest := []) ⟨⟨q0, hq0, rfl⟩, hvs1⟩ (Nat.le_of_ble_eq_true rfl) hl.1 dL_law_528 hw ⟨Nat.le_of_ble_eq_true rfl, Nat.le_of_ble_eq_true rfl⟩ rfl (fun o ho ws2 v H1 locs1 hrv hw2 hmn => ?_)
  obtain ⟨v1, os2, ho1, hC, hrc, hev2, h2⟩ := rv_b2_s (hos o ho)
  rw [ho1] at hrv
  cases v with
  | none => exact hrv.elim
  | some w =>
    obtain ⟨z, rfl, rfl⟩ := rv_isC_f hC (show rv_V ρ (ws2.map Prod.fst) v1 w from hrv)
    refine lv_aload_n hx hb dL_law_531 rfl (lv_at hl 2 rfl) ?_
    refine lw_arg C0 (j := 1) (pc := 532) (by decide) (by decide) dL_law_532 dL_law_533 dL_law_534 dL_law_535 dL_law_536 hl (lv_at hl 0 rfl) (lv_at hl 3 rfl) hw2.2.2.2.1 ?_
    refine lw_arg C0 (j := 2) (pc := 537) (by decide) (by decide) dL_law_537 dL_law_538 dL_law_539 dL_law_540 dL_law_541 hl (lv_at hl 0 rfl) (lv_at hl 3 rfl) hw2.2.2.2.1 ?_
    refine lw_arg C0 (j := 3) (pc := 542) (by decide) (by decide) dL_law_542 dL_law_543 dL_law_544 dL_law_545 dL_law_546 hl (lv_at hl 0 rfl) (lv_at hl 3 rfl) hw2.2.2.2.1 ?_
    refine lw_ne0 hx hb dL_law_547 (tgt := 554) (by decide) dL_law_550 dL_law_551 (tg2 := 555) (by decide) dL_law_554 rfl (fun zb1 hzb1 => ?_)
    have hvs3 := rv_Vs_join (r := [rv_rng (0) (1)]) (rs := [.int zb1]) ⟨⟨_, rfl, hzb1.1, hzb1.2⟩, True.intro⟩ (rv_Vs_mono hmn hvs0)
    refine lw_cV C0 hKK (k := 54) (mi := 144) (ci := 12) (d := 4) (ts := [16165, 16166, 16167, 10013]) (by decide +kernel) (orc := rv_no) lw_no hev2 hrc (by simp [hlas]) (vs := [.ref q1, .int (xs 1), .int (xs 2), .int zb1]) (rest := [.int z]) ⟨⟨q1, hmn _ _ hq1, rfl⟩, hvs3⟩ (Nat.le_of_ble_eq_true rfl) hl.1 dL_law_555 hw2 ⟨Nat.le_of_ble_eq_true rfl, Nat.le_of_ble_eq_true rfl⟩ rfl (fun o2 ho2 ws3 v3 H2 locs2 hrv2 hw3 hmn2 => ?_)
    rw [h2 o2 ho2] at hrv2
    cases v3 with
    | none => exact hrv2.elim
    | some w2 =>
      cases (show w2 = .int z from hrv2)
      refine lv_icmp_eq (tgt := 1477) hx hb dL_law_558 (by decide) (fun _ => ?_) (fun q => absurd rfl q)
      exact lw_end C0 hl hw3.2.2.2.1 (Nat.le_of_ble_eq_true rfl) (Nat.le_of_ble_eq_true rfl)
set_option maxHeartbeats 1000000 in
/-- feed -/
theorem lw_k8 {p : Program} {l : Launch} {e : Env} {s : State} {m : MethodId} {below : List Frame} {meth : Method} {c : Code} {b : Nat} {xs : Nat → Int32} {ρ : Nat → Int64} {D : va_G} {cA : Nat → ClassId} (C : lw_X p s m meth c b xs D cA) {ws : va_W} {H : Heap} {locs : List Loc} {ls : Array Slot} {q0 q1 : Nat} (hw : rv_Wd ρ D cA (lw_A s) s [] rh_2 ws H locs) (hq0 : (ws.map Prod.fst)[0]? = some q0) (hq1 : (ws.map Prod.fst)[100]? = some q1) (hl : lv_has ls 4 [(0, .ref b), (1, .ref q0), (2, .ref q1), (3, .int 0)]) : W p l e room_1 s m #[Value.ref b] below meth c H locs 143 52759 (lw_Z below #[Value.ref b] s) (F0 m 563 ls []) := by
  obtain ⟨C0, hKK⟩ := C
  have hts2 := lw_hts C0
  have hx := C0.1
  have hb := C0.2.1
  have hown := C0.2.2.2.2.1
  obtain ⟨as, has, hvs0⟩ := rv_prod_s (ρ := ρ) (L := ws.map Prod.fst) (xs := [xs 1, xs 2, xs 3, xs 4, xs 5]) rk_c8 rfl
  obtain ⟨os, hev, hos⟩ := rv_bth_s (rk_8 as has)
  have hlas : as.length = 5 := rv_Vs_len hvs0
  refine lv_aload_n hx hb dL_law_563 rfl (lv_at hl 1 rfl) ?_
  refine lw_arg C0 (j := 1) (pc := 564) (by decide) (by decide) dL_law_564 dL_law_565 dL_law_566 dL_law_567 dL_law_568 hl (lv_at hl 0 rfl) (lv_at hl 3 rfl) hw.2.2.2.1 ?_
  refine lw_arg C0 (j := 2) (pc := 569) (by decide) (by decide) dL_law_569 dL_law_570 dL_law_571 dL_law_572 dL_law_573 hl (lv_at hl 0 rfl) (lv_at hl 3 rfl) hw.2.2.2.1 ?_
  refine lw_arg C0 (j := 3) (pc := 574) (by decide) (by decide) dL_law_574 dL_law_575 dL_law_576 dL_law_577 dL_law_578 hl (lv_at hl 0 rfl) (lv_at hl 3 rfl) hw.2.2.2.1 ?_
  refine lw_arg C0 (j := 4) (pc := 579) (by decide) (by decide) dL_law_579 dL_law_580 dL_law_581 dL_law_582 dL_law_583 hl (lv_at hl 0 rfl) (lv_at hl 3 rfl) hw.2.2.2.1 ?_
  refine lw_arg C0 (j := 5) (pc := 584) (by decide) (by decide) dL_law_584 dL_law_585 dL_law_586 dL_law_587 dL_law_588 hl (lv_at hl 0 rfl) (lv_at hl 3 rfl) hw.2.2.2.1 ?_
  refine lw_cV C0 hKK (k := 55) (mi := 66) (ci := 11) (d := 6) (ts := [12212, 12213, 12214, 10001]) (by decide +kernel) (orc := rv_no) lw_no hev rfl (by simp [hlas]) (vs := [.ref q0, .int (xs 1), .int (xs 2), .int (xs 3), .int (xs 4), .int (xs 5)]) (rest := []) ⟨⟨q0, hq0, rfl⟩, hvs0⟩ (Nat.le_of_ble_eq_true rfl) hl.1 dL_law_589 hw ⟨Nat.le_of_ble_eq_true rfl, Nat.le_of_ble_eq_true rfl⟩ rfl (fun o ho ws2 v H1 locs1 hrv hw2 hmn => ?_)
  obtain ⟨v1, os2, ho1, hC, hrc, hev2, h2⟩ := rv_b2_s (hos o ho)
  rw [ho1] at hrv
  cases v with
  | none => exact hrv.elim
  | some w =>
    obtain ⟨z, rfl, rfl⟩ := rv_isC_f hC (show rv_V ρ (ws2.map Prod.fst) v1 w from hrv)
    refine lv_aload_n hx hb dL_law_592 rfl (lv_at hl 2 rfl) ?_
    refine lw_arg C0 (j := 1) (pc := 593) (by decide) (by decide) dL_law_593 dL_law_594 dL_law_595 dL_law_596 dL_law_597 hl (lv_at hl 0 rfl) (lv_at hl 3 rfl) hw2.2.2.2.1 ?_
    refine lw_arg C0 (j := 2) (pc := 598) (by decide) (by decide) dL_law_598 dL_law_599 dL_law_600 dL_law_601 dL_law_602 hl (lv_at hl 0 rfl) (lv_at hl 3 rfl) hw2.2.2.2.1 ?_
    refine lw_arg C0 (j := 3) (pc := 603) (by decide) (by decide) dL_law_603 dL_law_604 dL_law_605 dL_law_606 dL_law_607 hl (lv_at hl 0 rfl) (lv_at hl 3 rfl) hw2.2.2.2.1 ?_
    refine lw_arg C0 (j := 4) (pc := 608) (by decide) (by decide) dL_law_608 dL_law_609 dL_law_610 dL_law_611 dL_law_612 hl (lv_at hl 0 rfl) (lv_at hl 3 rfl) hw2.2.2.2.1 ?_
    refine lw_arg C0 (j := 5) (pc := 613) (by decide) (by decide) dL_law_613 dL_law_614 dL_law_615 dL_law_616 dL_law_617 hl (lv_at hl 0 rfl) (lv_at hl 3 rfl) hw2.2.2.2.1 ?_
    refine lw_cV C0 hKK (k := 59) (mi := 120) (ci := 12) (d := 6) (ts := [16173, 16174, 16175, 10013]) (by decide +kernel) (orc := rv_no) lw_no hev2 hrc (by simp [hlas]) (vs := [.ref q1, .int (xs 1), .int (xs 2), .int (xs 3), .int (xs 4), .int (xs 5)]) (rest := [.int z]) ⟨⟨q1, hmn _ _ hq1, rfl⟩, (rv_Vs_mono hmn hvs0)⟩ (Nat.le_of_ble_eq_true rfl) hl.1 dL_law_618 hw2 ⟨Nat.le_of_ble_eq_true rfl, Nat.le_of_ble_eq_true rfl⟩ rfl (fun o2 ho2 ws3 v3 H2 locs2 hrv2 hw3 hmn2 => ?_)
    rw [h2 o2 ho2] at hrv2
    cases v3 with
    | none => exact hrv2.elim
    | some w2 =>
      cases (show w2 = .int z from hrv2)
      refine lv_icmp_eq (tgt := 1477) hx hb dL_law_621 (by decide) (fun _ => ?_) (fun q => absurd rfl q)
      exact lw_end C0 hl hw3.2.2.2.1 (Nat.le_of_ble_eq_true rfl) (Nat.le_of_ble_eq_true rfl)
set_option maxHeartbeats 1000000 in
/-- wish -/
theorem lw_k9 {p : Program} {l : Launch} {e : Env} {s : State} {m : MethodId} {below : List Frame} {meth : Method} {c : Code} {b : Nat} {xs : Nat → Int32} {ρ : Nat → Int64} {D : va_G} {cA : Nat → ClassId} (C : lw_X p s m meth c b xs D cA) {ws : va_W} {H : Heap} {locs : List Loc} {ls : Array Slot} {q0 q1 : Nat} (hw : rv_Wd ρ D cA (lw_A s) s [] rh_2 ws H locs) (hq0 : (ws.map Prod.fst)[0]? = some q0) (hq1 : (ws.map Prod.fst)[100]? = some q1) (hl : lv_has ls 4 [(0, .ref b), (1, .ref q0), (2, .ref q1), (3, .int 0)]) : W p l e room_1 s m #[Value.ref b] below meth c H locs 143 52759 (lw_Z below #[Value.ref b] s) (F0 m 626 ls []) := by
  obtain ⟨C0, hKK⟩ := C
  have hts2 := lw_hts C0
  have hx := C0.1
  have hb := C0.2.1
  have hown := C0.2.2.2.2.1
  obtain ⟨as, has, hvs0⟩ := rv_prod_s (ρ := ρ) (L := ws.map Prod.fst) (xs := [xs 1, xs 2]) rk_c9 rfl
  obtain ⟨os, hev, hos⟩ := rv_bth_s (rk_9 as has)
  have hlas : as.length = 2 := rv_Vs_len hvs0
  refine lv_aload_n hx hb dL_law_626 rfl (lv_at hl 1 rfl) ?_
  refine lw_arg C0 (j := 1) (pc := 627) (by decide) (by decide) dL_law_627 dL_law_628 dL_law_629 dL_law_630 dL_law_631 hl (lv_at hl 0 rfl) (lv_at hl 3 rfl) hw.2.2.2.1 ?_
  refine lw_arg C0 (j := 2) (pc := 632) (by decide) (by decide) dL_law_632 dL_law_633 dL_law_634 dL_law_635 dL_law_636 hl (lv_at hl 0 rfl) (lv_at hl 3 rfl) hw.2.2.2.1 ?_
  refine lw_cV C0 hKK (k := 60) (mi := 103) (ci := 11) (d := 3) (ts := [12224, 12225, 12226, 10001]) (by decide +kernel) (orc := rv_no) lw_no hev rfl (by simp [hlas]) (vs := [.ref q0, .int (xs 1), .int (xs 2)]) (rest := []) ⟨⟨q0, hq0, rfl⟩, hvs0⟩ (Nat.le_of_ble_eq_true rfl) hl.1 dL_law_637 hw ⟨Nat.le_of_ble_eq_true rfl, Nat.le_of_ble_eq_true rfl⟩ rfl (fun o ho ws2 v H1 locs1 hrv hw2 hmn => ?_)
  obtain ⟨v1, os2, ho1, hC, hrc, hev2, h2⟩ := rv_b2_s (hos o ho)
  rw [ho1] at hrv
  cases v with
  | none => exact hrv.elim
  | some w =>
    obtain ⟨z, rfl, rfl⟩ := rv_isC_f hC (show rv_V ρ (ws2.map Prod.fst) v1 w from hrv)
    refine lv_aload_n hx hb dL_law_640 rfl (lv_at hl 2 rfl) ?_
    refine lw_arg C0 (j := 1) (pc := 641) (by decide) (by decide) dL_law_641 dL_law_642 dL_law_643 dL_law_644 dL_law_645 hl (lv_at hl 0 rfl) (lv_at hl 3 rfl) hw2.2.2.2.1 ?_
    refine lw_arg C0 (j := 2) (pc := 646) (by decide) (by decide) dL_law_646 dL_law_647 dL_law_648 dL_law_649 dL_law_650 hl (lv_at hl 0 rfl) (lv_at hl 3 rfl) hw2.2.2.2.1 ?_
    refine lw_cV C0 hKK (k := 64) (mi := 176) (ci := 12) (d := 3) (ts := [16181, 16182, 16183, 10013]) (by decide +kernel) (orc := rv_no) lw_no hev2 hrc (by simp [hlas]) (vs := [.ref q1, .int (xs 1), .int (xs 2)]) (rest := [.int z]) ⟨⟨q1, hmn _ _ hq1, rfl⟩, (rv_Vs_mono hmn hvs0)⟩ (Nat.le_of_ble_eq_true rfl) hl.1 dL_law_651 hw2 ⟨Nat.le_of_ble_eq_true rfl, Nat.le_of_ble_eq_true rfl⟩ rfl (fun o2 ho2 ws3 v3 H2 locs2 hrv2 hw3 hmn2 => ?_)
    rw [h2 o2 ho2] at hrv2
    cases v3 with
    | none => exact hrv2.elim
    | some w2 =>
      cases (show w2 = .int z from hrv2)
      refine lv_icmp_eq (tgt := 1477) hx hb dL_law_654 (by decide) (fun _ => ?_) (fun q => absurd rfl q)
      exact lw_end C0 hl hw3.2.2.2.1 (Nat.le_of_ble_eq_true rfl) (Nat.le_of_ble_eq_true rfl)
set_option maxHeartbeats 1000000 in
/-- fault -/
theorem lw_k10 {p : Program} {l : Launch} {e : Env} {s : State} {m : MethodId} {below : List Frame} {meth : Method} {c : Code} {b : Nat} {xs : Nat → Int32} {ρ : Nat → Int64} {D : va_G} {cA : Nat → ClassId} (C : lw_X p s m meth c b xs D cA) {ws : va_W} {H : Heap} {locs : List Loc} {ls : Array Slot} {q0 q1 : Nat} (hw : rv_Wd ρ D cA (lw_A s) s [] rh_2 ws H locs) (hq0 : (ws.map Prod.fst)[0]? = some q0) (hq1 : (ws.map Prod.fst)[100]? = some q1) (hl : lv_has ls 4 [(0, .ref b), (1, .ref q0), (2, .ref q1), (3, .int 0)]) : W p l e room_1 s m #[Value.ref b] below meth c H locs 143 52759 (lw_Z below #[Value.ref b] s) (F0 m 659 ls []) := by
  obtain ⟨C0, hKK⟩ := C
  have hts2 := lw_hts C0
  have hx := C0.1
  have hb := C0.2.1
  have hown := C0.2.2.2.2.1
  obtain ⟨as, has, hvs0⟩ := rv_prod_s (ρ := ρ) (L := ws.map Prod.fst) (xs := [xs 1]) rk_c10 rfl
  obtain ⟨os, hev, hos⟩ := rv_bth_s (rk_10 as has)
  have hlas : as.length = 1 := rv_Vs_len hvs0
  refine lv_aload_n hx hb dL_law_659 rfl (lv_at hl 1 rfl) ?_
  refine lw_arg C0 (j := 1) (pc := 660) (by decide) (by decide) dL_law_660 dL_law_661 dL_law_662 dL_law_663 dL_law_664 hl (lv_at hl 0 rfl) (lv_at hl 3 rfl) hw.2.2.2.1 ?_
  refine lw_cV C0 hKK (k := 65) (mi := 65) (ci := 11) (d := 2) (ts := [13071, 13072, 13073, 10001]) (by decide +kernel) (orc := rv_no) lw_no hev rfl (by simp [hlas]) (vs := [.ref q0, .int (xs 1)]) (rest := []) ⟨⟨q0, hq0, rfl⟩, hvs0⟩ (Nat.le_of_ble_eq_true rfl) hl.1 dL_law_665 hw ⟨Nat.le_of_ble_eq_true rfl, Nat.le_of_ble_eq_true rfl⟩ rfl (fun o ho ws2 v H1 locs1 hrv hw2 hmn => ?_)
  obtain ⟨v1, os2, ho1, hC, hrc, hev2, h2⟩ := rv_b2_s (hos o ho)
  rw [ho1] at hrv
  cases v with
  | none => exact hrv.elim
  | some w =>
    obtain ⟨z, rfl, rfl⟩ := rv_isC_f hC (show rv_V ρ (ws2.map Prod.fst) v1 w from hrv)
    refine lv_aload_n hx hb dL_law_668 rfl (lv_at hl 2 rfl) ?_
    refine lw_arg C0 (j := 1) (pc := 669) (by decide) (by decide) dL_law_669 dL_law_670 dL_law_671 dL_law_672 dL_law_673 hl (lv_at hl 0 rfl) (lv_at hl 3 rfl) hw2.2.2.2.1 ?_
    refine lw_cV C0 hKK (k := 69) (mi := 119) (ci := 12) (d := 2) (ts := [17009, 17010, 17011, 10013]) (by decide +kernel) (orc := rv_no) lw_no hev2 hrc (by simp [hlas]) (vs := [.ref q1, .int (xs 1)]) (rest := [.int z]) ⟨⟨q1, hmn _ _ hq1, rfl⟩, (rv_Vs_mono hmn hvs0)⟩ (Nat.le_of_ble_eq_true rfl) hl.1 dL_law_674 hw2 ⟨Nat.le_of_ble_eq_true rfl, Nat.le_of_ble_eq_true rfl⟩ rfl (fun o2 ho2 ws3 v3 H2 locs2 hrv2 hw3 hmn2 => ?_)
    rw [h2 o2 ho2] at hrv2
    cases v3 with
    | none => exact hrv2.elim
    | some w2 =>
      cases (show w2 = .int z from hrv2)
      refine lv_icmp_eq (tgt := 1477) hx hb dL_law_677 (by decide) (fun _ => ?_) (fun q => absurd rfl q)
      exact lw_end C0 hl hw3.2.2.2.1 (Nat.le_of_ble_eq_true rfl) (Nat.le_of_ble_eq_true rfl)
set_option maxHeartbeats 1000000 in
/-- worth -/
theorem lw_k11 {p : Program} {l : Launch} {e : Env} {s : State} {m : MethodId} {below : List Frame} {meth : Method} {c : Code} {b : Nat} {xs : Nat → Int32} {ρ : Nat → Int64} {D : va_G} {cA : Nat → ClassId} (C : lw_X p s m meth c b xs D cA) {ws : va_W} {H : Heap} {locs : List Loc} {ls : Array Slot} {q0 q1 : Nat} (hw : rv_Wd ρ D cA (lw_A s) s [] rh_2 ws H locs) (hq0 : (ws.map Prod.fst)[0]? = some q0) (hq1 : (ws.map Prod.fst)[100]? = some q1) (hl : lv_has ls 4 [(0, .ref b), (1, .ref q0), (2, .ref q1), (3, .int 0)]) : W p l e room_1 s m #[Value.ref b] below meth c H locs 143 52759 (lw_Z below #[Value.ref b] s) (F0 m 682 ls []) := by
  obtain ⟨C0, hKK⟩ := C
  have hts2 := lw_hts C0
  have hx := C0.1
  have hb := C0.2.1
  have hown := C0.2.2.2.2.1
  obtain ⟨as, has, hvs0⟩ := rv_prod_s (ρ := ρ) (L := ws.map Prod.fst) (xs := [xs 1, xs 2]) rk_c11 rfl
  obtain ⟨os, hev, hos⟩ := rv_bth_s (rk_11 as has)
  have hlas : as.length = 2 := rv_Vs_len hvs0
  refine lv_aload_n hx hb dL_law_682 rfl (lv_at hl 1 rfl) ?_
  refine lw_arg C0 (j := 1) (pc := 683) (by decide) (by decide) dL_law_683 dL_law_684 dL_law_685 dL_law_686 dL_law_687 hl (lv_at hl 0 rfl) (lv_at hl 3 rfl) hw.2.2.2.1 ?_
  refine lw_arg C0 (j := 2) (pc := 688) (by decide) (by decide) dL_law_688 dL_law_689 dL_law_690 dL_law_691 dL_law_692 hl (lv_at hl 0 rfl) (lv_at hl 3 rfl) hw.2.2.2.1 ?_
  refine lw_cV C0 hKK (k := 70) (mi := 104) (ci := 11) (d := 3) (ts := [13075, 13076, 13077, 10001]) (by decide +kernel) (orc := rv_no) lw_no hev rfl (by simp [hlas]) (vs := [.ref q0, .int (xs 1), .int (xs 2)]) (rest := []) ⟨⟨q0, hq0, rfl⟩, hvs0⟩ (Nat.le_of_ble_eq_true rfl) hl.1 dL_law_693 hw ⟨Nat.le_of_ble_eq_true rfl, Nat.le_of_ble_eq_true rfl⟩ rfl (fun o ho ws2 v H1 locs1 hrv hw2 hmn => ?_)
  obtain ⟨v1, os2, ho1, hC, hrc, hev2, h2⟩ := rv_b2_s (hos o ho)
  rw [ho1] at hrv
  cases v with
  | none => exact hrv.elim
  | some w =>
    obtain ⟨z, rfl, rfl⟩ := rv_isC_f hC (show rv_V ρ (ws2.map Prod.fst) v1 w from hrv)
    refine lv_aload_n hx hb dL_law_696 rfl (lv_at hl 2 rfl) ?_
    refine lw_arg C0 (j := 1) (pc := 697) (by decide) (by decide) dL_law_697 dL_law_698 dL_law_699 dL_law_700 dL_law_701 hl (lv_at hl 0 rfl) (lv_at hl 3 rfl) hw2.2.2.2.1 ?_
    refine lw_arg C0 (j := 2) (pc := 702) (by decide) (by decide) dL_law_702 dL_law_703 dL_law_704 dL_law_705 dL_law_706 hl (lv_at hl 0 rfl) (lv_at hl 3 rfl) hw2.2.2.2.1 ?_
    refine lw_cV C0 hKK (k := 73) (mi := 177) (ci := 12) (d := 3) (ts := [17013, 17014, 17015, 10013]) (by decide +kernel) (orc := rv_no) lw_no hev2 hrc (by simp [hlas]) (vs := [.ref q1, .int (xs 1), .int (xs 2)]) (rest := [.int z]) ⟨⟨q1, hmn _ _ hq1, rfl⟩, (rv_Vs_mono hmn hvs0)⟩ (Nat.le_of_ble_eq_true rfl) hl.1 dL_law_707 hw2 ⟨Nat.le_of_ble_eq_true rfl, Nat.le_of_ble_eq_true rfl⟩ rfl (fun o2 ho2 ws3 v3 H2 locs2 hrv2 hw3 hmn2 => ?_)
    rw [h2 o2 ho2] at hrv2
    cases v3 with
    | none => exact hrv2.elim
    | some w2 =>
      cases (show w2 = .int z from hrv2)
      refine lv_icmp_eq (tgt := 1477) hx hb dL_law_710 (by decide) (fun _ => ?_) (fun q => absurd rfl q)
      exact lw_end C0 hl hw3.2.2.2.1 (Nat.le_of_ble_eq_true rfl) (Nat.le_of_ble_eq_true rfl)
set_option maxHeartbeats 1000000 in
/-- bars -/
theorem lw_k12 {p : Program} {l : Launch} {e : Env} {s : State} {m : MethodId} {below : List Frame} {meth : Method} {c : Code} {b : Nat} {xs : Nat → Int32} {ρ : Nat → Int64} {D : va_G} {cA : Nat → ClassId} (C : lw_X p s m meth c b xs D cA) {ws : va_W} {H : Heap} {locs : List Loc} {ls : Array Slot} {q0 q1 : Nat} (hw : rv_Wd ρ D cA (lw_A s) s [] rh_2 ws H locs) (hq0 : (ws.map Prod.fst)[0]? = some q0) (hq1 : (ws.map Prod.fst)[100]? = some q1) (hl : lv_has ls 4 [(0, .ref b), (1, .ref q0), (2, .ref q1), (3, .int 0)]) : W p l e room_1 s m #[Value.ref b] below meth c H locs 143 52759 (lw_Z below #[Value.ref b] s) (F0 m 715 ls []) := by
  obtain ⟨C0, hKK⟩ := C
  have hts2 := lw_hts C0
  have hx := C0.1
  have hb := C0.2.1
  have hown := C0.2.2.2.2.1
  obtain ⟨as, has, hvs0⟩ := rv_prod_s (ρ := ρ) (L := ws.map Prod.fst) (xs := [xs 1, xs 2]) rk_c12 rfl
  obtain ⟨os, hev, hos⟩ := rv_bth_s (rk_12 as has)
  have hlas : as.length = 2 := rv_Vs_len hvs0
  refine lv_aload_n hx hb dL_law_715 rfl (lv_at hl 1 rfl) ?_
  refine lw_arg C0 (j := 1) (pc := 716) (by decide) (by decide) dL_law_716 dL_law_717 dL_law_718 dL_law_719 dL_law_720 hl (lv_at hl 0 rfl) (lv_at hl 3 rfl) hw.2.2.2.1 ?_
  refine lw_arg C0 (j := 2) (pc := 721) (by decide) (by decide) dL_law_721 dL_law_722 dL_law_723 dL_law_724 dL_law_725 hl (lv_at hl 0 rfl) (lv_at hl 3 rfl) hw.2.2.2.1 ?_
  refine lw_cV C0 hKK (k := 74) (mi := 61) (ci := 11) (d := 3) (ts := [13095, 13096, 13097, 10001]) (by decide +kernel) (orc := rv_no) lw_no hev rfl (by simp [hlas]) (vs := [.ref q0, .int (xs 1), .int (xs 2)]) (rest := []) ⟨⟨q0, hq0, rfl⟩, hvs0⟩ (Nat.le_of_ble_eq_true rfl) hl.1 dL_law_726 hw ⟨Nat.le_of_ble_eq_true rfl, Nat.le_of_ble_eq_true rfl⟩ rfl (fun o ho ws2 v H1 locs1 hrv hw2 hmn => ?_)
  obtain ⟨v1, os2, ho1, hC, hrc, hev2, h2⟩ := rv_b2_s (hos o ho)
  rw [ho1] at hrv
  cases v with
  | none => exact hrv.elim
  | some w =>
    obtain ⟨z, rfl, rfl⟩ := rv_isC_f hC (show rv_V ρ (ws2.map Prod.fst) v1 w from hrv)
    refine lv_aload_n hx hb dL_law_729 rfl (lv_at hl 2 rfl) ?_
    refine lw_arg C0 (j := 1) (pc := 730) (by decide) (by decide) dL_law_730 dL_law_731 dL_law_732 dL_law_733 dL_law_734 hl (lv_at hl 0 rfl) (lv_at hl 3 rfl) hw2.2.2.2.1 ?_
    refine lw_arg C0 (j := 2) (pc := 735) (by decide) (by decide) dL_law_735 dL_law_736 dL_law_737 dL_law_738 dL_law_739 hl (lv_at hl 0 rfl) (lv_at hl 3 rfl) hw2.2.2.2.1 ?_
    refine lw_cV C0 hKK (k := 77) (mi := 110) (ci := 12) (d := 3) (ts := [17052, 17053, 17054, 10013]) (by decide +kernel) (orc := rv_no) lw_no hev2 hrc (by simp [hlas]) (vs := [.ref q1, .int (xs 1), .int (xs 2)]) (rest := [.int z]) ⟨⟨q1, hmn _ _ hq1, rfl⟩, (rv_Vs_mono hmn hvs0)⟩ (Nat.le_of_ble_eq_true rfl) hl.1 dL_law_740 hw2 ⟨Nat.le_of_ble_eq_true rfl, Nat.le_of_ble_eq_true rfl⟩ rfl (fun o2 ho2 ws3 v3 H2 locs2 hrv2 hw3 hmn2 => ?_)
    rw [h2 o2 ho2] at hrv2
    cases v3 with
    | none => exact hrv2.elim
    | some w2 =>
      cases (show w2 = .int z from hrv2)
      refine lv_icmp_eq (tgt := 1477) hx hb dL_law_743 (by decide) (fun _ => ?_) (fun q => absurd rfl q)
      exact lw_end C0 hl hw3.2.2.2.1 (Nat.le_of_ble_eq_true rfl) (Nat.le_of_ble_eq_true rfl)
set_option maxHeartbeats 1000000 in
/-- rather -/
theorem lw_k13 {p : Program} {l : Launch} {e : Env} {s : State} {m : MethodId} {below : List Frame} {meth : Method} {c : Code} {b : Nat} {xs : Nat → Int32} {ρ : Nat → Int64} {D : va_G} {cA : Nat → ClassId} (C : lw_X p s m meth c b xs D cA) {ws : va_W} {H : Heap} {locs : List Loc} {ls : Array Slot} {q0 q1 : Nat} (hw : rv_Wd ρ D cA (lw_A s) s [] rh_2 ws H locs) (hq0 : (ws.map Prod.fst)[0]? = some q0) (hq1 : (ws.map Prod.fst)[100]? = some q1) (hl : lv_has ls 4 [(0, .ref b), (1, .ref q0), (2, .ref q1), (3, .int 0)]) : W p l e room_1 s m #[Value.ref b] below meth c H locs 143 52759 (lw_Z below #[Value.ref b] s) (F0 m 748 ls []) := by
  obtain ⟨C0, hKK⟩ := C
  have hts2 := lw_hts C0
  have hx := C0.1
  have hb := C0.2.1
  have hown := C0.2.2.2.2.1
  obtain ⟨as, has, hvs0⟩ := rv_prod_s (ρ := ρ) (L := ws.map Prod.fst) (xs := [xs 1, xs 2, xs 3]) rk_c13 rfl
  obtain ⟨os, hev, hos⟩ := rv_bth_s (rk_13 as has)
  have hlas : as.length = 3 := rv_Vs_len hvs0
  refine lv_aload_n hx hb dL_law_748 rfl (lv_at hl 1 rfl) ?_
  refine lw_arg C0 (j := 1) (pc := 749) (by decide) (by decide) dL_law_749 dL_law_750 dL_law_751 dL_law_752 dL_law_753 hl (lv_at hl 0 rfl) (lv_at hl 3 rfl) hw.2.2.2.1 ?_
  refine lw_arg C0 (j := 2) (pc := 754) (by decide) (by decide) dL_law_754 dL_law_755 dL_law_756 dL_law_757 dL_law_758 hl (lv_at hl 0 rfl) (lv_at hl 3 rfl) hw.2.2.2.1 ?_
  refine lw_arg C0 (j := 3) (pc := 759) (by decide) (by decide) dL_law_759 dL_law_760 dL_law_761 dL_law_762 dL_law_763 hl (lv_at hl 0 rfl) (lv_at hl 3 rfl) hw.2.2.2.1 ?_
  refine lw_cV C0 hKK (k := 78) (mi := 88) (ci := 11) (d := 4) (ts := [13103, 13104, 13105, 10001]) (by decide +kernel) (orc := rv_no) lw_no hev rfl (by simp [hlas]) (vs := [.ref q0, .int (xs 1), .int (xs 2), .int (xs 3)]) (rest := []) ⟨⟨q0, hq0, rfl⟩, hvs0⟩ (Nat.le_of_ble_eq_true rfl) hl.1 dL_law_764 hw ⟨Nat.le_of_ble_eq_true rfl, Nat.le_of_ble_eq_true rfl⟩ rfl (fun o ho ws2 v H1 locs1 hrv hw2 hmn => ?_)
  obtain ⟨v1, os2, ho1, hC, hrc, hev2, h2⟩ := rv_b2_s (hos o ho)
  rw [ho1] at hrv
  cases v with
  | none => exact hrv.elim
  | some w =>
    obtain ⟨z, rfl, rfl⟩ := rv_isC_f hC (show rv_V ρ (ws2.map Prod.fst) v1 w from hrv)
    refine lv_aload_n hx hb dL_law_767 rfl (lv_at hl 2 rfl) ?_
    refine lw_arg C0 (j := 1) (pc := 768) (by decide) (by decide) dL_law_768 dL_law_769 dL_law_770 dL_law_771 dL_law_772 hl (lv_at hl 0 rfl) (lv_at hl 3 rfl) hw2.2.2.2.1 ?_
    refine lw_arg C0 (j := 2) (pc := 773) (by decide) (by decide) dL_law_773 dL_law_774 dL_law_775 dL_law_776 dL_law_777 hl (lv_at hl 0 rfl) (lv_at hl 3 rfl) hw2.2.2.2.1 ?_
    refine lw_arg C0 (j := 3) (pc := 778) (by decide) (by decide) dL_law_778 dL_law_779 dL_law_780 dL_law_781 dL_law_782 hl (lv_at hl 0 rfl) (lv_at hl 3 rfl) hw2.2.2.2.1 ?_
    refine lw_cV C0 hKK (k := 82) (mi := 154) (ci := 12) (d := 4) (ts := [17056, 17057, 17058, 10013]) (by decide +kernel) (orc := rv_no) lw_no hev2 hrc (by simp [hlas]) (vs := [.ref q1, .int (xs 1), .int (xs 2), .int (xs 3)]) (rest := [.int z]) ⟨⟨q1, hmn _ _ hq1, rfl⟩, (rv_Vs_mono hmn hvs0)⟩ (Nat.le_of_ble_eq_true rfl) hl.1 dL_law_783 hw2 ⟨Nat.le_of_ble_eq_true rfl, Nat.le_of_ble_eq_true rfl⟩ rfl (fun o2 ho2 ws3 v3 H2 locs2 hrv2 hw3 hmn2 => ?_)
    rw [h2 o2 ho2] at hrv2
    cases v3 with
    | none => exact hrv2.elim
    | some w2 =>
      cases (show w2 = .int z from hrv2)
      refine lv_icmp_eq (tgt := 1477) hx hb dL_law_786 (by decide) (fun _ => ?_) (fun q => absurd rfl q)
      exact lw_end C0 hl hw3.2.2.2.1 (Nat.le_of_ble_eq_true rfl) (Nat.le_of_ble_eq_true rfl)
set_option maxHeartbeats 1000000 in
/-- lawful -/
theorem lw_k14 {p : Program} {l : Launch} {e : Env} {s : State} {m : MethodId} {below : List Frame} {meth : Method} {c : Code} {b : Nat} {xs : Nat → Int32} {ρ : Nat → Int64} {D : va_G} {cA : Nat → ClassId} (C : lw_X p s m meth c b xs D cA) {ws : va_W} {H : Heap} {locs : List Loc} {ls : Array Slot} {q0 q1 : Nat} (hw : rv_Wd ρ D cA (lw_A s) s [] rh_2 ws H locs) (hq0 : (ws.map Prod.fst)[0]? = some q0) (hq1 : (ws.map Prod.fst)[100]? = some q1) (hl : lv_has ls 4 [(0, .ref b), (1, .ref q0), (2, .ref q1), (3, .int 0)]) : W p l e room_1 s m #[Value.ref b] below meth c H locs 143 52759 (lw_Z below #[Value.ref b] s) (F0 m 791 ls []) := by
  obtain ⟨C0, hKK⟩ := C
  have hts2 := lw_hts C0
  have hx := C0.1
  have hb := C0.2.1
  have hown := C0.2.2.2.2.1
  obtain ⟨as, has, hvs0⟩ := rv_prod_s (ρ := ρ) (L := ws.map Prod.fst) (xs := [xs 1]) rk_c14 rfl
  obtain ⟨os, hev, hos⟩ := rv_bth_s (rk_14 as has)
  have hlas : as.length = 1 := rv_Vs_len hvs0
  refine lv_aload_n hx hb dL_law_791 rfl (lv_at hl 1 rfl) ?_
  refine lw_arg C0 (j := 1) (pc := 792) (by decide) (by decide) dL_law_792 dL_law_793 dL_law_794 dL_law_795 dL_law_796 hl (lv_at hl 0 rfl) (lv_at hl 3 rfl) hw.2.2.2.1 ?_
  refine lw_cV C0 hKK (k := 83) (mi := 78) (ci := 11) (d := 2) (ts := [13111, 13112, 13113, 10001]) (by decide +kernel) (orc := rv_no) lw_no hev rfl (by simp [hlas]) (vs := [.ref q0, .int (xs 1)]) (rest := []) ⟨⟨q0, hq0, rfl⟩, hvs0⟩ (Nat.le_of_ble_eq_true rfl) hl.1 dL_law_797 hw ⟨Nat.le_of_ble_eq_true rfl, Nat.le_of_ble_eq_true rfl⟩ rfl (fun o ho ws2 v H1 locs1 hrv hw2 hmn => ?_)
  obtain ⟨v1, os2, ho1, hC, hrc, hev2, h2⟩ := rv_b2_s (hos o ho)
  rw [ho1] at hrv
  cases v with
  | none => exact hrv.elim
  | some w =>
    obtain ⟨z, rfl, rfl⟩ := rv_isC_f hC (show rv_V ρ (ws2.map Prod.fst) v1 w from hrv)
    refine lv_aload_n hx hb dL_law_800 rfl (lv_at hl 2 rfl) ?_
    refine lw_arg C0 (j := 1) (pc := 801) (by decide) (by decide) dL_law_801 dL_law_802 dL_law_803 dL_law_804 dL_law_805 hl (lv_at hl 0 rfl) (lv_at hl 3 rfl) hw2.2.2.2.1 ?_
    refine lw_cV C0 hKK (k := 86) (mi := 142) (ci := 12) (d := 2) (ts := [17066, 17067, 17068, 10013]) (by decide +kernel) (orc := rv_no) lw_no hev2 hrc (by simp [hlas]) (vs := [.ref q1, .int (xs 1)]) (rest := [.int z]) ⟨⟨q1, hmn _ _ hq1, rfl⟩, (rv_Vs_mono hmn hvs0)⟩ (Nat.le_of_ble_eq_true rfl) hl.1 dL_law_806 hw2 ⟨Nat.le_of_ble_eq_true rfl, Nat.le_of_ble_eq_true rfl⟩ rfl (fun o2 ho2 ws3 v3 H2 locs2 hrv2 hw3 hmn2 => ?_)
    rw [h2 o2 ho2] at hrv2
    cases v3 with
    | none => exact hrv2.elim
    | some w2 =>
      cases (show w2 = .int z from hrv2)
      refine lv_icmp_eq (tgt := 1477) hx hb dL_law_809 (by decide) (fun _ => ?_) (fun q => absurd rfl q)
      exact lw_end C0 hl hw3.2.2.2.1 (Nat.le_of_ble_eq_true rfl) (Nat.le_of_ble_eq_true rfl)
set_option maxHeartbeats 1000000 in
/-- breaks -/
theorem lw_k15 {p : Program} {l : Launch} {e : Env} {s : State} {m : MethodId} {below : List Frame} {meth : Method} {c : Code} {b : Nat} {xs : Nat → Int32} {ρ : Nat → Int64} {D : va_G} {cA : Nat → ClassId} (C : lw_X p s m meth c b xs D cA) {ws : va_W} {H : Heap} {locs : List Loc} {ls : Array Slot} {q0 q1 : Nat} (hw : rv_Wd ρ D cA (lw_A s) s [] rh_2 ws H locs) (hq0 : (ws.map Prod.fst)[0]? = some q0) (hq1 : (ws.map Prod.fst)[100]? = some q1) (hl : lv_has ls 4 [(0, .ref b), (1, .ref q0), (2, .ref q1), (3, .int 0)]) : W p l e room_1 s m #[Value.ref b] below meth c H locs 143 52759 (lw_Z below #[Value.ref b] s) (F0 m 814 ls []) := by
  obtain ⟨C0, hKK⟩ := C
  have hts2 := lw_hts C0
  have hx := C0.1
  have hb := C0.2.1
  have hown := C0.2.2.2.2.1
  obtain ⟨as, has, hvs0⟩ := rv_prod_s (ρ := ρ) (L := ws.map Prod.fst) (xs := [xs 1, xs 2]) rk_c15 rfl
  obtain ⟨os, hev, hos⟩ := rv_bth_s (rk_15 as has)
  have hlas : as.length = 2 := rv_Vs_len hvs0
  refine lv_aload_n hx hb dL_law_814 rfl (lv_at hl 1 rfl) ?_
  refine lw_arg C0 (j := 1) (pc := 815) (by decide) (by decide) dL_law_815 dL_law_816 dL_law_817 dL_law_818 dL_law_819 hl (lv_at hl 0 rfl) (lv_at hl 3 rfl) hw.2.2.2.1 ?_
  refine lw_arg C0 (j := 2) (pc := 820) (by decide) (by decide) dL_law_820 dL_law_821 dL_law_822 dL_law_823 dL_law_824 hl (lv_at hl 0 rfl) (lv_at hl 3 rfl) hw.2.2.2.1 ?_
  refine lw_cV C0 hKK (k := 87) (mi := 63) (ci := 11) (d := 3) (ts := [13122, 13123, 13124, 10001]) (by decide +kernel) (orc := rv_no) lw_no hev rfl (by simp [hlas]) (vs := [.ref q0, .int (xs 1), .int (xs 2)]) (rest := []) ⟨⟨q0, hq0, rfl⟩, hvs0⟩ (Nat.le_of_ble_eq_true rfl) hl.1 dL_law_825 hw ⟨Nat.le_of_ble_eq_true rfl, Nat.le_of_ble_eq_true rfl⟩ rfl (fun o ho ws2 v H1 locs1 hrv hw2 hmn => ?_)
  obtain ⟨v1, os2, ho1, hC, hrc, hev2, h2⟩ := rv_b2_s (hos o ho)
  rw [ho1] at hrv
  cases v with
  | none => exact hrv.elim
  | some w =>
    obtain ⟨z, rfl, rfl⟩ := rv_isC_f hC (show rv_V ρ (ws2.map Prod.fst) v1 w from hrv)
    refine lv_aload_n hx hb dL_law_828 rfl (lv_at hl 2 rfl) ?_
    refine lw_arg C0 (j := 1) (pc := 829) (by decide) (by decide) dL_law_829 dL_law_830 dL_law_831 dL_law_832 dL_law_833 hl (lv_at hl 0 rfl) (lv_at hl 3 rfl) hw2.2.2.2.1 ?_
    refine lw_arg C0 (j := 2) (pc := 834) (by decide) (by decide) dL_law_834 dL_law_835 dL_law_836 dL_law_837 dL_law_838 hl (lv_at hl 0 rfl) (lv_at hl 3 rfl) hw2.2.2.2.1 ?_
    refine lw_cV C0 hKK (k := 90) (mi := 115) (ci := 12) (d := 3) (ts := [17074, 17075, 17076, 10013]) (by decide +kernel) (orc := rv_no) lw_no hev2 hrc (by simp [hlas]) (vs := [.ref q1, .int (xs 1), .int (xs 2)]) (rest := [.int z]) ⟨⟨q1, hmn _ _ hq1, rfl⟩, (rv_Vs_mono hmn hvs0)⟩ (Nat.le_of_ble_eq_true rfl) hl.1 dL_law_839 hw2 ⟨Nat.le_of_ble_eq_true rfl, Nat.le_of_ble_eq_true rfl⟩ rfl (fun o2 ho2 ws3 v3 H2 locs2 hrv2 hw3 hmn2 => ?_)
    rw [h2 o2 ho2] at hrv2
    cases v3 with
    | none => exact hrv2.elim
    | some w2 =>
      cases (show w2 = .int z from hrv2)
      refine lv_icmp_eq (tgt := 1477) hx hb dL_law_842 (by decide) (fun _ => ?_) (fun q => absurd rfl q)
      exact lw_end C0 hl hw3.2.2.2.1 (Nat.le_of_ble_eq_true rfl) (Nat.le_of_ble_eq_true rfl)
set_option maxHeartbeats 1000000 in
/-- first -/
theorem lw_k16 {p : Program} {l : Launch} {e : Env} {s : State} {m : MethodId} {below : List Frame} {meth : Method} {c : Code} {b : Nat} {xs : Nat → Int32} {ρ : Nat → Int64} {D : va_G} {cA : Nat → ClassId} (C : lw_X p s m meth c b xs D cA) {ws : va_W} {H : Heap} {locs : List Loc} {ls : Array Slot} {q0 q1 : Nat} (hw : rv_Wd ρ D cA (lw_A s) s [] rh_2 ws H locs) (hq0 : (ws.map Prod.fst)[0]? = some q0) (hq1 : (ws.map Prod.fst)[100]? = some q1) (hl : lv_has ls 4 [(0, .ref b), (1, .ref q0), (2, .ref q1), (3, .int 0)]) : W p l e room_1 s m #[Value.ref b] below meth c H locs 143 52759 (lw_Z below #[Value.ref b] s) (F0 m 847 ls []) := by
  obtain ⟨C0, hKK⟩ := C
  have hts2 := lw_hts C0
  have hx := C0.1
  have hb := C0.2.1
  have hown := C0.2.2.2.2.1
  obtain ⟨as, has, hvs0⟩ := rv_prod_s (ρ := ρ) (L := ws.map Prod.fst) (xs := [xs 1, xs 2, xs 3]) rk_c16 rfl
  obtain ⟨os, hev, hos⟩ := rv_bth_s (rk_16 as has)
  have hlas : as.length = 3 := rv_Vs_len hvs0
  refine lv_aload_n hx hb dL_law_847 rfl (lv_at hl 1 rfl) ?_
  refine lw_arg C0 (j := 1) (pc := 848) (by decide) (by decide) dL_law_848 dL_law_849 dL_law_850 dL_law_851 dL_law_852 hl (lv_at hl 0 rfl) (lv_at hl 3 rfl) hw.2.2.2.1 ?_
  refine lw_arg C0 (j := 2) (pc := 853) (by decide) (by decide) dL_law_853 dL_law_854 dL_law_855 dL_law_856 dL_law_857 hl (lv_at hl 0 rfl) (lv_at hl 3 rfl) hw.2.2.2.1 ?_
  refine lw_arg C0 (j := 3) (pc := 858) (by decide) (by decide) dL_law_858 dL_law_859 dL_law_860 dL_law_861 dL_law_862 hl (lv_at hl 0 rfl) (lv_at hl 3 rfl) hw.2.2.2.1 ?_
  refine lw_cV C0 hKK (k := 91) (mi := 67) (ci := 11) (d := 4) (ts := [14000, 14001, 14002, 10001]) (by decide +kernel) (orc := rv_no) lw_no hev rfl (by simp [hlas]) (vs := [.ref q0, .int (xs 1), .int (xs 2), .int (xs 3)]) (rest := []) ⟨⟨q0, hq0, rfl⟩, hvs0⟩ (Nat.le_of_ble_eq_true rfl) hl.1 dL_law_863 hw ⟨Nat.le_of_ble_eq_true rfl, Nat.le_of_ble_eq_true rfl⟩ rfl (fun o ho ws2 v H1 locs1 hrv hw2 hmn => ?_)
  obtain ⟨v1, os2, ho1, hC, hrc, hev2, h2⟩ := rv_b2_s (hos o ho)
  rw [ho1] at hrv
  cases v with
  | none => exact hrv.elim
  | some w =>
    obtain ⟨z, rfl, rfl⟩ := rv_isC_f hC (show rv_V ρ (ws2.map Prod.fst) v1 w from hrv)
    refine lv_aload_n hx hb dL_law_866 rfl (lv_at hl 2 rfl) ?_
    refine lw_arg C0 (j := 1) (pc := 867) (by decide) (by decide) dL_law_867 dL_law_868 dL_law_869 dL_law_870 dL_law_871 hl (lv_at hl 0 rfl) (lv_at hl 3 rfl) hw2.2.2.2.1 ?_
    refine lw_arg C0 (j := 2) (pc := 872) (by decide) (by decide) dL_law_872 dL_law_873 dL_law_874 dL_law_875 dL_law_876 hl (lv_at hl 0 rfl) (lv_at hl 3 rfl) hw2.2.2.2.1 ?_
    refine lw_arg C0 (j := 3) (pc := 877) (by decide) (by decide) dL_law_877 dL_law_878 dL_law_879 dL_law_880 dL_law_881 hl (lv_at hl 0 rfl) (lv_at hl 3 rfl) hw2.2.2.2.1 ?_
    refine lw_cV C0 hKK (k := 94) (mi := 121) (ci := 12) (d := 4) (ts := [17134, 17135, 17136, 10013]) (by decide +kernel) (orc := rv_no) lw_no hev2 hrc (by simp [hlas]) (vs := [.ref q1, .int (xs 1), .int (xs 2), .int (xs 3)]) (rest := [.int z]) ⟨⟨q1, hmn _ _ hq1, rfl⟩, (rv_Vs_mono hmn hvs0)⟩ (Nat.le_of_ble_eq_true rfl) hl.1 dL_law_882 hw2 ⟨Nat.le_of_ble_eq_true rfl, Nat.le_of_ble_eq_true rfl⟩ rfl (fun o2 ho2 ws3 v3 H2 locs2 hrv2 hw3 hmn2 => ?_)
    rw [h2 o2 ho2] at hrv2
    cases v3 with
    | none => exact hrv2.elim
    | some w2 =>
      cases (show w2 = .int z from hrv2)
      refine lv_icmp_eq (tgt := 1477) hx hb dL_law_885 (by decide) (fun _ => ?_) (fun q => absurd rfl q)
      exact lw_end C0 hl hw3.2.2.2.1 (Nat.le_of_ble_eq_true rfl) (Nat.le_of_ble_eq_true rfl)
set_option maxHeartbeats 1000000 in
/-- step -/
theorem lw_k17 {p : Program} {l : Launch} {e : Env} {s : State} {m : MethodId} {below : List Frame} {meth : Method} {c : Code} {b : Nat} {xs : Nat → Int32} {ρ : Nat → Int64} {D : va_G} {cA : Nat → ClassId} (C : lw_X p s m meth c b xs D cA) {ws : va_W} {H : Heap} {locs : List Loc} {ls : Array Slot} {q0 q1 : Nat} (hw : rv_Wd ρ D cA (lw_A s) s [] rh_2 ws H locs) (hq0 : (ws.map Prod.fst)[0]? = some q0) (hq1 : (ws.map Prod.fst)[100]? = some q1) (hl : lv_has ls 4 [(0, .ref b), (1, .ref q0), (2, .ref q1), (3, .int 0)]) : W p l e room_1 s m #[Value.ref b] below meth c H locs 143 52759 (lw_Z below #[Value.ref b] s) (F0 m 890 ls []) := by
  obtain ⟨C0, hKK⟩ := C
  have hts2 := lw_hts C0
  have hx := C0.1
  have hb := C0.2.1
  have hown := C0.2.2.2.2.1
  obtain ⟨as, has, hvs0⟩ := rv_prod_s (ρ := ρ) (L := ws.map Prod.fst) (xs := [xs 1, xs 2]) rk_c17 rfl
  obtain ⟨os, hev, hos⟩ := rv_bth_s (rk_17 as has)
  have hlas : as.length = 2 := rv_Vs_len hvs0
  refine lv_aload_n hx hb dL_law_890 rfl (lv_at hl 1 rfl) ?_
  refine lw_arg C0 (j := 1) (pc := 891) (by decide) (by decide) dL_law_891 dL_law_892 dL_law_893 dL_law_894 dL_law_895 hl (lv_at hl 0 rfl) (lv_at hl 3 rfl) hw.2.2.2.1 ?_
  refine lw_arg C0 (j := 2) (pc := 896) (by decide) (by decide) dL_law_896 dL_law_897 dL_law_898 dL_law_899 dL_law_900 hl (lv_at hl 0 rfl) (lv_at hl 3 rfl) hw.2.2.2.1 ?_
  refine lw_cV C0 hKK (k := 95) (mi := 96) (ci := 11) (d := 3) (ts := [14004, 14005, 14006, 10001]) (by decide +kernel) (orc := rv_no) lw_no hev rfl (by simp [hlas]) (vs := [.ref q0, .int (xs 1), .int (xs 2)]) (rest := []) ⟨⟨q0, hq0, rfl⟩, hvs0⟩ (Nat.le_of_ble_eq_true rfl) hl.1 dL_law_901 hw ⟨Nat.le_of_ble_eq_true rfl, Nat.le_of_ble_eq_true rfl⟩ rfl (fun o ho ws2 v H1 locs1 hrv hw2 hmn => ?_)
  obtain ⟨v1, os2, ho1, hC, hrc, hev2, h2⟩ := rv_b2_s (hos o ho)
  rw [ho1] at hrv
  cases v with
  | none => exact hrv.elim
  | some w =>
    obtain ⟨z, rfl, rfl⟩ := rv_isC_f hC (show rv_V ρ (ws2.map Prod.fst) v1 w from hrv)
    refine lv_aload_n hx hb dL_law_904 rfl (lv_at hl 2 rfl) ?_
    refine lw_arg C0 (j := 1) (pc := 905) (by decide) (by decide) dL_law_905 dL_law_906 dL_law_907 dL_law_908 dL_law_909 hl (lv_at hl 0 rfl) (lv_at hl 3 rfl) hw2.2.2.2.1 ?_
    refine lw_arg C0 (j := 2) (pc := 910) (by decide) (by decide) dL_law_910 dL_law_911 dL_law_912 dL_law_913 dL_law_914 hl (lv_at hl 0 rfl) (lv_at hl 3 rfl) hw2.2.2.2.1 ?_
    refine lw_cV C0 hKK (k := 99) (mi := 167) (ci := 12) (d := 3) (ts := [17138, 17139, 17140, 10013]) (by decide +kernel) (orc := rv_no) lw_no hev2 hrc (by simp [hlas]) (vs := [.ref q1, .int (xs 1), .int (xs 2)]) (rest := [.int z]) ⟨⟨q1, hmn _ _ hq1, rfl⟩, (rv_Vs_mono hmn hvs0)⟩ (Nat.le_of_ble_eq_true rfl) hl.1 dL_law_915 hw2 ⟨Nat.le_of_ble_eq_true rfl, Nat.le_of_ble_eq_true rfl⟩ rfl (fun o2 ho2 ws3 v3 H2 locs2 hrv2 hw3 hmn2 => ?_)
    rw [h2 o2 ho2] at hrv2
    cases v3 with
    | none => exact hrv2.elim
    | some w2 =>
      cases (show w2 = .int z from hrv2)
      refine lv_icmp_eq (tgt := 1477) hx hb dL_law_918 (by decide) (fun _ => ?_) (fun q => absurd rfl q)
      exact lw_end C0 hl hw3.2.2.2.1 (Nat.le_of_ble_eq_true rfl) (Nat.le_of_ble_eq_true rfl)
set_option maxHeartbeats 1000000 in
/-- run -/
theorem lw_k18 {p : Program} {l : Launch} {e : Env} {s : State} {m : MethodId} {below : List Frame} {meth : Method} {c : Code} {b : Nat} {xs : Nat → Int32} {ρ : Nat → Int64} {D : va_G} {cA : Nat → ClassId} (C : lw_X p s m meth c b xs D cA) {ws : va_W} {H : Heap} {locs : List Loc} {ls : Array Slot} {q0 q1 : Nat} (hw : rv_Wd ρ D cA (lw_A s) s [] rh_2 ws H locs) (hq0 : (ws.map Prod.fst)[0]? = some q0) (hq1 : (ws.map Prod.fst)[100]? = some q1) (hl : lv_has ls 4 [(0, .ref b), (1, .ref q0), (2, .ref q1), (3, .int 0)]) : W p l e room_1 s m #[Value.ref b] below meth c H locs 143 52759 (lw_Z below #[Value.ref b] s) (F0 m 923 ls []) := by
  obtain ⟨C0, hKK⟩ := C
  have hts2 := lw_hts C0
  have hx := C0.1
  have hb := C0.2.1
  have hown := C0.2.2.2.2.1
  obtain ⟨as, has, hvs0⟩ := rv_prod_s (ρ := ρ) (L := ws.map Prod.fst) (xs := [xs 1, xs 2, xs 3]) rk_c18 rfl
  obtain ⟨os, hev, hos⟩ := rv_bth_s (rk_18 as has)
  have hlas : as.length = 3 := rv_Vs_len hvs0
  refine lv_aload_n hx hb dL_law_923 rfl (lv_at hl 1 rfl) ?_
  refine lw_arg C0 (j := 1) (pc := 924) (by decide) (by decide) dL_law_924 dL_law_925 dL_law_926 dL_law_927 dL_law_928 hl (lv_at hl 0 rfl) (lv_at hl 3 rfl) hw.2.2.2.1 ?_
  refine lw_arg C0 (j := 2) (pc := 929) (by decide) (by decide) dL_law_929 dL_law_930 dL_law_931 dL_law_932 dL_law_933 hl (lv_at hl 0 rfl) (lv_at hl 3 rfl) hw.2.2.2.1 ?_
  refine lw_arg C0 (j := 3) (pc := 934) (by decide) (by decide) dL_law_934 dL_law_935 dL_law_936 dL_law_937 dL_law_938 hl (lv_at hl 0 rfl) (lv_at hl 3 rfl) hw.2.2.2.1 ?_
  refine lw_cV C0 hKK (k := 100) (mi := 92) (ci := 11) (d := 4) (ts := [14029, 14030, 14031, 10001]) (by decide +kernel) (orc := rv_no) lw_no hev rfl (by simp [hlas]) (vs := [.ref q0, .int (xs 1), .int (xs 2), .int (xs 3)]) (rest := []) ⟨⟨q0, hq0, rfl⟩, hvs0⟩ (Nat.le_of_ble_eq_true rfl) hl.1 dL_law_939 hw ⟨Nat.le_of_ble_eq_true rfl, Nat.le_of_ble_eq_true rfl⟩ rfl (fun o ho ws2 v H1 locs1 hrv hw2 hmn => ?_)
  obtain ⟨v1, os2, ho1, hC, hrc, hev2, h2⟩ := rv_b2_s (hos o ho)
  rw [ho1] at hrv
  cases v with
  | none => exact hrv.elim
  | some w =>
    obtain ⟨z, rfl, rfl⟩ := rv_isC_f hC (show rv_V ρ (ws2.map Prod.fst) v1 w from hrv)
    refine lv_aload_n hx hb dL_law_942 rfl (lv_at hl 2 rfl) ?_
    refine lw_arg C0 (j := 1) (pc := 943) (by decide) (by decide) dL_law_943 dL_law_944 dL_law_945 dL_law_946 dL_law_947 hl (lv_at hl 0 rfl) (lv_at hl 3 rfl) hw2.2.2.2.1 ?_
    refine lw_arg C0 (j := 2) (pc := 948) (by decide) (by decide) dL_law_948 dL_law_949 dL_law_950 dL_law_951 dL_law_952 hl (lv_at hl 0 rfl) (lv_at hl 3 rfl) hw2.2.2.2.1 ?_
    refine lw_arg C0 (j := 3) (pc := 953) (by decide) (by decide) dL_law_953 dL_law_954 dL_law_955 dL_law_956 dL_law_957 hl (lv_at hl 0 rfl) (lv_at hl 3 rfl) hw2.2.2.2.1 ?_
    refine lw_cV C0 hKK (k := 103) (mi := 160) (ci := 12) (d := 4) (ts := [17150, 17151, 17152, 10013]) (by decide +kernel) (orc := rv_no) lw_no hev2 hrc (by simp [hlas]) (vs := [.ref q1, .int (xs 1), .int (xs 2), .int (xs 3)]) (rest := [.int z]) ⟨⟨q1, hmn _ _ hq1, rfl⟩, (rv_Vs_mono hmn hvs0)⟩ (Nat.le_of_ble_eq_true rfl) hl.1 dL_law_958 hw2 ⟨Nat.le_of_ble_eq_true rfl, Nat.le_of_ble_eq_true rfl⟩ rfl (fun o2 ho2 ws3 v3 H2 locs2 hrv2 hw3 hmn2 => ?_)
    rw [h2 o2 ho2] at hrv2
    cases v3 with
    | none => exact hrv2.elim
    | some w2 =>
      cases (show w2 = .int z from hrv2)
      refine lv_icmp_eq (tgt := 1477) hx hb dL_law_961 (by decide) (fun _ => ?_) (fun q => absurd rfl q)
      exact lw_end C0 hl hw3.2.2.2.1 (Nat.le_of_ble_eq_true rfl) (Nat.le_of_ble_eq_true rfl)
