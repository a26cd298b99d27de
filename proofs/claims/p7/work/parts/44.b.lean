set_option maxHeartbeats 2000000 in
/-- status -/
theorem lw_k0 {p : Program} {l : Launch} {e : Env} {s : State} {m : MethodId} {below : List Frame} {meth : Method} {c : Code} {b : Nat} {xs : Nat → Int32} {ρ : rv_ρ} {D : va_G} {cA : Nat → ClassId} {L : Nat} (C0 : lw_At p s m meth c b L xs) (hKK : rv_KK ρ (lw_A s) D cA s) {i : Nat} (hi : i + 6 ≤ L) (hL : L ≤ 3072) {h : List rv_C} (hJ0 : lw_J h) {ws : va_W} {H : Heap} {locs : List Loc} {ls : Array Slot} {q0 q1 : Nat} (hw : rv_Wd ρ D cA (lw_A s) s [] h ws H locs) (hq0 : (ws.map Prod.fst)[0]? = some q0) (hq1 : (ws.map Prod.fst)[100]? = some q1) (hl : lv_has ls 4 [(0, .ref b), (1, .ref q0), (2, .ref q1), (3, .int (nI i))]) (kk : ∀ (h2 : List rv_C) (ws2 : va_W) (H2 : Heap) (locs2 : List Loc), lw_J h2 → rv_Wd ρ D cA (lw_A s) s [] h2 ws2 H2 locs2 → (ws2.map Prod.fst)[0]? = some q0 → (ws2.map Prod.fst)[100]? = some q1 → W p l e room_1 s m #[Value.ref b] below meth c H2 locs2 143 52759 (lw_Z below #[Value.ref b] s) (F0 m 1476 ls [])) : W p l e room_1 s m #[Value.ref b] below meth c H locs 143 52759 (lw_Z below #[Value.ref b] s) (F0 m 192 ls []) := by
  obtain ⟨σ0, hJ, hR⟩ := hJ0
  have hts2 := lw_hts C0
  have hx := C0.1
  have hb := C0.2.1
  have hown := C0.2.2.2.2.1
  refine lv_aload_n hx hb dL_law_192 rfl (lv_at hl 1 rfl) ?_
  have hct := lw_use (l := l) (ρ := ρ) (as := [rv_ref 0]) hJ (sx_w237 (sx_tc_all _)) (by decide +kernel) (fun σ hσ => ⟨⟨0, List.Mem.head _, rfl⟩, True.intro⟩)
  refine lw_cV C0 hKK (k := 13) (mi := 174) (ci := 11) (d := 1) (ts := [12041, 12042, 12043, 10001]) (by decide +kernel) (by decide) hct (lw_rcv hJ (by decide) (by decide +kernel) (by decide)) rfl (vs := [.ref q0]) (rest := []) ⟨⟨q0, hq0, rfl⟩, True.intro⟩ (Nat.le_of_ble_eq_true rfl) hl.1 dL_law_193 hw ⟨Nat.le_of_ble_eq_true rfl, Nat.le_of_ble_eq_true rfl⟩ rfl (fun o1 ho1 ws2 v1 H1 locs1 hrv1 hw2 hmn => ?_)
  obtain ⟨σ1, hQ1, hJ2⟩ := ho1
  obtain ⟨z1, hz1⟩ := lw_ri_f (by decide +kernel) hQ1
  rw [hz1] at hrv1
  cases v1 with
  | none => exact hrv1.elim
  | some u1 =>
    cases (show u1 = .int z1 from hrv1)
    refine lv_pop hx hb dL_law_196 rfl ?_
    refine lv_aload_n hx hb dL_law_197 rfl (lv_at hl 2 rfl) ?_
    have hct2 := lw_use (l := l) (ρ := ρ) (as := [rv_ref 100]) hJ2 (sx_w338 (sx_tc_all _)) (by decide +kernel) (fun σ hσ => ⟨⟨100, List.Mem.head _, rfl⟩, True.intro⟩)
    refine lw_cV C0 hKK (k := 17) (mi := 274) (ci := 12) (d := 1) (ts := [16052, 16053, 16054, 10013]) (by decide +kernel) (by decide) hct2 (lw_rcv hJ2 (by decide) (by decide +kernel) (by decide)) rfl (vs := [.ref q1]) (rest := []) ⟨⟨q1, hmn _ _ hq1, rfl⟩, True.intro⟩ (Nat.le_of_ble_eq_true rfl) hl.1 dL_law_198 hw2 ⟨Nat.le_of_ble_eq_true rfl, Nat.le_of_ble_eq_true rfl⟩ rfl (fun o2 ho2 ws3 v2 H2 locs2 hrv2 hw3 hmn2 => ?_)
    obtain ⟨σ2, hQ2, hJ3⟩ := ho2
    obtain ⟨z2, hz2⟩ := lw_ri_f (by decide +kernel) hQ2
    rw [hz2] at hrv2
    cases v2 with
    | none => exact hrv2.elim
    | some u2 =>
      cases (show u2 = .int z2 from hrv2)
      refine lv_pop hx hb dL_law_201 rfl ?_
      refine lv_goto (tgt := 1476) hx hb dL_law_202 (by decide) ?_
      exact kk _ _ _ _ ⟨σ2, hJ3, lw_stay (by decide +kernel) (by decide +kernel) hQ1 hQ2 hR⟩ hw3 (hmn2 _ _ (hmn _ _ hq0)) (hmn2 _ _ (hmn _ _ hq1))
set_option maxHeartbeats 2000000 in
/-- tray -/
theorem lw_k1 {p : Program} {l : Launch} {e : Env} {s : State} {m : MethodId} {below : List Frame} {meth : Method} {c : Code} {b : Nat} {xs : Nat → Int32} {ρ : rv_ρ} {D : va_G} {cA : Nat → ClassId} {L : Nat} (C0 : lw_At p s m meth c b L xs) (hKK : rv_KK ρ (lw_A s) D cA s) {i : Nat} (hi : i + 6 ≤ L) (hL : L ≤ 3072) {h : List rv_C} (hJ0 : lw_J h) {ws : va_W} {H : Heap} {locs : List Loc} {ls : Array Slot} {q0 q1 : Nat} (hw : rv_Wd ρ D cA (lw_A s) s [] h ws H locs) (hq0 : (ws.map Prod.fst)[0]? = some q0) (hq1 : (ws.map Prod.fst)[100]? = some q1) (hl : lv_has ls 4 [(0, .ref b), (1, .ref q0), (2, .ref q1), (3, .int (nI i))]) (kk : ∀ (h2 : List rv_C) (ws2 : va_W) (H2 : Heap) (locs2 : List Loc), lw_J h2 → rv_Wd ρ D cA (lw_A s) s [] h2 ws2 H2 locs2 → (ws2.map Prod.fst)[0]? = some q0 → (ws2.map Prod.fst)[100]? = some q1 → W p l e room_1 s m #[Value.ref b] below meth c H2 locs2 143 52759 (lw_Z below #[Value.ref b] s) (F0 m 1476 ls [])) : W p l e room_1 s m #[Value.ref b] below meth c H locs 143 52759 (lw_Z below #[Value.ref b] s) (F0 m 205 ls []) := by
  obtain ⟨σ0, hJ, hR⟩ := hJ0
  have hts2 := lw_hts C0
  have hx := C0.1
  have hb := C0.2.1
  have hown := C0.2.2.2.2.1
  refine lv_aload_n hx hb dL_law_205 rfl (lv_at hl 1 rfl) ?_
  refine lw_arg C0 (i := i) (j := 1) (pc := 206) (by omega) hL (by decide) dL_law_206 dL_law_207 dL_law_208 dL_law_209 dL_law_210 (lv_at hl 0 rfl) (lv_at hl 3 rfl) hw.2.2.2.1 ?_
  refine lw_arg C0 (i := i) (j := 2) (pc := 211) (by omega) hL (by decide) dL_law_211 dL_law_212 dL_law_213 dL_law_214 dL_law_215 (lv_at hl 0 rfl) (lv_at hl 3 rfl) hw.2.2.2.1 ?_
  refine lw_arg C0 (i := i) (j := 3) (pc := 216) (by omega) hL (by decide) dL_law_216 dL_law_217 dL_law_218 dL_law_219 dL_law_220 (lv_at hl 0 rfl) (lv_at hl 3 rfl) hw.2.2.2.1 ?_
  have hct := lw_use (l := l) (ρ := ρ) (as := [rv_ref 0, .inl (xs (i + 1)), .inl (xs (i + 2)), .inl (xs (i + 3))]) hJ (sx_w241 (sx_tc_all _)) (by decide +kernel) (fun σ hσ => ⟨⟨0, List.Mem.head _, rfl⟩, ⟨_, rfl, (hσ 19001 (by decide) (by decide)).symm, (sx_r32 _).1, (sx_r32 _).2⟩, ⟨_, rfl, (hσ 19002 (by decide) (by decide)).symm, (sx_r32 _).1, (sx_r32 _).2⟩, ⟨_, rfl, (hσ 19003 (by decide) (by decide)).symm, (sx_r32 _).1, (sx_r32 _).2⟩, True.intro⟩)
  refine lw_cV C0 hKK (k := 18) (mi := 180) (ci := 11) (d := 4) (ts := [12045, 12046, 12047, 10001]) (by decide +kernel) (by decide) hct (lw_rcv hJ (by decide) (by decide +kernel) (by decide)) rfl (vs := [.ref q0, .int (xs (i + 1)), .int (xs (i + 2)), .int (xs (i + 3))]) (rest := []) ⟨⟨q0, hq0, rfl⟩, rfl, rfl, rfl, True.intro⟩ (Nat.le_of_ble_eq_true rfl) hl.1 dL_law_221 hw ⟨Nat.le_of_ble_eq_true rfl, Nat.le_of_ble_eq_true rfl⟩ rfl (fun o1 ho1 ws2 v1 H1 locs1 hrv1 hw2 hmn => ?_)
  obtain ⟨σ1, hQ1, hJ2⟩ := ho1
  obtain ⟨z1, hz1⟩ := lw_ri_f (by decide +kernel) hQ1
  rw [hz1] at hrv1
  cases v1 with
  | none => exact hrv1.elim
  | some u1 =>
    cases (show u1 = .int z1 from hrv1)
    refine lv_pop hx hb dL_law_224 rfl ?_
    refine lv_aload_n hx hb dL_law_225 rfl (lv_at hl 2 rfl) ?_
    refine lw_arg C0 (i := i) (j := 1) (pc := 226) (by omega) hL (by decide) dL_law_226 dL_law_227 dL_law_228 dL_law_229 dL_law_230 (lv_at hl 0 rfl) (lv_at hl 3 rfl) hw2.2.2.2.1 ?_
    refine lw_arg C0 (i := i) (j := 2) (pc := 231) (by omega) hL (by decide) dL_law_231 dL_law_232 dL_law_233 dL_law_234 dL_law_235 (lv_at hl 0 rfl) (lv_at hl 3 rfl) hw2.2.2.2.1 ?_
    refine lw_arg C0 (i := i) (j := 3) (pc := 236) (by omega) hL (by decide) dL_law_236 dL_law_237 dL_law_238 dL_law_239 dL_law_240 (lv_at hl 0 rfl) (lv_at hl 3 rfl) hw2.2.2.2.1 ?_
    have hct2 := lw_use (l := l) (ρ := ρ) (as := [rv_ref 100, .inl (xs (i + 1)), .inl (xs (i + 2)), .inl (xs (i + 3))]) hJ2 (sx_w342 (sx_tc_all _)) (by decide +kernel) (fun σ hσ => ⟨⟨100, List.Mem.head _, rfl⟩, ⟨_, rfl, (hσ 19001 (by decide) (by decide)).symm, (sx_r32 _).1, (sx_r32 _).2⟩, ⟨_, rfl, (hσ 19002 (by decide) (by decide)).symm, (sx_r32 _).1, (sx_r32 _).2⟩, ⟨_, rfl, (hσ 19003 (by decide) (by decide)).symm, (sx_r32 _).1, (sx_r32 _).2⟩, True.intro⟩)
    refine lw_cV C0 hKK (k := 22) (mi := 281) (ci := 12) (d := 4) (ts := [16056, 16057, 16058, 10013]) (by decide +kernel) (by decide) hct2 (lw_rcv hJ2 (by decide) (by decide +kernel) (by decide)) rfl (vs := [.ref q1, .int (xs (i + 1)), .int (xs (i + 2)), .int (xs (i + 3))]) (rest := []) ⟨⟨q1, hmn _ _ hq1, rfl⟩, rfl, rfl, rfl, True.intro⟩ (Nat.le_of_ble_eq_true rfl) hl.1 dL_law_241 hw2 ⟨Nat.le_of_ble_eq_true rfl, Nat.le_of_ble_eq_true rfl⟩ rfl (fun o2 ho2 ws3 v2 H2 locs2 hrv2 hw3 hmn2 => ?_)
    obtain ⟨σ2, hQ2, hJ3⟩ := ho2
    obtain ⟨z2, hz2⟩ := lw_ri_f (by decide +kernel) hQ2
    rw [hz2] at hrv2
    cases v2 with
    | none => exact hrv2.elim
    | some u2 =>
      cases (show u2 = .int z2 from hrv2)
      refine lv_pop hx hb dL_law_244 rfl ?_
      refine lv_goto (tgt := 1476) hx hb dL_law_245 (by decide) ?_
      exact kk _ _ _ _ ⟨σ2, hJ3, lw_stay (by decide +kernel) (by decide +kernel) hQ1 hQ2 hR⟩ hw3 (hmn2 _ _ (hmn _ _ hq0)) (hmn2 _ _ (hmn _ _ hq1))
set_option maxHeartbeats 2000000 in
/-- write -/
theorem lw_k2 {p : Program} {l : Launch} {e : Env} {s : State} {m : MethodId} {below : List Frame} {meth : Method} {c : Code} {b : Nat} {xs : Nat → Int32} {ρ : rv_ρ} {D : va_G} {cA : Nat → ClassId} {L : Nat} (C0 : lw_At p s m meth c b L xs) (hKK : rv_KK ρ (lw_A s) D cA s) {i : Nat} (hi : i + 6 ≤ L) (hL : L ≤ 3072) {h : List rv_C} (hJ0 : lw_J h) {ws : va_W} {H : Heap} {locs : List Loc} {ls : Array Slot} {q0 q1 : Nat} (hw : rv_Wd ρ D cA (lw_A s) s [] h ws H locs) (hq0 : (ws.map Prod.fst)[0]? = some q0) (hq1 : (ws.map Prod.fst)[100]? = some q1) (hl : lv_has ls 4 [(0, .ref b), (1, .ref q0), (2, .ref q1), (3, .int (nI i))]) (kk : ∀ (h2 : List rv_C) (ws2 : va_W) (H2 : Heap) (locs2 : List Loc), lw_J h2 → rv_Wd ρ D cA (lw_A s) s [] h2 ws2 H2 locs2 → (ws2.map Prod.fst)[0]? = some q0 → (ws2.map Prod.fst)[100]? = some q1 → W p l e room_1 s m #[Value.ref b] below meth c H2 locs2 143 52759 (lw_Z below #[Value.ref b] s) (F0 m 1476 ls [])) : W p l e room_1 s m #[Value.ref b] below meth c H locs 143 52759 (lw_Z below #[Value.ref b] s) (F0 m 248 ls []) := by
  obtain ⟨σ0, hJ, hR⟩ := hJ0
  have hts2 := lw_hts C0
  have hx := C0.1
  have hb := C0.2.1
  have hown := C0.2.2.2.2.1
  refine lv_aload_n hx hb dL_law_248 rfl (lv_at hl 1 rfl) ?_
  refine lw_arg C0 (i := i) (j := 1) (pc := 249) (by omega) hL (by decide) dL_law_249 dL_law_250 dL_law_251 dL_law_252 dL_law_253 (lv_at hl 0 rfl) (lv_at hl 3 rfl) hw.2.2.2.1 ?_
  refine lw_arg C0 (i := i) (j := 2) (pc := 254) (by omega) hL (by decide) dL_law_254 dL_law_255 dL_law_256 dL_law_257 dL_law_258 (lv_at hl 0 rfl) (lv_at hl 3 rfl) hw.2.2.2.1 ?_
  refine lw_arg C0 (i := i) (j := 3) (pc := 259) (by omega) hL (by decide) dL_law_259 dL_law_260 dL_law_261 dL_law_262 dL_law_263 (lv_at hl 0 rfl) (lv_at hl 3 rfl) hw.2.2.2.1 ?_
  refine lv_i2l hx hb dL_law_264 rfl ?_
  refine lv_bipush (v := 32) hx hb dL_law_265 (by decide) ?_
  refine lv_lshl hx hb dL_law_267 rfl ?_
  refine lw_arg C0 (i := i) (j := 4) (pc := 268) (by omega) hL (by decide) dL_law_268 dL_law_269 dL_law_270 dL_law_271 dL_law_272 (lv_at hl 0 rfl) (lv_at hl 3 rfl) hw.2.2.2.1 ?_
  refine lv_i2l hx hb dL_law_273 rfl ?_
  refine lv_ldc2 (v := 4294967295) hx hb hown (hts2 _ (rv_w_s (p := 18061) (by decide +kernel))) dL_law_274 ?_
  refine lv_land hx hb dL_law_277 ?_
  refine lv_lor hx hb dL_law_278 ?_
  have hct := lw_use (l := l) (ρ := ρ) (as := [rv_ref 0, .inl (xs (i + 1)), .inl (xs (i + 2)), rv_lng ((((xs (i + 3))).toInt64 <<< ((32 : Int32).toInt64 &&& 63)) ||| (((xs (i + 4))).toInt64 &&& 4294967295))]) hJ (sx_w246 (sx_tc_all _)) (by decide +kernel) (fun σ hσ => ⟨⟨0, List.Mem.head _, rfl⟩, ⟨_, rfl, (hσ 19001 (by decide) (by decide)).symm, (sx_r32 _).1, (sx_r32 _).2⟩, ⟨_, rfl, (hσ 19002 (by decide) (by decide)).symm, (sx_r32 _).1, (sx_r32 _).2⟩, ⟨_, rfl, (hσ 19003 (by decide) (by decide)).symm, (sx_r64 _).1, (sx_r64 _).2⟩, True.intro⟩)
  refine lw_cV C0 hKK (k := 25) (mi := 186) (ci := 11) (d := 4) (ts := [12064, 12065, 12066, 10001]) (by decide +kernel) (by decide) hct (lw_rcv hJ (by decide) (by decide +kernel) (by decide)) rfl (vs := [.ref q0, .int (xs (i + 1)), .int (xs (i + 2)), .long ((((xs (i + 3))).toInt64 <<< ((32 : Int32).toInt64 &&& 63)) ||| (((xs (i + 4))).toInt64 &&& 4294967295))]) (rest := []) ⟨⟨q0, hq0, rfl⟩, rfl, rfl, rfl, True.intro⟩ (Nat.le_of_ble_eq_true rfl) hl.1 dL_law_279 hw ⟨Nat.le_of_ble_eq_true rfl, Nat.le_of_ble_eq_true rfl⟩ rfl (fun o1 ho1 ws2 v1 H1 locs1 hrv1 hw2 hmn => ?_)
  obtain ⟨σ1, hQ1, hJ2⟩ := ho1
  obtain ⟨z1, hz1⟩ := lw_ri_f (by decide +kernel) hQ1
  rw [hz1] at hrv1
  cases v1 with
  | none => exact hrv1.elim
  | some u1 =>
    cases (show u1 = .int z1 from hrv1)
    refine lv_pop hx hb dL_law_282 rfl ?_
    refine lv_aload_n hx hb dL_law_283 rfl (lv_at hl 2 rfl) ?_
    refine lw_arg C0 (i := i) (j := 1) (pc := 284) (by omega) hL (by decide) dL_law_284 dL_law_285 dL_law_286 dL_law_287 dL_law_288 (lv_at hl 0 rfl) (lv_at hl 3 rfl) hw2.2.2.2.1 ?_
    refine lw_arg C0 (i := i) (j := 2) (pc := 289) (by omega) hL (by decide) dL_law_289 dL_law_290 dL_law_291 dL_law_292 dL_law_293 (lv_at hl 0 rfl) (lv_at hl 3 rfl) hw2.2.2.2.1 ?_
    refine lw_arg C0 (i := i) (j := 3) (pc := 294) (by omega) hL (by decide) dL_law_294 dL_law_295 dL_law_296 dL_law_297 dL_law_298 (lv_at hl 0 rfl) (lv_at hl 3 rfl) hw2.2.2.2.1 ?_
    refine lv_i2l hx hb dL_law_299 rfl ?_
    refine lv_bipush (v := 32) hx hb dL_law_300 (by decide) ?_
    refine lv_lshl hx hb dL_law_302 rfl ?_
    refine lw_arg C0 (i := i) (j := 4) (pc := 303) (by omega) hL (by decide) dL_law_303 dL_law_304 dL_law_305 dL_law_306 dL_law_307 (lv_at hl 0 rfl) (lv_at hl 3 rfl) hw2.2.2.2.1 ?_
    refine lv_i2l hx hb dL_law_308 rfl ?_
    refine lv_ldc2 (v := 4294967295) hx hb hown (hts2 _ (rv_w_s (p := 18061) (by decide +kernel))) dL_law_309 ?_
    refine lv_land hx hb dL_law_312 ?_
    refine lv_lor hx hb dL_law_313 ?_
    have hct2 := lw_use (l := l) (ρ := ρ) (as := [rv_ref 100, .inl (xs (i + 1)), .inl (xs (i + 2)), rv_lng ((((xs (i + 3))).toInt64 <<< ((32 : Int32).toInt64 &&& 63)) ||| (((xs (i + 4))).toInt64 &&& 4294967295))]) hJ2 (sx_w347 (sx_tc_all _)) (by decide +kernel) (fun σ hσ => ⟨⟨100, List.Mem.head _, rfl⟩, ⟨_, rfl, (hσ 19001 (by decide) (by decide)).symm, (sx_r32 _).1, (sx_r32 _).2⟩, ⟨_, rfl, (hσ 19002 (by decide) (by decide)).symm, (sx_r32 _).1, (sx_r32 _).2⟩, ⟨_, rfl, (hσ 19003 (by decide) (by decide)).symm, (sx_r64 _).1, (sx_r64 _).2⟩, True.intro⟩)
    refine lw_cV C0 hKK (k := 29) (mi := 291) (ci := 12) (d := 4) (ts := [16067, 16068, 16069, 10013]) (by decide +kernel) (by decide) hct2 (lw_rcv hJ2 (by decide) (by decide +kernel) (by decide)) rfl (vs := [.ref q1, .int (xs (i + 1)), .int (xs (i + 2)), .long ((((xs (i + 3))).toInt64 <<< ((32 : Int32).toInt64 &&& 63)) ||| (((xs (i + 4))).toInt64 &&& 4294967295))]) (rest := []) ⟨⟨q1, hmn _ _ hq1, rfl⟩, rfl, rfl, rfl, True.intro⟩ (Nat.le_of_ble_eq_true rfl) hl.1 dL_law_314 hw2 ⟨Nat.le_of_ble_eq_true rfl, Nat.le_of_ble_eq_true rfl⟩ rfl (fun o2 ho2 ws3 v2 H2 locs2 hrv2 hw3 hmn2 => ?_)
    obtain ⟨σ2, hQ2, hJ3⟩ := ho2
    obtain ⟨z2, hz2⟩ := lw_ri_f (by decide +kernel) hQ2
    rw [hz2] at hrv2
    cases v2 with
    | none => exact hrv2.elim
    | some u2 =>
      cases (show u2 = .int z2 from hrv2)
      refine lv_pop hx hb dL_law_317 rfl ?_
      refine lv_goto (tgt := 1476) hx hb dL_law_318 (by decide) ?_
      exact kk _ _ _ _ ⟨σ2, hJ3, lw_stay (by decide +kernel) (by decide +kernel) hQ1 hQ2 hR⟩ hw3 (hmn2 _ _ (hmn _ _ hq0)) (hmn2 _ _ (hmn _ _ hq1))
set_option maxHeartbeats 2000000 in
/-- read -/
theorem lw_k3 {p : Program} {l : Launch} {e : Env} {s : State} {m : MethodId} {below : List Frame} {meth : Method} {c : Code} {b : Nat} {xs : Nat → Int32} {ρ : rv_ρ} {D : va_G} {cA : Nat → ClassId} {L : Nat} (C0 : lw_At p s m meth c b L xs) (hKK : rv_KK ρ (lw_A s) D cA s) {i : Nat} (hi : i + 6 ≤ L) (hL : L ≤ 3072) {h : List rv_C} (hJ0 : lw_J h) {ws : va_W} {H : Heap} {locs : List Loc} {ls : Array Slot} {q0 q1 : Nat} (hw : rv_Wd ρ D cA (lw_A s) s [] h ws H locs) (hq0 : (ws.map Prod.fst)[0]? = some q0) (hq1 : (ws.map Prod.fst)[100]? = some q1) (hl : lv_has ls 4 [(0, .ref b), (1, .ref q0), (2, .ref q1), (3, .int (nI i))]) (kk : ∀ (h2 : List rv_C) (ws2 : va_W) (H2 : Heap) (locs2 : List Loc), lw_J h2 → rv_Wd ρ D cA (lw_A s) s [] h2 ws2 H2 locs2 → (ws2.map Prod.fst)[0]? = some q0 → (ws2.map Prod.fst)[100]? = some q1 → W p l e room_1 s m #[Value.ref b] below meth c H2 locs2 143 52759 (lw_Z below #[Value.ref b] s) (F0 m 1476 ls [])) : W p l e room_1 s m #[Value.ref b] below meth c H locs 143 52759 (lw_Z below #[Value.ref b] s) (F0 m 321 ls []) := by
  obtain ⟨σ0, hJ, hR⟩ := hJ0
  have hts2 := lw_hts C0
  have hx := C0.1
  have hb := C0.2.1
  have hown := C0.2.2.2.2.1
  refine lv_aload_n hx hb dL_law_321 rfl (lv_at hl 1 rfl) ?_
  refine lw_arg C0 (i := i) (j := 1) (pc := 322) (by omega) hL (by decide) dL_law_322 dL_law_323 dL_law_324 dL_law_325 dL_law_326 (lv_at hl 0 rfl) (lv_at hl 3 rfl) hw.2.2.2.1 ?_
  refine lw_arg C0 (i := i) (j := 2) (pc := 327) (by omega) hL (by decide) dL_law_327 dL_law_328 dL_law_329 dL_law_330 dL_law_331 (lv_at hl 0 rfl) (lv_at hl 3 rfl) hw.2.2.2.1 ?_
  have hct := lw_use (l := l) (ρ := ρ) (as := [rv_ref 0, .inl (xs (i + 1)), .inl (xs (i + 2))]) hJ (sx_w225 (sx_tc_all _)) (by decide +kernel) (fun σ hσ => ⟨⟨0, List.Mem.head _, rfl⟩, ⟨_, rfl, (hσ 19001 (by decide) (by decide)).symm, (sx_r32 _).1, (sx_r32 _).2⟩, ⟨_, rfl, (hσ 19002 (by decide) (by decide)).symm, (sx_r32 _).1, (sx_r32 _).2⟩, True.intro⟩)
  refine lw_cV C0 hKK (k := 30) (mi := 168) (ci := 11) (d := 3) (ts := [12089, 12090, 12091, 10001]) (by decide +kernel) (by decide) hct (lw_rcv hJ (by decide) (by decide +kernel) (by decide)) rfl (vs := [.ref q0, .int (xs (i + 1)), .int (xs (i + 2))]) (rest := []) ⟨⟨q0, hq0, rfl⟩, rfl, rfl, True.intro⟩ (Nat.le_of_ble_eq_true rfl) hl.1 dL_law_332 hw ⟨Nat.le_of_ble_eq_true rfl, Nat.le_of_ble_eq_true rfl⟩ rfl (fun o1 ho1 ws2 v1 H1 locs1 hrv1 hw2 hmn => ?_)
  obtain ⟨σ1, hQ1, hJ2⟩ := ho1
  obtain ⟨z1, hz1⟩ := lw_ri_t (by decide +kernel) hQ1
  rw [hz1] at hrv1
  cases v1 with
  | none => exact hrv1.elim
  | some u1 =>
    cases (show u1 = .long z1 from hrv1)
    refine lv_pop2_2 hx hb dL_law_335 rfl ?_
    refine lv_aload_n hx hb dL_law_336 rfl (lv_at hl 2 rfl) ?_
    refine lw_arg C0 (i := i) (j := 1) (pc := 337) (by omega) hL (by decide) dL_law_337 dL_law_338 dL_law_339 dL_law_340 dL_law_341 (lv_at hl 0 rfl) (lv_at hl 3 rfl) hw2.2.2.2.1 ?_
    refine lw_arg C0 (i := i) (j := 2) (pc := 342) (by omega) hL (by decide) dL_law_342 dL_law_343 dL_law_344 dL_law_345 dL_law_346 (lv_at hl 0 rfl) (lv_at hl 3 rfl) hw2.2.2.2.1 ?_
    have hct2 := lw_use (l := l) (ρ := ρ) (as := [rv_ref 100, .inl (xs (i + 1)), .inl (xs (i + 2))]) hJ2 (sx_w329 (sx_tc_all _)) (by decide +kernel) (fun σ hσ => ⟨⟨100, List.Mem.head _, rfl⟩, ⟨_, rfl, (hσ 19001 (by decide) (by decide)).symm, (sx_r32 _).1, (sx_r32 _).2⟩, ⟨_, rfl, (hσ 19002 (by decide) (by decide)).symm, (sx_r32 _).1, (sx_r32 _).2⟩, True.intro⟩)
    refine lw_cV C0 hKK (k := 34) (mi := 261) (ci := 12) (d := 3) (ts := [16078, 16079, 16080, 10013]) (by decide +kernel) (by decide) hct2 (lw_rcv hJ2 (by decide) (by decide +kernel) (by decide)) rfl (vs := [.ref q1, .int (xs (i + 1)), .int (xs (i + 2))]) (rest := []) ⟨⟨q1, hmn _ _ hq1, rfl⟩, rfl, rfl, True.intro⟩ (Nat.le_of_ble_eq_true rfl) hl.1 dL_law_347 hw2 ⟨Nat.le_of_ble_eq_true rfl, Nat.le_of_ble_eq_true rfl⟩ rfl (fun o2 ho2 ws3 v2 H2 locs2 hrv2 hw3 hmn2 => ?_)
    obtain ⟨σ2, hQ2, hJ3⟩ := ho2
    obtain ⟨z2, hz2⟩ := lw_ri_t (by decide +kernel) hQ2
    rw [hz2] at hrv2
    cases v2 with
    | none => exact hrv2.elim
    | some u2 =>
      cases (show u2 = .long z2 from hrv2)
      refine lv_pop2_2 hx hb dL_law_350 rfl ?_
      refine lv_goto (tgt := 1476) hx hb dL_law_351 (by decide) ?_
      exact kk _ _ _ _ ⟨σ2, hJ3, lw_stay (by decide +kernel) (by decide +kernel) hQ1 hQ2 hR⟩ hw3 (hmn2 _ _ (hmn _ _ hq0)) (hmn2 _ _ (hmn _ _ hq1))
set_option maxHeartbeats 2000000 in
/-- pour -/
theorem lw_k4 {p : Program} {l : Launch} {e : Env} {s : State} {m : MethodId} {below : List Frame} {meth : Method} {c : Code} {b : Nat} {xs : Nat → Int32} {ρ : rv_ρ} {D : va_G} {cA : Nat → ClassId} {L : Nat} (C0 : lw_At p s m meth c b L xs) (hKK : rv_KK ρ (lw_A s) D cA s) {i : Nat} (hi : i + 6 ≤ L) (hL : L ≤ 3072) {h : List rv_C} (hJ0 : lw_J h) {ws : va_W} {H : Heap} {locs : List Loc} {ls : Array Slot} {q0 q1 : Nat} (hw : rv_Wd ρ D cA (lw_A s) s [] h ws H locs) (hq0 : (ws.map Prod.fst)[0]? = some q0) (hq1 : (ws.map Prod.fst)[100]? = some q1) (hl : lv_has ls 4 [(0, .ref b), (1, .ref q0), (2, .ref q1), (3, .int (nI i))]) (kk : ∀ (h2 : List rv_C) (ws2 : va_W) (H2 : Heap) (locs2 : List Loc), lw_J h2 → rv_Wd ρ D cA (lw_A s) s [] h2 ws2 H2 locs2 → (ws2.map Prod.fst)[0]? = some q0 → (ws2.map Prod.fst)[100]? = some q1 → W p l e room_1 s m #[Value.ref b] below meth c H2 locs2 143 52759 (lw_Z below #[Value.ref b] s) (F0 m 1476 ls [])) : W p l e room_1 s m #[Value.ref b] below meth c H locs 143 52759 (lw_Z below #[Value.ref b] s) (F0 m 354 ls []) := by
  obtain ⟨σ0, hJ, hR⟩ := hJ0
  have hts2 := lw_hts C0
  have hx := C0.1
  have hb := C0.2.1
  have hown := C0.2.2.2.2.1
  refine lv_aload_n hx hb dL_law_354 rfl (lv_at hl 1 rfl) ?_
  refine lw_arg C0 (i := i) (j := 1) (pc := 355) (by omega) hL (by decide) dL_law_355 dL_law_356 dL_law_357 dL_law_358 dL_law_359 (lv_at hl 0 rfl) (lv_at hl 3 rfl) hw.2.2.2.1 ?_
  refine lw_arg C0 (i := i) (j := 2) (pc := 360) (by omega) hL (by decide) dL_law_360 dL_law_361 dL_law_362 dL_law_363 dL_law_364 (lv_at hl 0 rfl) (lv_at hl 3 rfl) hw.2.2.2.1 ?_
  refine lw_arg C0 (i := i) (j := 3) (pc := 365) (by omega) hL (by decide) dL_law_365 dL_law_366 dL_law_367 dL_law_368 dL_law_369 (lv_at hl 0 rfl) (lv_at hl 3 rfl) hw.2.2.2.1 ?_
  refine lw_arg C0 (i := i) (j := 4) (pc := 370) (by omega) hL (by decide) dL_law_370 dL_law_371 dL_law_372 dL_law_373 dL_law_374 (lv_at hl 0 rfl) (lv_at hl 3 rfl) hw.2.2.2.1 ?_
  refine lw_arg C0 (i := i) (j := 5) (pc := 375) (by omega) hL (by decide) dL_law_375 dL_law_376 dL_law_377 dL_law_378 dL_law_379 (lv_at hl 0 rfl) (lv_at hl 3 rfl) hw.2.2.2.1 ?_
  have hct := lw_use (l := l) (ρ := ρ) (as := [rv_ref 0, .inl (xs (i + 1)), .inl (xs (i + 2)), .inl (xs (i + 3)), .inl (xs (i + 4)), .inl (xs (i + 5))]) hJ (sx_w222 (sx_tc_all _)) (by decide +kernel) (fun σ hσ => ⟨⟨0, List.Mem.head _, rfl⟩, ⟨_, rfl, (hσ 19001 (by decide) (by decide)).symm, (sx_r32 _).1, (sx_r32 _).2⟩, ⟨_, rfl, (hσ 19002 (by decide) (by decide)).symm, (sx_r32 _).1, (sx_r32 _).2⟩, ⟨_, rfl, (hσ 19003 (by decide) (by decide)).symm, (sx_r32 _).1, (sx_r32 _).2⟩, ⟨_, rfl, (hσ 19004 (by decide) (by decide)).symm, (sx_r32 _).1, (sx_r32 _).2⟩, ⟨_, rfl, (hσ 19005 (by decide) (by decide)).symm, (sx_r32 _).1, (sx_r32 _).2⟩, True.intro⟩)
  refine lw_cV C0 hKK (k := 35) (mi := 165) (ci := 11) (d := 6) (ts := [12097, 12098, 12099, 10001]) (by decide +kernel) (by decide) hct (lw_rcv hJ (by decide) (by decide +kernel) (by decide)) rfl (vs := [.ref q0, .int (xs (i + 1)), .int (xs (i + 2)), .int (xs (i + 3)), .int (xs (i + 4)), .int (xs (i + 5))]) (rest := []) ⟨⟨q0, hq0, rfl⟩, rfl, rfl, rfl, rfl, rfl, True.intro⟩ (Nat.le_of_ble_eq_true rfl) hl.1 dL_law_380 hw ⟨Nat.le_of_ble_eq_true rfl, Nat.le_of_ble_eq_true rfl⟩ rfl (fun o1 ho1 ws2 v1 H1 locs1 hrv1 hw2 hmn => ?_)
  obtain ⟨σ1, hQ1, hJ2⟩ := ho1
  obtain ⟨z1, hz1⟩ := lw_ri_f (by decide +kernel) hQ1
  rw [hz1] at hrv1
  cases v1 with
  | none => exact hrv1.elim
  | some u1 =>
    cases (show u1 = .int z1 from hrv1)
    refine lv_pop hx hb dL_law_383 rfl ?_
    refine lv_aload_n hx hb dL_law_384 rfl (lv_at hl 2 rfl) ?_
    refine lw_arg C0 (i := i) (j := 1) (pc := 385) (by omega) hL (by decide) dL_law_385 dL_law_386 dL_law_387 dL_law_388 dL_law_389 (lv_at hl 0 rfl) (lv_at hl 3 rfl) hw2.2.2.2.1 ?_
    refine lw_arg C0 (i := i) (j := 2) (pc := 390) (by omega) hL (by decide) dL_law_390 dL_law_391 dL_law_392 dL_law_393 dL_law_394 (lv_at hl 0 rfl) (lv_at hl 3 rfl) hw2.2.2.2.1 ?_
    refine lw_arg C0 (i := i) (j := 3) (pc := 395) (by omega) hL (by decide) dL_law_395 dL_law_396 dL_law_397 dL_law_398 dL_law_399 (lv_at hl 0 rfl) (lv_at hl 3 rfl) hw2.2.2.2.1 ?_
    refine lw_arg C0 (i := i) (j := 4) (pc := 400) (by omega) hL (by decide) dL_law_400 dL_law_401 dL_law_402 dL_law_403 dL_law_404 (lv_at hl 0 rfl) (lv_at hl 3 rfl) hw2.2.2.2.1 ?_
    refine lw_arg C0 (i := i) (j := 5) (pc := 405) (by omega) hL (by decide) dL_law_405 dL_law_406 dL_law_407 dL_law_408 dL_law_409 (lv_at hl 0 rfl) (lv_at hl 3 rfl) hw2.2.2.2.1 ?_
    have hct2 := lw_use (l := l) (ρ := ρ) (as := [rv_ref 100, .inl (xs (i + 1)), .inl (xs (i + 2)), .inl (xs (i + 3)), .inl (xs (i + 4)), .inl (xs (i + 5))]) hJ2 (sx_w326 (sx_tc_all _)) (by decide +kernel) (fun σ hσ => ⟨⟨100, List.Mem.head _, rfl⟩, ⟨_, rfl, (hσ 19001 (by decide) (by decide)).symm, (sx_r32 _).1, (sx_r32 _).2⟩, ⟨_, rfl, (hσ 19002 (by decide) (by decide)).symm, (sx_r32 _).1, (sx_r32 _).2⟩, ⟨_, rfl, (hσ 19003 (by decide) (by decide)).symm, (sx_r32 _).1, (sx_r32 _).2⟩, ⟨_, rfl, (hσ 19004 (by decide) (by decide)).symm, (sx_r32 _).1, (sx_r32 _).2⟩, ⟨_, rfl, (hσ 19005 (by decide) (by decide)).symm, (sx_r32 _).1, (sx_r32 _).2⟩, True.intro⟩)
    refine lw_cV C0 hKK (k := 39) (mi := 257) (ci := 12) (d := 6) (ts := [16083, 16084, 16085, 10013]) (by decide +kernel) (by decide) hct2 (lw_rcv hJ2 (by decide) (by decide +kernel) (by decide)) rfl (vs := [.ref q1, .int (xs (i + 1)), .int (xs (i + 2)), .int (xs (i + 3)), .int (xs (i + 4)), .int (xs (i + 5))]) (rest := []) ⟨⟨q1, hmn _ _ hq1, rfl⟩, rfl, rfl, rfl, rfl, rfl, True.intro⟩ (Nat.le_of_ble_eq_true rfl) hl.1 dL_law_410 hw2 ⟨Nat.le_of_ble_eq_true rfl, Nat.le_of_ble_eq_true rfl⟩ rfl (fun o2 ho2 ws3 v2 H2 locs2 hrv2 hw3 hmn2 => ?_)
    obtain ⟨σ2, hQ2, hJ3⟩ := ho2
    obtain ⟨z2, hz2⟩ := lw_ri_f (by decide +kernel) hQ2
    rw [hz2] at hrv2
    cases v2 with
    | none => exact hrv2.elim
    | some u2 =>
      cases (show u2 = .int z2 from hrv2)
      refine lv_pop hx hb dL_law_413 rfl ?_
      refine lv_goto (tgt := 1476) hx hb dL_law_414 (by decide) ?_
      exact kk _ _ _ _ ⟨σ2, hJ3, lw_stay (by decide +kernel) (by decide +kernel) hQ1 hQ2 hR⟩ hw3 (hmn2 _ _ (hmn _ _ hq0)) (hmn2 _ _ (hmn _ _ hq1))
set_option maxHeartbeats 2000000 in
/-- person -/
theorem lw_k5 {p : Program} {l : Launch} {e : Env} {s : State} {m : MethodId} {below : List Frame} {meth : Method} {c : Code} {b : Nat} {xs : Nat → Int32} {ρ : rv_ρ} {D : va_G} {cA : Nat → ClassId} {L : Nat} (C0 : lw_At p s m meth c b L xs) (hKK : rv_KK ρ (lw_A s) D cA s) {i : Nat} (hi : i + 6 ≤ L) (hL : L ≤ 3072) {h : List rv_C} (hJ0 : lw_J h) {ws : va_W} {H : Heap} {locs : List Loc} {ls : Array Slot} {q0 q1 : Nat} (hw : rv_Wd ρ D cA (lw_A s) s [] h ws H locs) (hq0 : (ws.map Prod.fst)[0]? = some q0) (hq1 : (ws.map Prod.fst)[100]? = some q1) (hl : lv_has ls 4 [(0, .ref b), (1, .ref q0), (2, .ref q1), (3, .int (nI i))]) (kk : ∀ (h2 : List rv_C) (ws2 : va_W) (H2 : Heap) (locs2 : List Loc), lw_J h2 → rv_Wd ρ D cA (lw_A s) s [] h2 ws2 H2 locs2 → (ws2.map Prod.fst)[0]? = some q0 → (ws2.map Prod.fst)[100]? = some q1 → W p l e room_1 s m #[Value.ref b] below meth c H2 locs2 143 52759 (lw_Z below #[Value.ref b] s) (F0 m 1476 ls [])) : W p l e room_1 s m #[Value.ref b] below meth c H locs 143 52759 (lw_Z below #[Value.ref b] s) (F0 m 417 ls []) := by
  obtain ⟨σ0, hJ, hR⟩ := hJ0
  have hts2 := lw_hts C0
  have hx := C0.1
  have hb := C0.2.1
  have hown := C0.2.2.2.2.1
  refine lv_aload_n hx hb dL_law_417 rfl (lv_at hl 1 rfl) ?_
  refine lw_arg C0 (i := i) (j := 1) (pc := 418) (by omega) hL (by decide) dL_law_418 dL_law_419 dL_law_420 dL_law_421 dL_law_422 (lv_at hl 0 rfl) (lv_at hl 3 rfl) hw.2.2.2.1 ?_
  refine lv_i2l hx hb dL_law_423 rfl ?_
  refine lv_bipush (v := 32) hx hb dL_law_424 (by decide) ?_
  refine lv_lshl hx hb dL_law_426 rfl ?_
  refine lw_arg C0 (i := i) (j := 2) (pc := 427) (by omega) hL (by decide) dL_law_427 dL_law_428 dL_law_429 dL_law_430 dL_law_431 (lv_at hl 0 rfl) (lv_at hl 3 rfl) hw.2.2.2.1 ?_
  refine lv_i2l hx hb dL_law_432 rfl ?_
  refine lv_ldc2 (v := 4294967295) hx hb hown (hts2 _ (rv_w_s (p := 18061) (by decide +kernel))) dL_law_433 ?_
  refine lv_land hx hb dL_law_436 ?_
  refine lv_lor hx hb dL_law_437 ?_
  refine lw_arg C0 (i := i) (j := 3) (pc := 438) (by omega) hL (by decide) dL_law_438 dL_law_439 dL_law_440 dL_law_441 dL_law_442 (lv_at hl 0 rfl) (lv_at hl 3 rfl) hw.2.2.2.1 ?_
  have hct := lw_use (l := l) (ρ := ρ) (as := [rv_ref 0, rv_lng ((((xs (i + 1))).toInt64 <<< ((32 : Int32).toInt64 &&& 63)) ||| (((xs (i + 2))).toInt64 &&& 4294967295)), .inl (xs (i + 3))]) hJ (sx_w221 (sx_tc_all _)) (by decide +kernel) (fun σ hσ => ⟨⟨0, List.Mem.head _, rfl⟩, ⟨_, rfl, (hσ 19001 (by decide) (by decide)).symm, (sx_r64 _).1, (sx_r64 _).2⟩, ⟨_, rfl, (hσ 19002 (by decide) (by decide)).symm, (sx_r32 _).1, (sx_r32 _).2⟩, True.intro⟩)
  refine lw_cV C0 hKK (k := 40) (mi := 163) (ci := 11) (d := 3) (ts := [12104, 12105, 12106, 10001]) (by decide +kernel) (by decide) hct (lw_rcv hJ (by decide) (by decide +kernel) (by decide)) rfl (vs := [.ref q0, .long ((((xs (i + 1))).toInt64 <<< ((32 : Int32).toInt64 &&& 63)) ||| (((xs (i + 2))).toInt64 &&& 4294967295)), .int (xs (i + 3))]) (rest := []) ⟨⟨q0, hq0, rfl⟩, rfl, rfl, True.intro⟩ (Nat.le_of_ble_eq_true rfl) hl.1 dL_law_443 hw ⟨Nat.le_of_ble_eq_true rfl, Nat.le_of_ble_eq_true rfl⟩ rfl (fun o1 ho1 ws2 v1 H1 locs1 hrv1 hw2 hmn => ?_)
  obtain ⟨σ1, hQ1, hJ2⟩ := ho1
  obtain ⟨z1, hz1⟩ := lw_ri_f (by decide +kernel) hQ1
  rw [hz1] at hrv1
  cases v1 with
  | none => exact hrv1.elim
  | some u1 =>
    cases (show u1 = .int z1 from hrv1)
    refine lv_aload_n hx hb dL_law_446 rfl (lv_at hl 2 rfl) ?_
    refine lw_arg C0 (i := i) (j := 1) (pc := 447) (by omega) hL (by decide) dL_law_447 dL_law_448 dL_law_449 dL_law_450 dL_law_451 (lv_at hl 0 rfl) (lv_at hl 3 rfl) hw2.2.2.2.1 ?_
    refine lv_i2l hx hb dL_law_452 rfl ?_
    refine lv_bipush (v := 32) hx hb dL_law_453 (by decide) ?_
    refine lv_lshl hx hb dL_law_455 rfl ?_
    refine lw_arg C0 (i := i) (j := 2) (pc := 456) (by omega) hL (by decide) dL_law_456 dL_law_457 dL_law_458 dL_law_459 dL_law_460 (lv_at hl 0 rfl) (lv_at hl 3 rfl) hw2.2.2.2.1 ?_
    refine lv_i2l hx hb dL_law_461 rfl ?_
    refine lv_ldc2 (v := 4294967295) hx hb hown (hts2 _ (rv_w_s (p := 18061) (by decide +kernel))) dL_law_462 ?_
    refine lv_land hx hb dL_law_465 ?_
    refine lv_lor hx hb dL_law_466 ?_
    refine lw_arg C0 (i := i) (j := 3) (pc := 467) (by omega) hL (by decide) dL_law_467 dL_law_468 dL_law_469 dL_law_470 dL_law_471 (lv_at hl 0 rfl) (lv_at hl 3 rfl) hw2.2.2.2.1 ?_
    have hct2 := lw_use (l := l) (ρ := ρ) (as := [rv_ref 100, rv_lng ((((xs (i + 1))).toInt64 <<< ((32 : Int32).toInt64 &&& 63)) ||| (((xs (i + 2))).toInt64 &&& 4294967295)), .inl (xs (i + 3))]) hJ2 (sx_w325 (sx_tc_all _)) (by decide +kernel) (fun σ hσ => ⟨⟨100, List.Mem.head _, rfl⟩, ⟨_, rfl, (hσ 19001 (by decide) (by decide)).symm, (sx_r64 _).1, (sx_r64 _).2⟩, ⟨_, rfl, (hσ 19002 (by decide) (by decide)).symm, (sx_r32 _).1, (sx_r32 _).2⟩, True.intro⟩)
    refine lw_cV C0 hKK (k := 44) (mi := 256) (ci := 12) (d := 3) (ts := [16087, 16088, 16089, 10013]) (by decide +kernel) (by decide) hct2 (lw_rcv hJ2 (by decide) (by decide +kernel) (by decide)) rfl (vs := [.ref q1, .long ((((xs (i + 1))).toInt64 <<< ((32 : Int32).toInt64 &&& 63)) ||| (((xs (i + 2))).toInt64 &&& 4294967295)), .int (xs (i + 3))]) (rest := [.int z1]) ⟨⟨q1, hmn _ _ hq1, rfl⟩, rfl, rfl, True.intro⟩ (Nat.le_of_ble_eq_true rfl) hl.1 dL_law_472 hw2 ⟨Nat.le_of_ble_eq_true rfl, Nat.le_of_ble_eq_true rfl⟩ rfl (fun o2 ho2 ws3 v2 H2 locs2 hrv2 hw3 hmn2 => ?_)
    obtain ⟨σ2, hQ2, hJ3⟩ := ho2
    obtain ⟨z2, hz2⟩ := lw_ri_f (by decide +kernel) hQ2
    rw [hz2] at hrv2
    cases v2 with
    | none => exact hrv2.elim
    | some u2 =>
      cases (show u2 = .int z2 from hrv2)
      have hzz : z1 = z2 := lw_same5 hz1 hz2 hQ1 hQ2 hR hJ hJ2 hJ3
      refine lv_icmp_eq (tgt := 1476) hx hb dL_law_475 (by decide) (fun _ => ?_) (fun q => absurd hzz q)
      exact kk _ _ _ _ ⟨σ2, hJ3, lw_sp5 hz1 hz2 hQ1 hQ2 hR hJ hJ2 hJ3⟩ hw3 (hmn2 _ _ (hmn _ _ hq0)) (hmn2 _ _ (hmn _ _ hq1))
set_option maxHeartbeats 2000000 in
/-- sizes -/
theorem lw_k6 {p : Program} {l : Launch} {e : Env} {s : State} {m : MethodId} {below : List Frame} {meth : Method} {c : Code} {b : Nat} {xs : Nat → Int32} {ρ : rv_ρ} {D : va_G} {cA : Nat → ClassId} {L : Nat} (C0 : lw_At p s m meth c b L xs) (hKK : rv_KK ρ (lw_A s) D cA s) {i : Nat} (hi : i + 6 ≤ L) (hL : L ≤ 3072) {h : List rv_C} (hJ0 : lw_J h) {ws : va_W} {H : Heap} {locs : List Loc} {ls : Array Slot} {q0 q1 : Nat} (hw : rv_Wd ρ D cA (lw_A s) s [] h ws H locs) (hq0 : (ws.map Prod.fst)[0]? = some q0) (hq1 : (ws.map Prod.fst)[100]? = some q1) (hl : lv_has ls 4 [(0, .ref b), (1, .ref q0), (2, .ref q1), (3, .int (nI i))]) (kk : ∀ (h2 : List rv_C) (ws2 : va_W) (H2 : Heap) (locs2 : List Loc), lw_J h2 → rv_Wd ρ D cA (lw_A s) s [] h2 ws2 H2 locs2 → (ws2.map Prod.fst)[0]? = some q0 → (ws2.map Prod.fst)[100]? = some q1 → W p l e room_1 s m #[Value.ref b] below meth c H2 locs2 143 52759 (lw_Z below #[Value.ref b] s) (F0 m 1476 ls [])) : W p l e room_1 s m #[Value.ref b] below meth c H locs 143 52759 (lw_Z below #[Value.ref b] s) (F0 m 480 ls []) := by
  obtain ⟨σ0, hJ, hR⟩ := hJ0
  have hts2 := lw_hts C0
  have hx := C0.1
  have hb := C0.2.1
  have hown := C0.2.2.2.2.1
  refine lv_aload_n hx hb dL_law_480 rfl (lv_at hl 1 rfl) ?_
  refine lw_arg C0 (i := i) (j := 1) (pc := 481) (by omega) hL (by decide) dL_law_481 dL_law_482 dL_law_483 dL_law_484 dL_law_485 (lv_at hl 0 rfl) (lv_at hl 3 rfl) hw.2.2.2.1 ?_
  have hct := lw_use (l := l) (ρ := ρ) (as := [rv_ref 0, .inl (xs (i + 1))]) hJ (sx_w235 (sx_tc_all _)) (by decide +kernel) (fun σ hσ => ⟨⟨0, List.Mem.head _, rfl⟩, ⟨_, rfl, (hσ 19001 (by decide) (by decide)).symm, (sx_r32 _).1, (sx_r32 _).2⟩, True.intro⟩)
  refine lw_cV C0 hKK (k := 45) (mi := 172) (ci := 11) (d := 2) (ts := [12196, 12197, 12198, 10001]) (by decide +kernel) (by decide) hct (lw_rcv hJ (by decide) (by decide +kernel) (by decide)) rfl (vs := [.ref q0, .int (xs (i + 1))]) (rest := []) ⟨⟨q0, hq0, rfl⟩, rfl, True.intro⟩ (Nat.le_of_ble_eq_true rfl) hl.1 dL_law_486 hw ⟨Nat.le_of_ble_eq_true rfl, Nat.le_of_ble_eq_true rfl⟩ rfl (fun o1 ho1 ws2 v1 H1 locs1 hrv1 hw2 hmn => ?_)
  obtain ⟨σ1, hQ1, hJ2⟩ := ho1
  obtain ⟨z1, hz1⟩ := lw_ri_f (by decide +kernel) hQ1
  rw [hz1] at hrv1
  cases v1 with
  | none => exact hrv1.elim
  | some u1 =>
    cases (show u1 = .int z1 from hrv1)
    refine lv_pop hx hb dL_law_489 rfl ?_
    refine lv_aload_n hx hb dL_law_490 rfl (lv_at hl 2 rfl) ?_
    refine lw_arg C0 (i := i) (j := 1) (pc := 491) (by omega) hL (by decide) dL_law_491 dL_law_492 dL_law_493 dL_law_494 dL_law_495 (lv_at hl 0 rfl) (lv_at hl 3 rfl) hw2.2.2.2.1 ?_
    have hct2 := lw_use (l := l) (ρ := ρ) (as := [rv_ref 100, .inl (xs (i + 1))]) hJ2 (sx_w336 (sx_tc_all _)) (by decide +kernel) (fun σ hσ => ⟨⟨100, List.Mem.head _, rfl⟩, ⟨_, rfl, (hσ 19001 (by decide) (by decide)).symm, (sx_r32 _).1, (sx_r32 _).2⟩, True.intro⟩)
    refine lw_cV C0 hKK (k := 49) (mi := 271) (ci := 12) (d := 2) (ts := [16161, 16162, 16163, 10013]) (by decide +kernel) (by decide) hct2 (lw_rcv hJ2 (by decide) (by decide +kernel) (by decide)) rfl (vs := [.ref q1, .int (xs (i + 1))]) (rest := []) ⟨⟨q1, hmn _ _ hq1, rfl⟩, rfl, True.intro⟩ (Nat.le_of_ble_eq_true rfl) hl.1 dL_law_496 hw2 ⟨Nat.le_of_ble_eq_true rfl, Nat.le_of_ble_eq_true rfl⟩ rfl (fun o2 ho2 ws3 v2 H2 locs2 hrv2 hw3 hmn2 => ?_)
    obtain ⟨σ2, hQ2, hJ3⟩ := ho2
    obtain ⟨z2, hz2⟩ := lw_ri_f (by decide +kernel) hQ2
    rw [hz2] at hrv2
    cases v2 with
    | none => exact hrv2.elim
    | some u2 =>
      cases (show u2 = .int z2 from hrv2)
      refine lv_pop hx hb dL_law_499 rfl ?_
      refine lv_goto (tgt := 1476) hx hb dL_law_500 (by decide) ?_
      exact kk _ _ _ _ ⟨σ2, hJ3, lw_stay (by decide +kernel) (by decide +kernel) hQ1 hQ2 hR⟩ hw3 (hmn2 _ _ (hmn _ _ hq0)) (hmn2 _ _ (hmn _ _ hq1))
set_option maxHeartbeats 2000000 in
/-- must -/
theorem lw_k7 {p : Program} {l : Launch} {e : Env} {s : State} {m : MethodId} {below : List Frame} {meth : Method} {c : Code} {b : Nat} {xs : Nat → Int32} {ρ : rv_ρ} {D : va_G} {cA : Nat → ClassId} {L : Nat} (C0 : lw_At p s m meth c b L xs) (hKK : rv_KK ρ (lw_A s) D cA s) {i : Nat} (hi : i + 6 ≤ L) (hL : L ≤ 3072) {h : List rv_C} (hJ0 : lw_J h) {ws : va_W} {H : Heap} {locs : List Loc} {ls : Array Slot} {q0 q1 : Nat} (hw : rv_Wd ρ D cA (lw_A s) s [] h ws H locs) (hq0 : (ws.map Prod.fst)[0]? = some q0) (hq1 : (ws.map Prod.fst)[100]? = some q1) (hl : lv_has ls 4 [(0, .ref b), (1, .ref q0), (2, .ref q1), (3, .int (nI i))]) (kk : ∀ (h2 : List rv_C) (ws2 : va_W) (H2 : Heap) (locs2 : List Loc), lw_J h2 → rv_Wd ρ D cA (lw_A s) s [] h2 ws2 H2 locs2 → (ws2.map Prod.fst)[0]? = some q0 → (ws2.map Prod.fst)[100]? = some q1 → W p l e room_1 s m #[Value.ref b] below meth c H2 locs2 143 52759 (lw_Z below #[Value.ref b] s) (F0 m 1476 ls [])) : W p l e room_1 s m #[Value.ref b] below meth c H locs 143 52759 (lw_Z below #[Value.ref b] s) (F0 m 503 ls []) := by
  obtain ⟨σ0, hJ, hR⟩ := hJ0
  have hts2 := lw_hts C0
  have hx := C0.1
  have hb := C0.2.1
  have hown := C0.2.2.2.2.1
  refine lv_aload_n hx hb dL_law_503 rfl (lv_at hl 1 rfl) ?_
  refine lw_arg C0 (i := i) (j := 1) (pc := 504) (by omega) hL (by decide) dL_law_504 dL_law_505 dL_law_506 dL_law_507 dL_law_508 (lv_at hl 0 rfl) (lv_at hl 3 rfl) hw.2.2.2.1 ?_
  refine lw_arg C0 (i := i) (j := 2) (pc := 509) (by omega) hL (by decide) dL_law_509 dL_law_510 dL_law_511 dL_law_512 dL_law_513 (lv_at hl 0 rfl) (lv_at hl 3 rfl) hw.2.2.2.1 ?_
  refine lw_arg C0 (i := i) (j := 3) (pc := 514) (by omega) hL (by decide) dL_law_514 dL_law_515 dL_law_516 dL_law_517 dL_law_518 (lv_at hl 0 rfl) (lv_at hl 3 rfl) hw.2.2.2.1 ?_
  refine lw_ne0 hx hb dL_law_519 (tgt := 526) (by decide) dL_law_522 dL_law_523 (tg2 := 527) (by decide) dL_law_526 rfl (fun zb0 hzb0 => ?_)
  have hct := lw_use (l := l) (ρ := ρ) (as := [rv_ref 0, .inl (xs (i + 1)), .inl (xs (i + 2)), .inl zb0]) hJ (sx_w218 (sx_tc_all _)) (by decide +kernel) (fun σ hσ => ⟨⟨0, List.Mem.head _, rfl⟩, ⟨_, rfl, (hσ 19001 (by decide) (by decide)).symm, (sx_r32 _).1, (sx_r32 _).2⟩, ⟨_, rfl, (hσ 19002 (by decide) (by decide)).symm, (sx_r32 _).1, (sx_r32 _).2⟩, ⟨_, rfl, (hσ 19003 (by decide) (by decide)).symm, hzb0.1, hzb0.2⟩, True.intro⟩)
  refine lw_cV C0 hKK (k := 50) (mi := 159) (ci := 11) (d := 4) (ts := [12200, 12201, 12202, 10001]) (by decide +kernel) (by decide) hct (lw_rcv hJ (by decide) (by decide +kernel) (by decide)) rfl (vs := [.ref q0, .int (xs (i + 1)), .int (xs (i + 2)), .int zb0]) (rest := []) ⟨⟨q0, hq0, rfl⟩, rfl, rfl, rfl, True.intro⟩ (Nat.le_of_ble_eq_true rfl) hl.1 dL_law_527 hw ⟨Nat.le_of_ble_eq_true rfl, Nat.le_of_ble_eq_true rfl⟩ rfl (fun o1 ho1 ws2 v1 H1 locs1 hrv1 hw2 hmn => ?_)
  obtain ⟨σ1, hQ1, hJ2⟩ := ho1
  obtain ⟨z1, hz1⟩ := lw_ri_f (by decide +kernel) hQ1
  rw [hz1] at hrv1
  cases v1 with
  | none => exact hrv1.elim
  | some u1 =>
    cases (show u1 = .int z1 from hrv1)
    refine lv_pop hx hb dL_law_530 rfl ?_
    refine lv_aload_n hx hb dL_law_531 rfl (lv_at hl 2 rfl) ?_
    refine lw_arg C0 (i := i) (j := 1) (pc := 532) (by omega) hL (by decide) dL_law_532 dL_law_533 dL_law_534 dL_law_535 dL_law_536 (lv_at hl 0 rfl) (lv_at hl 3 rfl) hw2.2.2.2.1 ?_
    refine lw_arg C0 (i := i) (j := 2) (pc := 537) (by omega) hL (by decide) dL_law_537 dL_law_538 dL_law_539 dL_law_540 dL_law_541 (lv_at hl 0 rfl) (lv_at hl 3 rfl) hw2.2.2.2.1 ?_
    refine lw_arg C0 (i := i) (j := 3) (pc := 542) (by omega) hL (by decide) dL_law_542 dL_law_543 dL_law_544 dL_law_545 dL_law_546 (lv_at hl 0 rfl) (lv_at hl 3 rfl) hw2.2.2.2.1 ?_
    refine lw_ne0 hx hb dL_law_547 (tgt := 554) (by decide) dL_law_550 dL_law_551 (tg2 := 555) (by decide) dL_law_554 rfl (fun zb1 hzb1 => ?_)
    have hct2 := lw_use (l := l) (ρ := ρ) (as := [rv_ref 100, .inl (xs (i + 1)), .inl (xs (i + 2)), .inl zb1]) hJ2 (sx_w313 (sx_tc_all _)) (by decide +kernel) (fun σ hσ => ⟨⟨100, List.Mem.head _, rfl⟩, ⟨_, rfl, (hσ 19001 (by decide) (by decide)).symm, (sx_r32 _).1, (sx_r32 _).2⟩, ⟨_, rfl, (hσ 19002 (by decide) (by decide)).symm, (sx_r32 _).1, (sx_r32 _).2⟩, ⟨_, rfl, (hσ 19003 (by decide) (by decide)).symm, hzb1.1, hzb1.2⟩, True.intro⟩)
    refine lw_cV C0 hKK (k := 54) (mi := 246) (ci := 12) (d := 4) (ts := [16165, 16166, 16167, 10013]) (by decide +kernel) (by decide) hct2 (lw_rcv hJ2 (by decide) (by decide +kernel) (by decide)) rfl (vs := [.ref q1, .int (xs (i + 1)), .int (xs (i + 2)), .int zb1]) (rest := []) ⟨⟨q1, hmn _ _ hq1, rfl⟩, rfl, rfl, rfl, True.intro⟩ (Nat.le_of_ble_eq_true rfl) hl.1 dL_law_555 hw2 ⟨Nat.le_of_ble_eq_true rfl, Nat.le_of_ble_eq_true rfl⟩ rfl (fun o2 ho2 ws3 v2 H2 locs2 hrv2 hw3 hmn2 => ?_)
    obtain ⟨σ2, hQ2, hJ3⟩ := ho2
    obtain ⟨z2, hz2⟩ := lw_ri_f (by decide +kernel) hQ2
    rw [hz2] at hrv2
    cases v2 with
    | none => exact hrv2.elim
    | some u2 =>
      cases (show u2 = .int z2 from hrv2)
      refine lv_pop hx hb dL_law_558 rfl ?_
      refine lv_goto (tgt := 1476) hx hb dL_law_559 (by decide) ?_
      exact kk _ _ _ _ ⟨σ2, hJ3, lw_sp7 hz1 hz2 hQ1 hQ2 hR hJ hJ2 hJ3⟩ hw3 (hmn2 _ _ (hmn _ _ hq0)) (hmn2 _ _ (hmn _ _ hq1))
set_option maxHeartbeats 2000000 in
/-- feed -/
theorem lw_k8 {p : Program} {l : Launch} {e : Env} {s : State} {m : MethodId} {below : List Frame} {meth : Method} {c : Code} {b : Nat} {xs : Nat → Int32} {ρ : rv_ρ} {D : va_G} {cA : Nat → ClassId} {L : Nat} (C0 : lw_At p s m meth c b L xs) (hKK : rv_KK ρ (lw_A s) D cA s) {i : Nat} (hi : i + 6 ≤ L) (hL : L ≤ 3072) {h : List rv_C} (hJ0 : lw_J h) {ws : va_W} {H : Heap} {locs : List Loc} {ls : Array Slot} {q0 q1 : Nat} (hw : rv_Wd ρ D cA (lw_A s) s [] h ws H locs) (hq0 : (ws.map Prod.fst)[0]? = some q0) (hq1 : (ws.map Prod.fst)[100]? = some q1) (hl : lv_has ls 4 [(0, .ref b), (1, .ref q0), (2, .ref q1), (3, .int (nI i))]) (kk : ∀ (h2 : List rv_C) (ws2 : va_W) (H2 : Heap) (locs2 : List Loc), lw_J h2 → rv_Wd ρ D cA (lw_A s) s [] h2 ws2 H2 locs2 → (ws2.map Prod.fst)[0]? = some q0 → (ws2.map Prod.fst)[100]? = some q1 → W p l e room_1 s m #[Value.ref b] below meth c H2 locs2 143 52759 (lw_Z below #[Value.ref b] s) (F0 m 1476 ls [])) : W p l e room_1 s m #[Value.ref b] below meth c H locs 143 52759 (lw_Z below #[Value.ref b] s) (F0 m 562 ls []) := by
  obtain ⟨σ0, hJ, hR⟩ := hJ0
  have hts2 := lw_hts C0
  have hx := C0.1
  have hb := C0.2.1
  have hown := C0.2.2.2.2.1
  refine lv_aload_n hx hb dL_law_562 rfl (lv_at hl 1 rfl) ?_
  refine lw_arg C0 (i := i) (j := 1) (pc := 563) (by omega) hL (by decide) dL_law_563 dL_law_564 dL_law_565 dL_law_566 dL_law_567 (lv_at hl 0 rfl) (lv_at hl 3 rfl) hw.2.2.2.1 ?_
  refine lw_arg C0 (i := i) (j := 2) (pc := 568) (by omega) hL (by decide) dL_law_568 dL_law_569 dL_law_570 dL_law_571 dL_law_572 (lv_at hl 0 rfl) (lv_at hl 3 rfl) hw.2.2.2.1 ?_
  refine lw_arg C0 (i := i) (j := 3) (pc := 573) (by omega) hL (by decide) dL_law_573 dL_law_574 dL_law_575 dL_law_576 dL_law_577 (lv_at hl 0 rfl) (lv_at hl 3 rfl) hw.2.2.2.1 ?_
  refine lw_arg C0 (i := i) (j := 4) (pc := 578) (by omega) hL (by decide) dL_law_578 dL_law_579 dL_law_580 dL_law_581 dL_law_582 (lv_at hl 0 rfl) (lv_at hl 3 rfl) hw.2.2.2.1 ?_
  refine lw_arg C0 (i := i) (j := 5) (pc := 583) (by omega) hL (by decide) dL_law_583 dL_law_584 dL_law_585 dL_law_586 dL_law_587 (lv_at hl 0 rfl) (lv_at hl 3 rfl) hw.2.2.2.1 ?_
  have hct := lw_use (l := l) (ρ := ρ) (as := [rv_ref 0, .inl (xs (i + 1)), .inl (xs (i + 2)), .inl (xs (i + 3)), .inl (xs (i + 4)), .inl (xs (i + 5))]) hJ (sx_w209 (sx_tc_all _)) (by decide +kernel) (fun σ hσ => ⟨⟨0, List.Mem.head _, rfl⟩, ⟨_, rfl, (hσ 19001 (by decide) (by decide)).symm, (sx_r32 _).1, (sx_r32 _).2⟩, ⟨_, rfl, (hσ 19002 (by decide) (by decide)).symm, (sx_r32 _).1, (sx_r32 _).2⟩, ⟨_, rfl, (hσ 19003 (by decide) (by decide)).symm, (sx_r32 _).1, (sx_r32 _).2⟩, ⟨_, rfl, (hσ 19004 (by decide) (by decide)).symm, (sx_r32 _).1, (sx_r32 _).2⟩, ⟨_, rfl, (hσ 19005 (by decide) (by decide)).symm, (sx_r32 _).1, (sx_r32 _).2⟩, True.intro⟩)
  refine lw_cV C0 hKK (k := 55) (mi := 145) (ci := 11) (d := 6) (ts := [12212, 12213, 12214, 10001]) (by decide +kernel) (by decide) hct (lw_rcv hJ (by decide) (by decide +kernel) (by decide)) rfl (vs := [.ref q0, .int (xs (i + 1)), .int (xs (i + 2)), .int (xs (i + 3)), .int (xs (i + 4)), .int (xs (i + 5))]) (rest := []) ⟨⟨q0, hq0, rfl⟩, rfl, rfl, rfl, rfl, rfl, True.intro⟩ (Nat.le_of_ble_eq_true rfl) hl.1 dL_law_588 hw ⟨Nat.le_of_ble_eq_true rfl, Nat.le_of_ble_eq_true rfl⟩ rfl (fun o1 ho1 ws2 v1 H1 locs1 hrv1 hw2 hmn => ?_)
  obtain ⟨σ1, hQ1, hJ2⟩ := ho1
  obtain ⟨z1, hz1⟩ := lw_ri_f (by decide +kernel) hQ1
  rw [hz1] at hrv1
  cases v1 with
  | none => exact hrv1.elim
  | some u1 =>
    cases (show u1 = .int z1 from hrv1)
    refine lv_pop hx hb dL_law_591 rfl ?_
    refine lv_aload_n hx hb dL_law_592 rfl (lv_at hl 2 rfl) ?_
    refine lw_arg C0 (i := i) (j := 1) (pc := 593) (by omega) hL (by decide) dL_law_593 dL_law_594 dL_law_595 dL_law_596 dL_law_597 (lv_at hl 0 rfl) (lv_at hl 3 rfl) hw2.2.2.2.1 ?_
    refine lw_arg C0 (i := i) (j := 2) (pc := 598) (by omega) hL (by decide) dL_law_598 dL_law_599 dL_law_600 dL_law_601 dL_law_602 (lv_at hl 0 rfl) (lv_at hl 3 rfl) hw2.2.2.2.1 ?_
    refine lw_arg C0 (i := i) (j := 3) (pc := 603) (by omega) hL (by decide) dL_law_603 dL_law_604 dL_law_605 dL_law_606 dL_law_607 (lv_at hl 0 rfl) (lv_at hl 3 rfl) hw2.2.2.2.1 ?_
    refine lw_arg C0 (i := i) (j := 4) (pc := 608) (by omega) hL (by decide) dL_law_608 dL_law_609 dL_law_610 dL_law_611 dL_law_612 (lv_at hl 0 rfl) (lv_at hl 3 rfl) hw2.2.2.2.1 ?_
    refine lw_arg C0 (i := i) (j := 5) (pc := 613) (by omega) hL (by decide) dL_law_613 dL_law_614 dL_law_615 dL_law_616 dL_law_617 (lv_at hl 0 rfl) (lv_at hl 3 rfl) hw2.2.2.2.1 ?_
    have hct2 := lw_use (l := l) (ρ := ρ) (as := [rv_ref 100, .inl (xs (i + 1)), .inl (xs (i + 2)), .inl (xs (i + 3)), .inl (xs (i + 4)), .inl (xs (i + 5))]) hJ2 (sx_w295 (sx_tc_all _)) (by decide +kernel) (fun σ hσ => ⟨⟨100, List.Mem.head _, rfl⟩, ⟨_, rfl, (hσ 19001 (by decide) (by decide)).symm, (sx_r32 _).1, (sx_r32 _).2⟩, ⟨_, rfl, (hσ 19002 (by decide) (by decide)).symm, (sx_r32 _).1, (sx_r32 _).2⟩, ⟨_, rfl, (hσ 19003 (by decide) (by decide)).symm, (sx_r32 _).1, (sx_r32 _).2⟩, ⟨_, rfl, (hσ 19004 (by decide) (by decide)).symm, (sx_r32 _).1, (sx_r32 _).2⟩, ⟨_, rfl, (hσ 19005 (by decide) (by decide)).symm, (sx_r32 _).1, (sx_r32 _).2⟩, True.intro⟩)
    refine lw_cV C0 hKK (k := 59) (mi := 213) (ci := 12) (d := 6) (ts := [16173, 16174, 16175, 10013]) (by decide +kernel) (by decide) hct2 (lw_rcv hJ2 (by decide) (by decide +kernel) (by decide)) rfl (vs := [.ref q1, .int (xs (i + 1)), .int (xs (i + 2)), .int (xs (i + 3)), .int (xs (i + 4)), .int (xs (i + 5))]) (rest := []) ⟨⟨q1, hmn _ _ hq1, rfl⟩, rfl, rfl, rfl, rfl, rfl, True.intro⟩ (Nat.le_of_ble_eq_true rfl) hl.1 dL_law_618 hw2 ⟨Nat.le_of_ble_eq_true rfl, Nat.le_of_ble_eq_true rfl⟩ rfl (fun o2 ho2 ws3 v2 H2 locs2 hrv2 hw3 hmn2 => ?_)
    obtain ⟨σ2, hQ2, hJ3⟩ := ho2
    obtain ⟨z2, hz2⟩ := lw_ri_f (by decide +kernel) hQ2
    rw [hz2] at hrv2
    cases v2 with
    | none => exact hrv2.elim
    | some u2 =>
      cases (show u2 = .int z2 from hrv2)
      refine lv_pop hx hb dL_law_621 rfl ?_
      refine lv_goto (tgt := 1476) hx hb dL_law_622 (by decide) ?_
      exact kk _ _ _ _ ⟨σ2, hJ3, lw_sp8 hz1 hz2 hQ1 hQ2 hR hJ hJ2 hJ3⟩ hw3 (hmn2 _ _ (hmn _ _ hq0)) (hmn2 _ _ (hmn _ _ hq1))
set_option maxHeartbeats 2000000 in
/-- wish -/
theorem lw_k9 {p : Program} {l : Launch} {e : Env} {s : State} {m : MethodId} {below : List Frame} {meth : Method} {c : Code} {b : Nat} {xs : Nat → Int32} {ρ : rv_ρ} {D : va_G} {cA : Nat → ClassId} {L : Nat} (C0 : lw_At p s m meth c b L xs) (hKK : rv_KK ρ (lw_A s) D cA s) {i : Nat} (hi : i + 6 ≤ L) (hL : L ≤ 3072) {h : List rv_C} (hJ0 : lw_J h) {ws : va_W} {H : Heap} {locs : List Loc} {ls : Array Slot} {q0 q1 : Nat} (hw : rv_Wd ρ D cA (lw_A s) s [] h ws H locs) (hq0 : (ws.map Prod.fst)[0]? = some q0) (hq1 : (ws.map Prod.fst)[100]? = some q1) (hl : lv_has ls 4 [(0, .ref b), (1, .ref q0), (2, .ref q1), (3, .int (nI i))]) (kk : ∀ (h2 : List rv_C) (ws2 : va_W) (H2 : Heap) (locs2 : List Loc), lw_J h2 → rv_Wd ρ D cA (lw_A s) s [] h2 ws2 H2 locs2 → (ws2.map Prod.fst)[0]? = some q0 → (ws2.map Prod.fst)[100]? = some q1 → W p l e room_1 s m #[Value.ref b] below meth c H2 locs2 143 52759 (lw_Z below #[Value.ref b] s) (F0 m 1476 ls [])) : W p l e room_1 s m #[Value.ref b] below meth c H locs 143 52759 (lw_Z below #[Value.ref b] s) (F0 m 625 ls []) := by
  obtain ⟨σ0, hJ, hR⟩ := hJ0
  have hts2 := lw_hts C0
  have hx := C0.1
  have hb := C0.2.1
  have hown := C0.2.2.2.2.1
  refine lv_aload_n hx hb dL_law_625 rfl (lv_at hl 1 rfl) ?_
  refine lw_arg C0 (i := i) (j := 1) (pc := 626) (by omega) hL (by decide) dL_law_626 dL_law_627 dL_law_628 dL_law_629 dL_law_630 (lv_at hl 0 rfl) (lv_at hl 3 rfl) hw.2.2.2.1 ?_
  refine lw_arg C0 (i := i) (j := 2) (pc := 631) (by omega) hL (by decide) dL_law_631 dL_law_632 dL_law_633 dL_law_634 dL_law_635 (lv_at hl 0 rfl) (lv_at hl 3 rfl) hw.2.2.2.1 ?_
  have hct := lw_use (l := l) (ρ := ρ) (as := [rv_ref 0, .inl (xs (i + 1)), .inl (xs (i + 2))]) hJ (sx_w244 (sx_tc_all _)) (by decide +kernel) (fun σ hσ => ⟨⟨0, List.Mem.head _, rfl⟩, ⟨_, rfl, (hσ 19001 (by decide) (by decide)).symm, (sx_r32 _).1, (sx_r32 _).2⟩, ⟨_, rfl, (hσ 19002 (by decide) (by decide)).symm, (sx_r32 _).1, (sx_r32 _).2⟩, True.intro⟩)
  refine lw_cV C0 hKK (k := 60) (mi := 184) (ci := 11) (d := 3) (ts := [12224, 12225, 12226, 10001]) (by decide +kernel) (by decide) hct (lw_rcv hJ (by decide) (by decide +kernel) (by decide)) rfl (vs := [.ref q0, .int (xs (i + 1)), .int (xs (i + 2))]) (rest := []) ⟨⟨q0, hq0, rfl⟩, rfl, rfl, True.intro⟩ (Nat.le_of_ble_eq_true rfl) hl.1 dL_law_636 hw ⟨Nat.le_of_ble_eq_true rfl, Nat.le_of_ble_eq_true rfl⟩ rfl (fun o1 ho1 ws2 v1 H1 locs1 hrv1 hw2 hmn => ?_)
  obtain ⟨σ1, hQ1, hJ2⟩ := ho1
  obtain ⟨z1, hz1⟩ := lw_ri_f (by decide +kernel) hQ1
  rw [hz1] at hrv1
  cases v1 with
  | none => exact hrv1.elim
  | some u1 =>
    cases (show u1 = .int z1 from hrv1)
    refine lv_pop hx hb dL_law_639 rfl ?_
    refine lv_aload_n hx hb dL_law_640 rfl (lv_at hl 2 rfl) ?_
    refine lw_arg C0 (i := i) (j := 1) (pc := 641) (by omega) hL (by decide) dL_law_641 dL_law_642 dL_law_643 dL_law_644 dL_law_645 (lv_at hl 0 rfl) (lv_at hl 3 rfl) hw2.2.2.2.1 ?_
    refine lw_arg C0 (i := i) (j := 2) (pc := 646) (by omega) hL (by decide) dL_law_646 dL_law_647 dL_law_648 dL_law_649 dL_law_650 (lv_at hl 0 rfl) (lv_at hl 3 rfl) hw2.2.2.2.1 ?_
    have hct2 := lw_use (l := l) (ρ := ρ) (as := [rv_ref 100, .inl (xs (i + 1)), .inl (xs (i + 2))]) hJ2 (sx_w345 (sx_tc_all _)) (by decide +kernel) (fun σ hσ => ⟨⟨100, List.Mem.head _, rfl⟩, ⟨_, rfl, (hσ 19001 (by decide) (by decide)).symm, (sx_r32 _).1, (sx_r32 _).2⟩, ⟨_, rfl, (hσ 19002 (by decide) (by decide)).symm, (sx_r32 _).1, (sx_r32 _).2⟩, True.intro⟩)
    refine lw_cV C0 hKK (k := 64) (mi := 287) (ci := 12) (d := 3) (ts := [16181, 16182, 16183, 10013]) (by decide +kernel) (by decide) hct2 (lw_rcv hJ2 (by decide) (by decide +kernel) (by decide)) rfl (vs := [.ref q1, .int (xs (i + 1)), .int (xs (i + 2))]) (rest := []) ⟨⟨q1, hmn _ _ hq1, rfl⟩, rfl, rfl, True.intro⟩ (Nat.le_of_ble_eq_true rfl) hl.1 dL_law_651 hw2 ⟨Nat.le_of_ble_eq_true rfl, Nat.le_of_ble_eq_true rfl⟩ rfl (fun o2 ho2 ws3 v2 H2 locs2 hrv2 hw3 hmn2 => ?_)
    obtain ⟨σ2, hQ2, hJ3⟩ := ho2
    obtain ⟨z2, hz2⟩ := lw_ri_f (by decide +kernel) hQ2
    rw [hz2] at hrv2
    cases v2 with
    | none => exact hrv2.elim
    | some u2 =>
      cases (show u2 = .int z2 from hrv2)
      refine lv_pop hx hb dL_law_654 rfl ?_
      refine lv_goto (tgt := 1476) hx hb dL_law_655 (by decide) ?_
      exact kk _ _ _ _ ⟨σ2, hJ3, lw_sp9 hz1 hz2 hQ1 hQ2 hR hJ hJ2 hJ3⟩ hw3 (hmn2 _ _ (hmn _ _ hq0)) (hmn2 _ _ (hmn _ _ hq1))
set_option maxHeartbeats 2000000 in
/-- fault -/
theorem lw_k10 {p : Program} {l : Launch} {e : Env} {s : State} {m : MethodId} {below : List Frame} {meth : Method} {c : Code} {b : Nat} {xs : Nat → Int32} {ρ : rv_ρ} {D : va_G} {cA : Nat → ClassId} {L : Nat} (C0 : lw_At p s m meth c b L xs) (hKK : rv_KK ρ (lw_A s) D cA s) {i : Nat} (hi : i + 6 ≤ L) (hL : L ≤ 3072) {h : List rv_C} (hJ0 : lw_J h) {ws : va_W} {H : Heap} {locs : List Loc} {ls : Array Slot} {q0 q1 : Nat} (hw : rv_Wd ρ D cA (lw_A s) s [] h ws H locs) (hq0 : (ws.map Prod.fst)[0]? = some q0) (hq1 : (ws.map Prod.fst)[100]? = some q1) (hl : lv_has ls 4 [(0, .ref b), (1, .ref q0), (2, .ref q1), (3, .int (nI i))]) (kk : ∀ (h2 : List rv_C) (ws2 : va_W) (H2 : Heap) (locs2 : List Loc), lw_J h2 → rv_Wd ρ D cA (lw_A s) s [] h2 ws2 H2 locs2 → (ws2.map Prod.fst)[0]? = some q0 → (ws2.map Prod.fst)[100]? = some q1 → W p l e room_1 s m #[Value.ref b] below meth c H2 locs2 143 52759 (lw_Z below #[Value.ref b] s) (F0 m 1476 ls [])) : W p l e room_1 s m #[Value.ref b] below meth c H locs 143 52759 (lw_Z below #[Value.ref b] s) (F0 m 658 ls []) := by
  obtain ⟨σ0, hJ, hR⟩ := hJ0
  have hts2 := lw_hts C0
  have hx := C0.1
  have hb := C0.2.1
  have hown := C0.2.2.2.2.1
  refine lv_aload_n hx hb dL_law_658 rfl (lv_at hl 1 rfl) ?_
  refine lw_arg C0 (i := i) (j := 1) (pc := 659) (by omega) hL (by decide) dL_law_659 dL_law_660 dL_law_661 dL_law_662 dL_law_663 (lv_at hl 0 rfl) (lv_at hl 3 rfl) hw.2.2.2.1 ?_
  have hct := lw_use (l := l) (ρ := ρ) (as := [rv_ref 0, .inl (xs (i + 1))]) hJ (sx_w208 (sx_tc_all _)) (by decide +kernel) (fun σ hσ => ⟨⟨0, List.Mem.head _, rfl⟩, ⟨_, rfl, (hσ 19001 (by decide) (by decide)).symm, (sx_r32 _).1, (sx_r32 _).2⟩, True.intro⟩)
  refine lw_cV C0 hKK (k := 65) (mi := 144) (ci := 11) (d := 2) (ts := [13071, 13072, 13073, 10001]) (by decide +kernel) (by decide) hct (lw_rcv hJ (by decide) (by decide +kernel) (by decide)) rfl (vs := [.ref q0, .int (xs (i + 1))]) (rest := []) ⟨⟨q0, hq0, rfl⟩, rfl, True.intro⟩ (Nat.le_of_ble_eq_true rfl) hl.1 dL_law_664 hw ⟨Nat.le_of_ble_eq_true rfl, Nat.le_of_ble_eq_true rfl⟩ rfl (fun o1 ho1 ws2 v1 H1 locs1 hrv1 hw2 hmn => ?_)
  obtain ⟨σ1, hQ1, hJ2⟩ := ho1
  obtain ⟨z1, hz1⟩ := lw_ri_f (by decide +kernel) hQ1
  rw [hz1] at hrv1
  cases v1 with
  | none => exact hrv1.elim
  | some u1 =>
    cases (show u1 = .int z1 from hrv1)
    refine lv_pop hx hb dL_law_667 rfl ?_
    refine lv_aload_n hx hb dL_law_668 rfl (lv_at hl 2 rfl) ?_
    refine lw_arg C0 (i := i) (j := 1) (pc := 669) (by omega) hL (by decide) dL_law_669 dL_law_670 dL_law_671 dL_law_672 dL_law_673 (lv_at hl 0 rfl) (lv_at hl 3 rfl) hw2.2.2.2.1 ?_
    have hct2 := lw_use (l := l) (ρ := ρ) (as := [rv_ref 100, .inl (xs (i + 1))]) hJ2 (sx_w294 (sx_tc_all _)) (by decide +kernel) (fun σ hσ => ⟨⟨100, List.Mem.head _, rfl⟩, ⟨_, rfl, (hσ 19001 (by decide) (by decide)).symm, (sx_r32 _).1, (sx_r32 _).2⟩, True.intro⟩)
    refine lw_cV C0 hKK (k := 69) (mi := 212) (ci := 12) (d := 2) (ts := [17009, 17010, 17011, 10013]) (by decide +kernel) (by decide) hct2 (lw_rcv hJ2 (by decide) (by decide +kernel) (by decide)) rfl (vs := [.ref q1, .int (xs (i + 1))]) (rest := []) ⟨⟨q1, hmn _ _ hq1, rfl⟩, rfl, True.intro⟩ (Nat.le_of_ble_eq_true rfl) hl.1 dL_law_674 hw2 ⟨Nat.le_of_ble_eq_true rfl, Nat.le_of_ble_eq_true rfl⟩ rfl (fun o2 ho2 ws3 v2 H2 locs2 hrv2 hw3 hmn2 => ?_)
    obtain ⟨σ2, hQ2, hJ3⟩ := ho2
    obtain ⟨z2, hz2⟩ := lw_ri_f (by decide +kernel) hQ2
    rw [hz2] at hrv2
    cases v2 with
    | none => exact hrv2.elim
    | some u2 =>
      cases (show u2 = .int z2 from hrv2)
      refine lv_pop hx hb dL_law_677 rfl ?_
      refine lv_goto (tgt := 1476) hx hb dL_law_678 (by decide) ?_
      exact kk _ _ _ _ ⟨σ2, hJ3, lw_stay (by decide +kernel) (by decide +kernel) hQ1 hQ2 hR⟩ hw3 (hmn2 _ _ (hmn _ _ hq0)) (hmn2 _ _ (hmn _ _ hq1))
set_option maxHeartbeats 2000000 in
/-- worth -/
theorem lw_k11 {p : Program} {l : Launch} {e : Env} {s : State} {m : MethodId} {below : List Frame} {meth : Method} {c : Code} {b : Nat} {xs : Nat → Int32} {ρ : rv_ρ} {D : va_G} {cA : Nat → ClassId} {L : Nat} (C0 : lw_At p s m meth c b L xs) (hKK : rv_KK ρ (lw_A s) D cA s) {i : Nat} (hi : i + 6 ≤ L) (hL : L ≤ 3072) {h : List rv_C} (hJ0 : lw_J h) {ws : va_W} {H : Heap} {locs : List Loc} {ls : Array Slot} {q0 q1 : Nat} (hw : rv_Wd ρ D cA (lw_A s) s [] h ws H locs) (hq0 : (ws.map Prod.fst)[0]? = some q0) (hq1 : (ws.map Prod.fst)[100]? = some q1) (hl : lv_has ls 4 [(0, .ref b), (1, .ref q0), (2, .ref q1), (3, .int (nI i))]) (kk : ∀ (h2 : List rv_C) (ws2 : va_W) (H2 : Heap) (locs2 : List Loc), lw_J h2 → rv_Wd ρ D cA (lw_A s) s [] h2 ws2 H2 locs2 → (ws2.map Prod.fst)[0]? = some q0 → (ws2.map Prod.fst)[100]? = some q1 → W p l e room_1 s m #[Value.ref b] below meth c H2 locs2 143 52759 (lw_Z below #[Value.ref b] s) (F0 m 1476 ls [])) : W p l e room_1 s m #[Value.ref b] below meth c H locs 143 52759 (lw_Z below #[Value.ref b] s) (F0 m 681 ls []) := by
  obtain ⟨σ0, hJ, hR⟩ := hJ0
  have hts2 := lw_hts C0
  have hx := C0.1
  have hb := C0.2.1
  have hown := C0.2.2.2.2.1
  refine lv_aload_n hx hb dL_law_681 rfl (lv_at hl 1 rfl) ?_
  refine lw_arg C0 (i := i) (j := 1) (pc := 682) (by omega) hL (by decide) dL_law_682 dL_law_683 dL_law_684 dL_law_685 dL_law_686 (lv_at hl 0 rfl) (lv_at hl 3 rfl) hw.2.2.2.1 ?_
  refine lw_arg C0 (i := i) (j := 2) (pc := 687) (by omega) hL (by decide) dL_law_687 dL_law_688 dL_law_689 dL_law_690 dL_law_691 (lv_at hl 0 rfl) (lv_at hl 3 rfl) hw.2.2.2.1 ?_
  have hct := lw_use (l := l) (ρ := ρ) (as := [rv_ref 0, .inl (xs (i + 1)), .inl (xs (i + 2))]) hJ (sx_w245 (sx_tc_all _)) (by decide +kernel) (fun σ hσ => ⟨⟨0, List.Mem.head _, rfl⟩, ⟨_, rfl, (hσ 19001 (by decide) (by decide)).symm, (sx_r32 _).1, (sx_r32 _).2⟩, ⟨_, rfl, (hσ 19002 (by decide) (by decide)).symm, (sx_r32 _).1, (sx_r32 _).2⟩, True.intro⟩)
  refine lw_cV C0 hKK (k := 70) (mi := 185) (ci := 11) (d := 3) (ts := [13075, 13076, 13077, 10001]) (by decide +kernel) (by decide) hct (lw_rcv hJ (by decide) (by decide +kernel) (by decide)) rfl (vs := [.ref q0, .int (xs (i + 1)), .int (xs (i + 2))]) (rest := []) ⟨⟨q0, hq0, rfl⟩, rfl, rfl, True.intro⟩ (Nat.le_of_ble_eq_true rfl) hl.1 dL_law_692 hw ⟨Nat.le_of_ble_eq_true rfl, Nat.le_of_ble_eq_true rfl⟩ rfl (fun o1 ho1 ws2 v1 H1 locs1 hrv1 hw2 hmn => ?_)
  obtain ⟨σ1, hQ1, hJ2⟩ := ho1
  obtain ⟨z1, hz1⟩ := lw_ri_f (by decide +kernel) hQ1
  rw [hz1] at hrv1
  cases v1 with
  | none => exact hrv1.elim
  | some u1 =>
    cases (show u1 = .int z1 from hrv1)
    refine lv_pop hx hb dL_law_695 rfl ?_
    refine lv_aload_n hx hb dL_law_696 rfl (lv_at hl 2 rfl) ?_
    refine lw_arg C0 (i := i) (j := 1) (pc := 697) (by omega) hL (by decide) dL_law_697 dL_law_698 dL_law_699 dL_law_700 dL_law_701 (lv_at hl 0 rfl) (lv_at hl 3 rfl) hw2.2.2.2.1 ?_
    refine lw_arg C0 (i := i) (j := 2) (pc := 702) (by omega) hL (by decide) dL_law_702 dL_law_703 dL_law_704 dL_law_705 dL_law_706 (lv_at hl 0 rfl) (lv_at hl 3 rfl) hw2.2.2.2.1 ?_
    have hct2 := lw_use (l := l) (ρ := ρ) (as := [rv_ref 100, .inl (xs (i + 1)), .inl (xs (i + 2))]) hJ2 (sx_w346 (sx_tc_all _)) (by decide +kernel) (fun σ hσ => ⟨⟨100, List.Mem.head _, rfl⟩, ⟨_, rfl, (hσ 19001 (by decide) (by decide)).symm, (sx_r32 _).1, (sx_r32 _).2⟩, ⟨_, rfl, (hσ 19002 (by decide) (by decide)).symm, (sx_r32 _).1, (sx_r32 _).2⟩, True.intro⟩)
    refine lw_cV C0 hKK (k := 73) (mi := 290) (ci := 12) (d := 3) (ts := [17013, 17014, 17015, 10013]) (by decide +kernel) (by decide) hct2 (lw_rcv hJ2 (by decide) (by decide +kernel) (by decide)) rfl (vs := [.ref q1, .int (xs (i + 1)), .int (xs (i + 2))]) (rest := []) ⟨⟨q1, hmn _ _ hq1, rfl⟩, rfl, rfl, True.intro⟩ (Nat.le_of_ble_eq_true rfl) hl.1 dL_law_707 hw2 ⟨Nat.le_of_ble_eq_true rfl, Nat.le_of_ble_eq_true rfl⟩ rfl (fun o2 ho2 ws3 v2 H2 locs2 hrv2 hw3 hmn2 => ?_)
    obtain ⟨σ2, hQ2, hJ3⟩ := ho2
    obtain ⟨z2, hz2⟩ := lw_ri_f (by decide +kernel) hQ2
    rw [hz2] at hrv2
    cases v2 with
    | none => exact hrv2.elim
    | some u2 =>
      cases (show u2 = .int z2 from hrv2)
      refine lv_pop hx hb dL_law_710 rfl ?_
      refine lv_goto (tgt := 1476) hx hb dL_law_711 (by decide) ?_
      exact kk _ _ _ _ ⟨σ2, hJ3, lw_stay (by decide +kernel) (by decide +kernel) hQ1 hQ2 hR⟩ hw3 (hmn2 _ _ (hmn _ _ hq0)) (hmn2 _ _ (hmn _ _ hq1))
