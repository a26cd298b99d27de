set_option maxHeartbeats 2000000 in
/-- knot -/
theorem lw_k24 {p : Program} {l : Launch} {e : Env} {s : State} {m : MethodId} {below : List Frame} {meth : Method} {c : Code} {b : Nat} {xs : Nat → Int32} {ρ : rv_ρ} {D : va_G} {cA : Nat → ClassId} {L : Nat} (C0 : lw_At p s m meth c b L xs) (hKK : rv_KK ρ (lw_A s) D cA s) {i : Nat} (hi : i + 6 ≤ L) (hL : L ≤ 3072) {h : List rv_C} (hJ0 : lw_J h) {ws : va_W} {H : Heap} {locs : List Loc} {ls : Array Slot} {q0 q1 : Nat} (hw : rv_Wd ρ D cA (lw_A s) s [] h ws H locs) (hq0 : (ws.map Prod.fst)[0]? = some q0) (hq1 : (ws.map Prod.fst)[100]? = some q1) (hl : lv_has ls 4 [(0, .ref b), (1, .ref q0), (2, .ref q1), (3, .int (nI i))]) (kk : ∀ (h2 : List rv_C) (ws2 : va_W) (H2 : Heap) (locs2 : List Loc), lw_J h2 → rv_Wd ρ D cA (lw_A s) s [] h2 ws2 H2 locs2 → (ws2.map Prod.fst)[0]? = some q0 → (ws2.map Prod.fst)[100]? = some q1 → W p l e room_1 s m #[Value.ref b] below meth c H2 locs2 143 52759 (lw_Z below #[Value.ref b] s) (F0 m 1476 ls [])) : W p l e room_1 s m #[Value.ref b] below meth c H locs 143 52759 (lw_Z below #[Value.ref b] s) (F0 m 1130 ls []) := by
  obtain ⟨σ0, hJ, hR⟩ := hJ0
  have hts2 := lw_hts C0
  have hx := C0.1
  have hb := C0.2.1
  have hown := C0.2.2.2.2.1
  refine lv_aload_n hx hb dL_law_1130 rfl (lv_at hl 1 rfl) ?_
  refine lw_arg C0 (i := i) (j := 1) (pc := 1131) (by omega) hL (by decide) dL_law_1131 dL_law_1132 dL_law_1133 dL_law_1134 dL_law_1135 (lv_at hl 0 rfl) (lv_at hl 3 rfl) hw.2.2.2.1 ?_
  have hct := lw_use (l := l) (ρ := ρ) (as := [rv_ref 0, .inl (xs (i + 1))]) hJ (sx_w215 (sx_tc_all _)) (by decide +kernel) (fun σ hσ => ⟨⟨0, List.Mem.head _, rfl⟩, ⟨_, rfl, (hσ 19001 (by decide) (by decide)).symm, (sx_r32 _).1, (sx_r32 _).2⟩, True.intro⟩)
  refine lw_cV C0 hKK (k := 124) (mi := 156) (ci := 11) (d := 2) (ts := [14132, 14133, 14134, 10001]) (by decide +kernel) (by decide) hct (lw_rcv hJ (by decide) (by decide +kernel) (by decide)) rfl (vs := [.ref q0, .int (xs (i + 1))]) (rest := []) ⟨⟨q0, hq0, rfl⟩, rfl, True.intro⟩ (Nat.le_of_ble_eq_true rfl) hl.1 dL_law_1136 hw ⟨Nat.le_of_ble_eq_true rfl, Nat.le_of_ble_eq_true rfl⟩ rfl (fun o1 ho1 ws2 v1 H1 locs1 hrv1 hw2 hmn => ?_)
  obtain ⟨σ1, hQ1, hJ2⟩ := ho1
  obtain ⟨z1, hz1⟩ := lw_ri_f (by decide +kernel) hQ1
  rw [hz1] at hrv1
  cases v1 with
  | none => exact hrv1.elim
  | some u1 =>
    cases (show u1 = .int z1 from hrv1)
    refine lv_pop hx hb dL_law_1139 rfl ?_
    refine lv_aload_n hx hb dL_law_1140 rfl (lv_at hl 2 rfl) ?_
    refine lw_arg C0 (i := i) (j := 1) (pc := 1141) (by omega) hL (by decide) dL_law_1141 dL_law_1142 dL_law_1143 dL_law_1144 dL_law_1145 (lv_at hl 0 rfl) (lv_at hl 3 rfl) hw2.2.2.2.1 ?_
    have hct2 := lw_use (l := l) (ρ := ρ) (as := [rv_ref 100, .inl (xs (i + 1))]) hJ2 (sx_w309 (sx_tc_all _)) (by decide +kernel) (fun σ hσ => ⟨⟨100, List.Mem.head _, rfl⟩, ⟨_, rfl, (hσ 19001 (by decide) (by decide)).symm, (sx_r32 _).1, (sx_r32 _).2⟩, True.intro⟩)
    refine lw_cV C0 hKK (k := 127) (mi := 242) (ci := 12) (d := 2) (ts := [17213, 17214, 17215, 10013]) (by decide +kernel) (by decide) hct2 (lw_rcv hJ2 (by decide) (by decide +kernel) (by decide)) rfl (vs := [.ref q1, .int (xs (i + 1))]) (rest := []) ⟨⟨q1, hmn _ _ hq1, rfl⟩, rfl, True.intro⟩ (Nat.le_of_ble_eq_true rfl) hl.1 dL_law_1146 hw2 ⟨Nat.le_of_ble_eq_true rfl, Nat.le_of_ble_eq_true rfl⟩ rfl (fun o2 ho2 ws3 v2 H2 locs2 hrv2 hw3 hmn2 => ?_)
    obtain ⟨σ2, hQ2, hJ3⟩ := ho2
    obtain ⟨z2, hz2⟩ := lw_ri_f (by decide +kernel) hQ2
    rw [hz2] at hrv2
    cases v2 with
    | none => exact hrv2.elim
    | some u2 =>
      cases (show u2 = .int z2 from hrv2)
      refine lv_pop hx hb dL_law_1149 rfl ?_
      refine lv_goto (tgt := 1476) hx hb dL_law_1150 (by decide) ?_
      exact kk _ _ _ _ ⟨σ2, hJ3, lw_stay (by decide +kernel) (by decide +kernel) hQ1 hQ2 hR⟩ hw3 (hmn2 _ _ (hmn _ _ hq0)) (hmn2 _ _ (hmn _ _ hq1))
set_option maxHeartbeats 2000000 in
/-- near -/
theorem lw_k25 {p : Program} {l : Launch} {e : Env} {s : State} {m : MethodId} {below : List Frame} {meth : Method} {c : Code} {b : Nat} {xs : Nat → Int32} {ρ : rv_ρ} {D : va_G} {cA : Nat → ClassId} {L : Nat} (C0 : lw_At p s m meth c b L xs) (hKK : rv_KK ρ (lw_A s) D cA s) {i : Nat} (hi : i + 6 ≤ L) (hL : L ≤ 3072) {h : List rv_C} (hJ0 : lw_J h) {ws : va_W} {H : Heap} {locs : List Loc} {ls : Array Slot} {q0 q1 : Nat} (hw : rv_Wd ρ D cA (lw_A s) s [] h ws H locs) (hq0 : (ws.map Prod.fst)[0]? = some q0) (hq1 : (ws.map Prod.fst)[100]? = some q1) (hl : lv_has ls 4 [(0, .ref b), (1, .ref q0), (2, .ref q1), (3, .int (nI i))]) (kk : ∀ (h2 : List rv_C) (ws2 : va_W) (H2 : Heap) (locs2 : List Loc), lw_J h2 → rv_Wd ρ D cA (lw_A s) s [] h2 ws2 H2 locs2 → (ws2.map Prod.fst)[0]? = some q0 → (ws2.map Prod.fst)[100]? = some q1 → W p l e room_1 s m #[Value.ref b] below meth c H2 locs2 143 52759 (lw_Z below #[Value.ref b] s) (F0 m 1476 ls [])) : W p l e room_1 s m #[Value.ref b] below meth c H locs 143 52759 (lw_Z below #[Value.ref b] s) (F0 m 1153 ls []) := by
  obtain ⟨σ0, hJ, hR⟩ := hJ0
  have hts2 := lw_hts C0
  have hx := C0.1
  have hb := C0.2.1
  have hown := C0.2.2.2.2.1
  refine lv_aload_n hx hb dL_law_1153 rfl (lv_at hl 1 rfl) ?_
  refine lw_arg C0 (i := i) (j := 1) (pc := 1154) (by omega) hL (by decide) dL_law_1154 dL_law_1155 dL_law_1156 dL_law_1157 dL_law_1158 (lv_at hl 0 rfl) (lv_at hl 3 rfl) hw.2.2.2.1 ?_
  have hct := lw_use (l := l) (ρ := ρ) (as := [rv_ref 0, .inl (xs (i + 1))]) hJ (sx_w219 (sx_tc_all _)) (by decide +kernel) (fun σ hσ => ⟨⟨0, List.Mem.head _, rfl⟩, ⟨_, rfl, (hσ 19001 (by decide) (by decide)).symm, (sx_r32 _).1, (sx_r32 _).2⟩, True.intro⟩)
  refine lw_cV C0 hKK (k := 128) (mi := 160) (ci := 11) (d := 2) (ts := [14143, 14144, 14145, 10001]) (by decide +kernel) (by decide) hct (lw_rcv hJ (by decide) (by decide +kernel) (by decide)) rfl (vs := [.ref q0, .int (xs (i + 1))]) (rest := []) ⟨⟨q0, hq0, rfl⟩, rfl, True.intro⟩ (Nat.le_of_ble_eq_true rfl) hl.1 dL_law_1159 hw ⟨Nat.le_of_ble_eq_true rfl, Nat.le_of_ble_eq_true rfl⟩ rfl (fun o1 ho1 ws2 v1 H1 locs1 hrv1 hw2 hmn => ?_)
  obtain ⟨σ1, hQ1, hJ2⟩ := ho1
  obtain ⟨z1, hz1⟩ := lw_ri_f (by decide +kernel) hQ1
  rw [hz1] at hrv1
  cases v1 with
  | none => exact hrv1.elim
  | some u1 =>
    cases (show u1 = .int z1 from hrv1)
    refine lv_pop hx hb dL_law_1162 rfl ?_
    refine lv_aload_n hx hb dL_law_1163 rfl (lv_at hl 2 rfl) ?_
    refine lw_arg C0 (i := i) (j := 1) (pc := 1164) (by omega) hL (by decide) dL_law_1164 dL_law_1165 dL_law_1166 dL_law_1167 dL_law_1168 (lv_at hl 0 rfl) (lv_at hl 3 rfl) hw2.2.2.2.1 ?_
    have hct2 := lw_use (l := l) (ρ := ρ) (as := [rv_ref 100, .inl (xs (i + 1))]) hJ2 (sx_w315 (sx_tc_all _)) (by decide +kernel) (fun σ hσ => ⟨⟨100, List.Mem.head _, rfl⟩, ⟨_, rfl, (hσ 19001 (by decide) (by decide)).symm, (sx_r32 _).1, (sx_r32 _).2⟩, True.intro⟩)
    refine lw_cV C0 hKK (k := 131) (mi := 248) (ci := 12) (d := 2) (ts := [17221, 17222, 17223, 10013]) (by decide +kernel) (by decide) hct2 (lw_rcv hJ2 (by decide) (by decide +kernel) (by decide)) rfl (vs := [.ref q1, .int (xs (i + 1))]) (rest := []) ⟨⟨q1, hmn _ _ hq1, rfl⟩, rfl, True.intro⟩ (Nat.le_of_ble_eq_true rfl) hl.1 dL_law_1169 hw2 ⟨Nat.le_of_ble_eq_true rfl, Nat.le_of_ble_eq_true rfl⟩ rfl (fun o2 ho2 ws3 v2 H2 locs2 hrv2 hw3 hmn2 => ?_)
    obtain ⟨σ2, hQ2, hJ3⟩ := ho2
    obtain ⟨z2, hz2⟩ := lw_ri_f (by decide +kernel) hQ2
    rw [hz2] at hrv2
    cases v2 with
    | none => exact hrv2.elim
    | some u2 =>
      cases (show u2 = .int z2 from hrv2)
      refine lv_pop hx hb dL_law_1172 rfl ?_
      refine lv_goto (tgt := 1476) hx hb dL_law_1173 (by decide) ?_
      exact kk _ _ _ _ ⟨σ2, hJ3, lw_stay (by decide +kernel) (by decide +kernel) hQ1 hQ2 hR⟩ hw3 (hmn2 _ _ (hmn _ _ hq0)) (hmn2 _ _ (hmn _ _ hq1))
set_option maxHeartbeats 2000000 in
/-- nearRoom -/
theorem lw_k26 {p : Program} {l : Launch} {e : Env} {s : State} {m : MethodId} {below : List Frame} {meth : Method} {c : Code} {b : Nat} {xs : Nat → Int32} {ρ : rv_ρ} {D : va_G} {cA : Nat → ClassId} {L : Nat} (C0 : lw_At p s m meth c b L xs) (hKK : rv_KK ρ (lw_A s) D cA s) {i : Nat} (hi : i + 6 ≤ L) (hL : L ≤ 3072) {h : List rv_C} (hJ0 : lw_J h) {ws : va_W} {H : Heap} {locs : List Loc} {ls : Array Slot} {q0 q1 : Nat} (hw : rv_Wd ρ D cA (lw_A s) s [] h ws H locs) (hq0 : (ws.map Prod.fst)[0]? = some q0) (hq1 : (ws.map Prod.fst)[100]? = some q1) (hl : lv_has ls 4 [(0, .ref b), (1, .ref q0), (2, .ref q1), (3, .int (nI i))]) (kk : ∀ (h2 : List rv_C) (ws2 : va_W) (H2 : Heap) (locs2 : List Loc), lw_J h2 → rv_Wd ρ D cA (lw_A s) s [] h2 ws2 H2 locs2 → (ws2.map Prod.fst)[0]? = some q0 → (ws2.map Prod.fst)[100]? = some q1 → W p l e room_1 s m #[Value.ref b] below meth c H2 locs2 143 52759 (lw_Z below #[Value.ref b] s) (F0 m 1476 ls [])) : W p l e room_1 s m #[Value.ref b] below meth c H locs 143 52759 (lw_Z below #[Value.ref b] s) (F0 m 1176 ls []) := by
  obtain ⟨σ0, hJ, hR⟩ := hJ0
  have hts2 := lw_hts C0
  have hx := C0.1
  have hb := C0.2.1
  have hown := C0.2.2.2.2.1
  refine lv_aload_n hx hb dL_law_1176 rfl (lv_at hl 1 rfl) ?_
  refine lw_arg C0 (i := i) (j := 1) (pc := 1177) (by omega) hL (by decide) dL_law_1177 dL_law_1178 dL_law_1179 dL_law_1180 dL_law_1181 (lv_at hl 0 rfl) (lv_at hl 3 rfl) hw.2.2.2.1 ?_
  refine lw_arg C0 (i := i) (j := 2) (pc := 1182) (by omega) hL (by decide) dL_law_1182 dL_law_1183 dL_law_1184 dL_law_1185 dL_law_1186 (lv_at hl 0 rfl) (lv_at hl 3 rfl) hw.2.2.2.1 ?_
  have hct := lw_use (l := l) (ρ := ρ) (as := [rv_ref 0, .inl (xs (i + 1)), .inl (xs (i + 2))]) hJ (sx_w220 (sx_tc_all _)) (by decide +kernel) (fun σ hσ => ⟨⟨0, List.Mem.head _, rfl⟩, ⟨_, rfl, (hσ 19001 (by decide) (by decide)).symm, (sx_r32 _).1, (sx_r32 _).2⟩, ⟨_, rfl, (hσ 19002 (by decide) (by decide)).symm, (sx_r32 _).1, (sx_r32 _).2⟩, True.intro⟩)
  refine lw_cV C0 hKK (k := 132) (mi := 161) (ci := 11) (d := 3) (ts := [14153, 14154, 14155, 10001]) (by decide +kernel) (by decide) hct (lw_rcv hJ (by decide) (by decide +kernel) (by decide)) rfl (vs := [.ref q0, .int (xs (i + 1)), .int (xs (i + 2))]) (rest := []) ⟨⟨q0, hq0, rfl⟩, rfl, rfl, True.intro⟩ (Nat.le_of_ble_eq_true rfl) hl.1 dL_law_1187 hw ⟨Nat.le_of_ble_eq_true rfl, Nat.le_of_ble_eq_true rfl⟩ rfl (fun o1 ho1 ws2 v1 H1 locs1 hrv1 hw2 hmn => ?_)
  obtain ⟨σ1, hQ1, hJ2⟩ := ho1
  obtain ⟨z1, hz1⟩ := lw_ri_f (by decide +kernel) hQ1
  rw [hz1] at hrv1
  cases v1 with
  | none => exact hrv1.elim
  | some u1 =>
    cases (show u1 = .int z1 from hrv1)
    refine lv_pop hx hb dL_law_1190 rfl ?_
    refine lv_aload_n hx hb dL_law_1191 rfl (lv_at hl 2 rfl) ?_
    refine lw_arg C0 (i := i) (j := 1) (pc := 1192) (by omega) hL (by decide) dL_law_1192 dL_law_1193 dL_law_1194 dL_law_1195 dL_law_1196 (lv_at hl 0 rfl) (lv_at hl 3 rfl) hw2.2.2.2.1 ?_
    refine lw_arg C0 (i := i) (j := 2) (pc := 1197) (by omega) hL (by decide) dL_law_1197 dL_law_1198 dL_law_1199 dL_law_1200 dL_law_1201 (lv_at hl 0 rfl) (lv_at hl 3 rfl) hw2.2.2.2.1 ?_
    have hct2 := lw_use (l := l) (ρ := ρ) (as := [rv_ref 100, .inl (xs (i + 1)), .inl (xs (i + 2))]) hJ2 (sx_w316 (sx_tc_all _)) (by decide +kernel) (fun σ hσ => ⟨⟨100, List.Mem.head _, rfl⟩, ⟨_, rfl, (hσ 19001 (by decide) (by decide)).symm, (sx_r32 _).1, (sx_r32 _).2⟩, ⟨_, rfl, (hσ 19002 (by decide) (by decide)).symm, (sx_r32 _).1, (sx_r32 _).2⟩, True.intro⟩)
    refine lw_cV C0 hKK (k := 135) (mi := 249) (ci := 12) (d := 3) (ts := [17229, 17230, 17231, 10013]) (by decide +kernel) (by decide) hct2 (lw_rcv hJ2 (by decide) (by decide +kernel) (by decide)) rfl (vs := [.ref q1, .int (xs (i + 1)), .int (xs (i + 2))]) (rest := []) ⟨⟨q1, hmn _ _ hq1, rfl⟩, rfl, rfl, True.intro⟩ (Nat.le_of_ble_eq_true rfl) hl.1 dL_law_1202 hw2 ⟨Nat.le_of_ble_eq_true rfl, Nat.le_of_ble_eq_true rfl⟩ rfl (fun o2 ho2 ws3 v2 H2 locs2 hrv2 hw3 hmn2 => ?_)
    obtain ⟨σ2, hQ2, hJ3⟩ := ho2
    obtain ⟨z2, hz2⟩ := lw_ri_f (by decide +kernel) hQ2
    rw [hz2] at hrv2
    cases v2 with
    | none => exact hrv2.elim
    | some u2 =>
      cases (show u2 = .int z2 from hrv2)
      refine lv_pop hx hb dL_law_1205 rfl ?_
      refine lv_goto (tgt := 1476) hx hb dL_law_1206 (by decide) ?_
      exact kk _ _ _ _ ⟨σ2, hJ3, lw_stay (by decide +kernel) (by decide +kernel) hQ1 hQ2 hR⟩ hw3 (hmn2 _ _ (hmn _ _ hq0)) (hmn2 _ _ (hmn _ _ hq1))
set_option maxHeartbeats 2000000 in
/-- bear -/
theorem lw_k27 {p : Program} {l : Launch} {e : Env} {s : State} {m : MethodId} {below : List Frame} {meth : Method} {c : Code} {b : Nat} {xs : Nat → Int32} {ρ : rv_ρ} {D : va_G} {cA : Nat → ClassId} {L : Nat} (C0 : lw_At p s m meth c b L xs) (hKK : rv_KK ρ (lw_A s) D cA s) {i : Nat} (hi : i + 6 ≤ L) (hL : L ≤ 3072) {h : List rv_C} (hJ0 : lw_J h) {ws : va_W} {H : Heap} {locs : List Loc} {ls : Array Slot} {q0 q1 : Nat} (hw : rv_Wd ρ D cA (lw_A s) s [] h ws H locs) (hq0 : (ws.map Prod.fst)[0]? = some q0) (hq1 : (ws.map Prod.fst)[100]? = some q1) (hl : lv_has ls 4 [(0, .ref b), (1, .ref q0), (2, .ref q1), (3, .int (nI i))]) (kk : ∀ (h2 : List rv_C) (ws2 : va_W) (H2 : Heap) (locs2 : List Loc), lw_J h2 → rv_Wd ρ D cA (lw_A s) s [] h2 ws2 H2 locs2 → (ws2.map Prod.fst)[0]? = some q0 → (ws2.map Prod.fst)[100]? = some q1 → W p l e room_1 s m #[Value.ref b] below meth c H2 locs2 143 52759 (lw_Z below #[Value.ref b] s) (F0 m 1476 ls [])) : W p l e room_1 s m #[Value.ref b] below meth c H locs 143 52759 (lw_Z below #[Value.ref b] s) (F0 m 1209 ls []) := by
  obtain ⟨σ0, hJ, hR⟩ := hJ0
  have hts2 := lw_hts C0
  have hx := C0.1
  have hb := C0.2.1
  have hown := C0.2.2.2.2.1
  refine lv_aload_n hx hb dL_law_1209 rfl (lv_at hl 1 rfl) ?_
  refine lw_arg C0 (i := i) (j := 1) (pc := 1210) (by omega) hL (by decide) dL_law_1210 dL_law_1211 dL_law_1212 dL_law_1213 dL_law_1214 (lv_at hl 0 rfl) (lv_at hl 3 rfl) hw.2.2.2.1 ?_
  have hct := lw_use (l := l) (ρ := ρ) (as := [rv_ref 0, .inl (xs (i + 1))]) hJ (sx_w205 (sx_tc_all _)) (by decide +kernel) (fun σ hσ => ⟨⟨0, List.Mem.head _, rfl⟩, ⟨_, rfl, (hσ 19001 (by decide) (by decide)).symm, (sx_r32 _).1, (sx_r32 _).2⟩, True.intro⟩)
  refine lw_cV C0 hKK (k := 136) (mi := 141) (ci := 11) (d := 2) (ts := [14157, 14158, 14159, 10001]) (by decide +kernel) (by decide) hct (lw_rcv hJ (by decide) (by decide +kernel) (by decide)) rfl (vs := [.ref q0, .int (xs (i + 1))]) (rest := []) ⟨⟨q0, hq0, rfl⟩, rfl, True.intro⟩ (Nat.le_of_ble_eq_true rfl) hl.1 dL_law_1215 hw ⟨Nat.le_of_ble_eq_true rfl, Nat.le_of_ble_eq_true rfl⟩ rfl (fun o1 ho1 ws2 v1 H1 locs1 hrv1 hw2 hmn => ?_)
  obtain ⟨σ1, hQ1, hJ2⟩ := ho1
  obtain ⟨z1, hz1⟩ := lw_ri_f (by decide +kernel) hQ1
  rw [hz1] at hrv1
  cases v1 with
  | none => exact hrv1.elim
  | some u1 =>
    cases (show u1 = .int z1 from hrv1)
    refine lv_pop hx hb dL_law_1218 rfl ?_
    refine lv_aload_n hx hb dL_law_1219 rfl (lv_at hl 2 rfl) ?_
    refine lw_arg C0 (i := i) (j := 1) (pc := 1220) (by omega) hL (by decide) dL_law_1220 dL_law_1221 dL_law_1222 dL_law_1223 dL_law_1224 (lv_at hl 0 rfl) (lv_at hl 3 rfl) hw2.2.2.2.1 ?_
    have hct2 := lw_use (l := l) (ρ := ρ) (as := [rv_ref 100, .inl (xs (i + 1))]) hJ2 (sx_w277 (sx_tc_all _)) (by decide +kernel) (fun σ hσ => ⟨⟨100, List.Mem.head _, rfl⟩, ⟨_, rfl, (hσ 19001 (by decide) (by decide)).symm, (sx_r32 _).1, (sx_r32 _).2⟩, True.intro⟩)
    refine lw_cV C0 hKK (k := 139) (mi := 195) (ci := 12) (d := 2) (ts := [17233, 17234, 17235, 10013]) (by decide +kernel) (by decide) hct2 (lw_rcv hJ2 (by decide) (by decide +kernel) (by decide)) rfl (vs := [.ref q1, .int (xs (i + 1))]) (rest := []) ⟨⟨q1, hmn _ _ hq1, rfl⟩, rfl, True.intro⟩ (Nat.le_of_ble_eq_true rfl) hl.1 dL_law_1225 hw2 ⟨Nat.le_of_ble_eq_true rfl, Nat.le_of_ble_eq_true rfl⟩ rfl (fun o2 ho2 ws3 v2 H2 locs2 hrv2 hw3 hmn2 => ?_)
    obtain ⟨σ2, hQ2, hJ3⟩ := ho2
    obtain ⟨z2, hz2⟩ := lw_ri_f (by decide +kernel) hQ2
    rw [hz2] at hrv2
    cases v2 with
    | none => exact hrv2.elim
    | some u2 =>
      cases (show u2 = .int z2 from hrv2)
      refine lv_pop hx hb dL_law_1228 rfl ?_
      refine lv_goto (tgt := 1476) hx hb dL_law_1229 (by decide) ?_
      exact kk _ _ _ _ ⟨σ2, hJ3, lw_stay (by decide +kernel) (by decide +kernel) hQ1 hQ2 hR⟩ hw3 (hmn2 _ _ (hmn _ _ hq0)) (hmn2 _ _ (hmn _ _ hq1))
set_option maxHeartbeats 2000000 in
/-- mend -/
theorem lw_k28 {p : Program} {l : Launch} {e : Env} {s : State} {m : MethodId} {below : List Frame} {meth : Method} {c : Code} {b : Nat} {xs : Nat → Int32} {ρ : rv_ρ} {D : va_G} {cA : Nat → ClassId} {L : Nat} (C0 : lw_At p s m meth c b L xs) (hKK : rv_KK ρ (lw_A s) D cA s) {i : Nat} (hi : i + 6 ≤ L) (hL : L ≤ 3072) {h : List rv_C} (hJ0 : lw_J h) {ws : va_W} {H : Heap} {locs : List Loc} {ls : Array Slot} {q0 q1 : Nat} (hw : rv_Wd ρ D cA (lw_A s) s [] h ws H locs) (hq0 : (ws.map Prod.fst)[0]? = some q0) (hq1 : (ws.map Prod.fst)[100]? = some q1) (hl : lv_has ls 4 [(0, .ref b), (1, .ref q0), (2, .ref q1), (3, .int (nI i))]) (kk : ∀ (h2 : List rv_C) (ws2 : va_W) (H2 : Heap) (locs2 : List Loc), lw_J h2 → rv_Wd ρ D cA (lw_A s) s [] h2 ws2 H2 locs2 → (ws2.map Prod.fst)[0]? = some q0 → (ws2.map Prod.fst)[100]? = some q1 → W p l e room_1 s m #[Value.ref b] below meth c H2 locs2 143 52759 (lw_Z below #[Value.ref b] s) (F0 m 1476 ls [])) : W p l e room_1 s m #[Value.ref b] below meth c H locs 143 52759 (lw_Z below #[Value.ref b] s) (F0 m 1232 ls []) := by
  obtain ⟨σ0, hJ, hR⟩ := hJ0
  have hts2 := lw_hts C0
  have hx := C0.1
  have hb := C0.2.1
  have hown := C0.2.2.2.2.1
  refine lv_aload_n hx hb dL_law_1232 rfl (lv_at hl 1 rfl) ?_
  refine lw_arg C0 (i := i) (j := 1) (pc := 1233) (by omega) hL (by decide) dL_law_1233 dL_law_1234 dL_law_1235 dL_law_1236 dL_law_1237 (lv_at hl 0 rfl) (lv_at hl 3 rfl) hw.2.2.2.1 ?_
  refine lw_arg C0 (i := i) (j := 2) (pc := 1238) (by omega) hL (by decide) dL_law_1238 dL_law_1239 dL_law_1240 dL_law_1241 dL_law_1242 (lv_at hl 0 rfl) (lv_at hl 3 rfl) hw.2.2.2.1 ?_
  have hct := lw_use (l := l) (ρ := ρ) (as := [rv_ref 0, .inl (xs (i + 1)), .inl (xs (i + 2))]) hJ (sx_w217 (sx_tc_all _)) (by decide +kernel) (fun σ hσ => ⟨⟨0, List.Mem.head _, rfl⟩, ⟨_, rfl, (hσ 19001 (by decide) (by decide)).symm, (sx_r32 _).1, (sx_r32 _).2⟩, ⟨_, rfl, (hσ 19002 (by decide) (by decide)).symm, (sx_r32 _).1, (sx_r32 _).2⟩, True.intro⟩)
  refine lw_cV C0 hKK (k := 140) (mi := 158) (ci := 11) (d := 3) (ts := [14166, 14167, 14168, 10001]) (by decide +kernel) (by decide) hct (lw_rcv hJ (by decide) (by decide +kernel) (by decide)) rfl (vs := [.ref q0, .int (xs (i + 1)), .int (xs (i + 2))]) (rest := []) ⟨⟨q0, hq0, rfl⟩, rfl, rfl, True.intro⟩ (Nat.le_of_ble_eq_true rfl) hl.1 dL_law_1243 hw ⟨Nat.le_of_ble_eq_true rfl, Nat.le_of_ble_eq_true rfl⟩ rfl (fun o1 ho1 ws2 v1 H1 locs1 hrv1 hw2 hmn => ?_)
  obtain ⟨σ1, hQ1, hJ2⟩ := ho1
  obtain ⟨z1, hz1⟩ := lw_ri_f (by decide +kernel) hQ1
  rw [hz1] at hrv1
  cases v1 with
  | none => exact hrv1.elim
  | some u1 =>
    cases (show u1 = .int z1 from hrv1)
    refine lv_pop hx hb dL_law_1246 rfl ?_
    refine lv_aload_n hx hb dL_law_1247 rfl (lv_at hl 2 rfl) ?_
    refine lw_arg C0 (i := i) (j := 1) (pc := 1248) (by omega) hL (by decide) dL_law_1248 dL_law_1249 dL_law_1250 dL_law_1251 dL_law_1252 (lv_at hl 0 rfl) (lv_at hl 3 rfl) hw2.2.2.2.1 ?_
    refine lw_arg C0 (i := i) (j := 2) (pc := 1253) (by omega) hL (by decide) dL_law_1253 dL_law_1254 dL_law_1255 dL_law_1256 dL_law_1257 (lv_at hl 0 rfl) (lv_at hl 3 rfl) hw2.2.2.2.1 ?_
    have hct2 := lw_use (l := l) (ρ := ρ) (as := [rv_ref 100, .inl (xs (i + 1)), .inl (xs (i + 2))]) hJ2 (sx_w312 (sx_tc_all _)) (by decide +kernel) (fun σ hσ => ⟨⟨100, List.Mem.head _, rfl⟩, ⟨_, rfl, (hσ 19001 (by decide) (by decide)).symm, (sx_r32 _).1, (sx_r32 _).2⟩, ⟨_, rfl, (hσ 19002 (by decide) (by decide)).symm, (sx_r32 _).1, (sx_r32 _).2⟩, True.intro⟩)
    refine lw_cV C0 hKK (k := 143) (mi := 244) (ci := 12) (d := 3) (ts := [18001, 18002, 18003, 10013]) (by decide +kernel) (by decide) hct2 (lw_rcv hJ2 (by decide) (by decide +kernel) (by decide)) rfl (vs := [.ref q1, .int (xs (i + 1)), .int (xs (i + 2))]) (rest := []) ⟨⟨q1, hmn _ _ hq1, rfl⟩, rfl, rfl, True.intro⟩ (Nat.le_of_ble_eq_true rfl) hl.1 dL_law_1258 hw2 ⟨Nat.le_of_ble_eq_true rfl, Nat.le_of_ble_eq_true rfl⟩ rfl (fun o2 ho2 ws3 v2 H2 locs2 hrv2 hw3 hmn2 => ?_)
    obtain ⟨σ2, hQ2, hJ3⟩ := ho2
    obtain ⟨z2, hz2⟩ := lw_ri_f (by decide +kernel) hQ2
    rw [hz2] at hrv2
    cases v2 with
    | none => exact hrv2.elim
    | some u2 =>
      cases (show u2 = .int z2 from hrv2)
      refine lv_pop hx hb dL_law_1261 rfl ?_
      refine lv_goto (tgt := 1476) hx hb dL_law_1262 (by decide) ?_
      exact kk _ _ _ _ ⟨σ2, hJ3, lw_stay (by decide +kernel) (by decide +kernel) hQ1 hQ2 hR⟩ hw3 (hmn2 _ _ (hmn _ _ hq0)) (hmn2 _ _ (hmn _ _ hq1))
set_option maxHeartbeats 2000000 in
/-- sort -/
theorem lw_k29 {p : Program} {l : Launch} {e : Env} {s : State} {m : MethodId} {below : List Frame} {meth : Method} {c : Code} {b : Nat} {xs : Nat → Int32} {ρ : rv_ρ} {D : va_G} {cA : Nat → ClassId} {L : Nat} (C0 : lw_At p s m meth c b L xs) (hKK : rv_KK ρ (lw_A s) D cA s) {i : Nat} (hi : i + 6 ≤ L) (hL : L ≤ 3072) {h : List rv_C} (hJ0 : lw_J h) {ws : va_W} {H : Heap} {locs : List Loc} {ls : Array Slot} {q0 q1 : Nat} (hw : rv_Wd ρ D cA (lw_A s) s [] h ws H locs) (hq0 : (ws.map Prod.fst)[0]? = some q0) (hq1 : (ws.map Prod.fst)[100]? = some q1) (hl : lv_has ls 4 [(0, .ref b), (1, .ref q0), (2, .ref q1), (3, .int (nI i))]) (kk : ∀ (h2 : List rv_C) (ws2 : va_W) (H2 : Heap) (locs2 : List Loc), lw_J h2 → rv_Wd ρ D cA (lw_A s) s [] h2 ws2 H2 locs2 → (ws2.map Prod.fst)[0]? = some q0 → (ws2.map Prod.fst)[100]? = some q1 → W p l e room_1 s m #[Value.ref b] below meth c H2 locs2 143 52759 (lw_Z below #[Value.ref b] s) (F0 m 1476 ls [])) : W p l e room_1 s m #[Value.ref b] below meth c H locs 143 52759 (lw_Z below #[Value.ref b] s) (F0 m 1265 ls []) := by
  obtain ⟨σ0, hJ, hR⟩ := hJ0
  have hts2 := lw_hts C0
  have hx := C0.1
  have hb := C0.2.1
  have hown := C0.2.2.2.2.1
  refine lv_aload_n hx hb dL_law_1265 rfl (lv_at hl 1 rfl) ?_
  refine lw_arg C0 (i := i) (j := 1) (pc := 1266) (by omega) hL (by decide) dL_law_1266 dL_law_1267 dL_law_1268 dL_law_1269 dL_law_1270 (lv_at hl 0 rfl) (lv_at hl 3 rfl) hw.2.2.2.1 ?_
  have hct := lw_use (l := l) (ρ := ρ) (as := [rv_ref 0, .inl (xs (i + 1))]) hJ (sx_w236 (sx_tc_all _)) (by decide +kernel) (fun σ hσ => ⟨⟨0, List.Mem.head _, rfl⟩, ⟨_, rfl, (hσ 19001 (by decide) (by decide)).symm, (sx_r32 _).1, (sx_r32 _).2⟩, True.intro⟩)
  refine lw_cV C0 hKK (k := 144) (mi := 173) (ci := 11) (d := 2) (ts := [14206, 14207, 14208, 10001]) (by decide +kernel) (by decide) hct (lw_rcv hJ (by decide) (by decide +kernel) (by decide)) rfl (vs := [.ref q0, .int (xs (i + 1))]) (rest := []) ⟨⟨q0, hq0, rfl⟩, rfl, True.intro⟩ (Nat.le_of_ble_eq_true rfl) hl.1 dL_law_1271 hw ⟨Nat.le_of_ble_eq_true rfl, Nat.le_of_ble_eq_true rfl⟩ rfl (fun o1 ho1 ws2 v1 H1 locs1 hrv1 hw2 hmn => ?_)
  obtain ⟨σ1, hQ1, hJ2⟩ := ho1
  obtain ⟨z1, hz1⟩ := lw_ri_f (by decide +kernel) hQ1
  rw [hz1] at hrv1
  cases v1 with
  | none => exact hrv1.elim
  | some u1 =>
    cases (show u1 = .int z1 from hrv1)
    refine lv_pop hx hb dL_law_1274 rfl ?_
    refine lv_aload_n hx hb dL_law_1275 rfl (lv_at hl 2 rfl) ?_
    refine lw_arg C0 (i := i) (j := 1) (pc := 1276) (by omega) hL (by decide) dL_law_1276 dL_law_1277 dL_law_1278 dL_law_1279 dL_law_1280 (lv_at hl 0 rfl) (lv_at hl 3 rfl) hw2.2.2.2.1 ?_
    have hct2 := lw_use (l := l) (ρ := ρ) (as := [rv_ref 100, .inl (xs (i + 1))]) hJ2 (sx_w337 (sx_tc_all _)) (by decide +kernel) (fun σ hσ => ⟨⟨100, List.Mem.head _, rfl⟩, ⟨_, rfl, (hσ 19001 (by decide) (by decide)).symm, (sx_r32 _).1, (sx_r32 _).2⟩, True.intro⟩)
    refine lw_cV C0 hKK (k := 147) (mi := 273) (ci := 12) (d := 2) (ts := [18013, 18014, 18015, 10013]) (by decide +kernel) (by decide) hct2 (lw_rcv hJ2 (by decide) (by decide +kernel) (by decide)) rfl (vs := [.ref q1, .int (xs (i + 1))]) (rest := []) ⟨⟨q1, hmn _ _ hq1, rfl⟩, rfl, True.intro⟩ (Nat.le_of_ble_eq_true rfl) hl.1 dL_law_1281 hw2 ⟨Nat.le_of_ble_eq_true rfl, Nat.le_of_ble_eq_true rfl⟩ rfl (fun o2 ho2 ws3 v2 H2 locs2 hrv2 hw3 hmn2 => ?_)
    obtain ⟨σ2, hQ2, hJ3⟩ := ho2
    obtain ⟨z2, hz2⟩ := lw_ri_f (by decide +kernel) hQ2
    rw [hz2] at hrv2
    cases v2 with
    | none => exact hrv2.elim
    | some u2 =>
      cases (show u2 = .int z2 from hrv2)
      refine lv_pop hx hb dL_law_1284 rfl ?_
      refine lv_goto (tgt := 1476) hx hb dL_law_1285 (by decide) ?_
      exact kk _ _ _ _ ⟨σ2, hJ3, lw_stay (by decide +kernel) (by decide +kernel) hQ1 hQ2 hR⟩ hw3 (hmn2 _ _ (hmn _ _ hq0)) (hmn2 _ _ (hmn _ _ hq1))
set_option maxHeartbeats 2000000 in
/-- greedy -/
theorem lw_k30 {p : Program} {l : Launch} {e : Env} {s : State} {m : MethodId} {below : List Frame} {meth : Method} {c : Code} {b : Nat} {xs : Nat → Int32} {ρ : rv_ρ} {D : va_G} {cA : Nat → ClassId} {L : Nat} (C0 : lw_At p s m meth c b L xs) (hKK : rv_KK ρ (lw_A s) D cA s) {i : Nat} (hi : i + 6 ≤ L) (hL : L ≤ 3072) {h : List rv_C} (hJ0 : lw_J h) {ws : va_W} {H : Heap} {locs : List Loc} {ls : Array Slot} {q0 q1 : Nat} (hw : rv_Wd ρ D cA (lw_A s) s [] h ws H locs) (hq0 : (ws.map Prod.fst)[0]? = some q0) (hq1 : (ws.map Prod.fst)[100]? = some q1) (hl : lv_has ls 4 [(0, .ref b), (1, .ref q0), (2, .ref q1), (3, .int (nI i))]) (kk : ∀ (h2 : List rv_C) (ws2 : va_W) (H2 : Heap) (locs2 : List Loc), lw_J h2 → rv_Wd ρ D cA (lw_A s) s [] h2 ws2 H2 locs2 → (ws2.map Prod.fst)[0]? = some q0 → (ws2.map Prod.fst)[100]? = some q1 → W p l e room_1 s m #[Value.ref b] below meth c H2 locs2 143 52759 (lw_Z below #[Value.ref b] s) (F0 m 1476 ls [])) : W p l e room_1 s m #[Value.ref b] below meth c H locs 143 52759 (lw_Z below #[Value.ref b] s) (F0 m 1288 ls []) := by
  obtain ⟨σ0, hJ, hR⟩ := hJ0
  have hts2 := lw_hts C0
  have hx := C0.1
  have hb := C0.2.1
  have hown := C0.2.2.2.2.1
  refine lv_aload_n hx hb dL_law_1288 rfl (lv_at hl 1 rfl) ?_
  refine lw_arg C0 (i := i) (j := 1) (pc := 1289) (by omega) hL (by decide) dL_law_1289 dL_law_1290 dL_law_1291 dL_law_1292 dL_law_1293 (lv_at hl 0 rfl) (lv_at hl 3 rfl) hw.2.2.2.1 ?_
  have hct := lw_use (l := l) (ρ := ρ) (as := [rv_ref 0, .inl (xs (i + 1))]) hJ (sx_w214 (sx_tc_all _)) (by decide +kernel) (fun σ hσ => ⟨⟨0, List.Mem.head _, rfl⟩, ⟨_, rfl, (hσ 19001 (by decide) (by decide)).symm, (sx_r32 _).1, (sx_r32 _).2⟩, True.intro⟩)
  refine lw_cV C0 hKK (k := 148) (mi := 152) (ci := 11) (d := 2) (ts := [14231, 14232, 14233, 10001]) (by decide +kernel) (by decide) hct (lw_rcv hJ (by decide) (by decide +kernel) (by decide)) rfl (vs := [.ref q0, .int (xs (i + 1))]) (rest := []) ⟨⟨q0, hq0, rfl⟩, rfl, True.intro⟩ (Nat.le_of_ble_eq_true rfl) hl.1 dL_law_1294 hw ⟨Nat.le_of_ble_eq_true rfl, Nat.le_of_ble_eq_true rfl⟩ rfl (fun o1 ho1 ws2 v1 H1 locs1 hrv1 hw2 hmn => ?_)
  obtain ⟨σ1, hQ1, hJ2⟩ := ho1
  obtain ⟨z1, hz1⟩ := lw_ri_f (by decide +kernel) hQ1
  rw [hz1] at hrv1
  cases v1 with
  | none => exact hrv1.elim
  | some u1 =>
    cases (show u1 = .int z1 from hrv1)
    refine lv_pop hx hb dL_law_1297 rfl ?_
    refine lv_aload_n hx hb dL_law_1298 rfl (lv_at hl 2 rfl) ?_
    refine lw_arg C0 (i := i) (j := 1) (pc := 1299) (by omega) hL (by decide) dL_law_1299 dL_law_1300 dL_law_1301 dL_law_1302 dL_law_1303 (lv_at hl 0 rfl) (lv_at hl 3 rfl) hw2.2.2.2.1 ?_
    have hct2 := lw_use (l := l) (ρ := ρ) (as := [rv_ref 100, .inl (xs (i + 1))]) hJ2 (sx_w300 (sx_tc_all _)) (by decide +kernel) (fun σ hσ => ⟨⟨100, List.Mem.head _, rfl⟩, ⟨_, rfl, (hσ 19001 (by decide) (by decide)).symm, (sx_r32 _).1, (sx_r32 _).2⟩, True.intro⟩)
    refine lw_cV C0 hKK (k := 151) (mi := 224) (ci := 12) (d := 2) (ts := [18029, 18030, 18031, 10013]) (by decide +kernel) (by decide) hct2 (lw_rcv hJ2 (by decide) (by decide +kernel) (by decide)) rfl (vs := [.ref q1, .int (xs (i + 1))]) (rest := []) ⟨⟨q1, hmn _ _ hq1, rfl⟩, rfl, True.intro⟩ (Nat.le_of_ble_eq_true rfl) hl.1 dL_law_1304 hw2 ⟨Nat.le_of_ble_eq_true rfl, Nat.le_of_ble_eq_true rfl⟩ rfl (fun o2 ho2 ws3 v2 H2 locs2 hrv2 hw3 hmn2 => ?_)
    obtain ⟨σ2, hQ2, hJ3⟩ := ho2
    obtain ⟨z2, hz2⟩ := lw_ri_f (by decide +kernel) hQ2
    rw [hz2] at hrv2
    cases v2 with
    | none => exact hrv2.elim
    | some u2 =>
      cases (show u2 = .int z2 from hrv2)
      refine lv_pop hx hb dL_law_1307 rfl ?_
      refine lv_goto (tgt := 1476) hx hb dL_law_1308 (by decide) ?_
      exact kk _ _ _ _ ⟨σ2, hJ3, lw_stay (by decide +kernel) (by decide +kernel) hQ1 hQ2 hR⟩ hw3 (hmn2 _ _ (hmn _ _ hq0)) (hmn2 _ _ (hmn _ _ hq1))
set_option maxHeartbeats 2000000 in
/-- gain -/
theorem lw_k31 {p : Program} {l : Launch} {e : Env} {s : State} {m : MethodId} {below : List Frame} {meth : Method} {c : Code} {b : Nat} {xs : Nat → Int32} {ρ : rv_ρ} {D : va_G} {cA : Nat → ClassId} {L : Nat} (C0 : lw_At p s m meth c b L xs) (hKK : rv_KK ρ (lw_A s) D cA s) {i : Nat} (hi : i + 6 ≤ L) (hL : L ≤ 3072) {h : List rv_C} (hJ0 : lw_J h) {ws : va_W} {H : Heap} {locs : List Loc} {ls : Array Slot} {q0 q1 : Nat} (hw : rv_Wd ρ D cA (lw_A s) s [] h ws H locs) (hq0 : (ws.map Prod.fst)[0]? = some q0) (hq1 : (ws.map Prod.fst)[100]? = some q1) (hl : lv_has ls 4 [(0, .ref b), (1, .ref q0), (2, .ref q1), (3, .int (nI i))]) (kk : ∀ (h2 : List rv_C) (ws2 : va_W) (H2 : Heap) (locs2 : List Loc), lw_J h2 → rv_Wd ρ D cA (lw_A s) s [] h2 ws2 H2 locs2 → (ws2.map Prod.fst)[0]? = some q0 → (ws2.map Prod.fst)[100]? = some q1 → W p l e room_1 s m #[Value.ref b] below meth c H2 locs2 143 52759 (lw_Z below #[Value.ref b] s) (F0 m 1476 ls [])) : W p l e room_1 s m #[Value.ref b] below meth c H locs 143 52759 (lw_Z below #[Value.ref b] s) (F0 m 1311 ls []) := by
  obtain ⟨σ0, hJ, hR⟩ := hJ0
  have hts2 := lw_hts C0
  have hx := C0.1
  have hb := C0.2.1
  have hown := C0.2.2.2.2.1
  refine lv_aload_n hx hb dL_law_1311 rfl (lv_at hl 1 rfl) ?_
  refine lw_arg C0 (i := i) (j := 1) (pc := 1312) (by omega) hL (by decide) dL_law_1312 dL_law_1313 dL_law_1314 dL_law_1315 dL_law_1316 (lv_at hl 0 rfl) (lv_at hl 3 rfl) hw.2.2.2.1 ?_
  refine lw_arg C0 (i := i) (j := 2) (pc := 1317) (by omega) hL (by decide) dL_law_1317 dL_law_1318 dL_law_1319 dL_law_1320 dL_law_1321 (lv_at hl 0 rfl) (lv_at hl 3 rfl) hw.2.2.2.1 ?_
  refine lw_arg C0 (i := i) (j := 3) (pc := 1322) (by omega) hL (by decide) dL_law_1322 dL_law_1323 dL_law_1324 dL_law_1325 dL_law_1326 (lv_at hl 0 rfl) (lv_at hl 3 rfl) hw.2.2.2.1 ?_
  have hct := lw_use (l := l) (ρ := ρ) (as := [rv_ref 0, .inl (xs (i + 1)), .inl (xs (i + 2)), .inl (xs (i + 3))]) hJ (sx_w211 (sx_tc_all _)) (by decide +kernel) (fun σ hσ => ⟨⟨0, List.Mem.head _, rfl⟩, ⟨_, rfl, (hσ 19001 (by decide) (by decide)).symm, (sx_r32 _).1, (sx_r32 _).2⟩, ⟨_, rfl, (hσ 19002 (by decide) (by decide)).symm, (sx_r32 _).1, (sx_r32 _).2⟩, ⟨_, rfl, (hσ 19003 (by decide) (by decide)).symm, (sx_r32 _).1, (sx_r32 _).2⟩, True.intro⟩)
  refine lw_cV C0 hKK (k := 152) (mi := 148) (ci := 11) (d := 4) (ts := [15006, 15007, 15008, 10001]) (by decide +kernel) (by decide) hct (lw_rcv hJ (by decide) (by decide +kernel) (by decide)) rfl (vs := [.ref q0, .int (xs (i + 1)), .int (xs (i + 2)), .int (xs (i + 3))]) (rest := []) ⟨⟨q0, hq0, rfl⟩, rfl, rfl, rfl, True.intro⟩ (Nat.le_of_ble_eq_true rfl) hl.1 dL_law_1327 hw ⟨Nat.le_of_ble_eq_true rfl, Nat.le_of_ble_eq_true rfl⟩ rfl (fun o1 ho1 ws2 v1 H1 locs1 hrv1 hw2 hmn => ?_)
  obtain ⟨σ1, hQ1, hJ2⟩ := ho1
  obtain ⟨z1, hz1⟩ := lw_ri_f (by decide +kernel) hQ1
  rw [hz1] at hrv1
  cases v1 with
  | none => exact hrv1.elim
  | some u1 =>
    cases (show u1 = .int z1 from hrv1)
    refine lv_pop hx hb dL_law_1330 rfl ?_
    refine lv_aload_n hx hb dL_law_1331 rfl (lv_at hl 2 rfl) ?_
    refine lw_arg C0 (i := i) (j := 1) (pc := 1332) (by omega) hL (by decide) dL_law_1332 dL_law_1333 dL_law_1334 dL_law_1335 dL_law_1336 (lv_at hl 0 rfl) (lv_at hl 3 rfl) hw2.2.2.2.1 ?_
    refine lw_arg C0 (i := i) (j := 2) (pc := 1337) (by omega) hL (by decide) dL_law_1337 dL_law_1338 dL_law_1339 dL_law_1340 dL_law_1341 (lv_at hl 0 rfl) (lv_at hl 3 rfl) hw2.2.2.2.1 ?_
    refine lw_arg C0 (i := i) (j := 3) (pc := 1342) (by omega) hL (by decide) dL_law_1342 dL_law_1343 dL_law_1344 dL_law_1345 dL_law_1346 (lv_at hl 0 rfl) (lv_at hl 3 rfl) hw2.2.2.2.1 ?_
    have hct2 := lw_use (l := l) (ρ := ρ) (as := [rv_ref 100, .inl (xs (i + 1)), .inl (xs (i + 2)), .inl (xs (i + 3))]) hJ2 (sx_w297 (sx_tc_all _)) (by decide +kernel) (fun σ hσ => ⟨⟨100, List.Mem.head _, rfl⟩, ⟨_, rfl, (hσ 19001 (by decide) (by decide)).symm, (sx_r32 _).1, (sx_r32 _).2⟩, ⟨_, rfl, (hσ 19002 (by decide) (by decide)).symm, (sx_r32 _).1, (sx_r32 _).2⟩, ⟨_, rfl, (hσ 19003 (by decide) (by decide)).symm, (sx_r32 _).1, (sx_r32 _).2⟩, True.intro⟩)
    refine lw_cV C0 hKK (k := 155) (mi := 217) (ci := 12) (d := 4) (ts := [18033, 18034, 18035, 10013]) (by decide +kernel) (by decide) hct2 (lw_rcv hJ2 (by decide) (by decide +kernel) (by decide)) rfl (vs := [.ref q1, .int (xs (i + 1)), .int (xs (i + 2)), .int (xs (i + 3))]) (rest := []) ⟨⟨q1, hmn _ _ hq1, rfl⟩, rfl, rfl, rfl, True.intro⟩ (Nat.le_of_ble_eq_true rfl) hl.1 dL_law_1347 hw2 ⟨Nat.le_of_ble_eq_true rfl, Nat.le_of_ble_eq_true rfl⟩ rfl (fun o2 ho2 ws3 v2 H2 locs2 hrv2 hw3 hmn2 => ?_)
    obtain ⟨σ2, hQ2, hJ3⟩ := ho2
    obtain ⟨z2, hz2⟩ := lw_ri_f (by decide +kernel) hQ2
    rw [hz2] at hrv2
    cases v2 with
    | none => exact hrv2.elim
    | some u2 =>
      cases (show u2 = .int z2 from hrv2)
      refine lv_pop hx hb dL_law_1350 rfl ?_
      refine lv_goto (tgt := 1476) hx hb dL_law_1351 (by decide) ?_
      exact kk _ _ _ _ ⟨σ2, hJ3, lw_stay (by decide +kernel) (by decide +kernel) hQ1 hQ2 hR⟩ hw3 (hmn2 _ _ (hmn _ _ hq0)) (hmn2 _ _ (hmn _ _ hq1))
set_option maxHeartbeats 2000000 in
/-- weeks -/
theorem lw_k32 {p : Program} {l : Launch} {e : Env} {s : State} {m : MethodId} {below : List Frame} {meth : Method} {c : Code} {b : Nat} {xs : Nat → Int32} {ρ : rv_ρ} {D : va_G} {cA : Nat → ClassId} {L : Nat} (C0 : lw_At p s m meth c b L xs) (hKK : rv_KK ρ (lw_A s) D cA s) {i : Nat} (hi : i + 6 ≤ L) (hL : L ≤ 3072) {h : List rv_C} (hJ0 : lw_J h) {ws : va_W} {H : Heap} {locs : List Loc} {ls : Array Slot} {q0 q1 : Nat} (hw : rv_Wd ρ D cA (lw_A s) s [] h ws H locs) (hq0 : (ws.map Prod.fst)[0]? = some q0) (hq1 : (ws.map Prod.fst)[100]? = some q1) (hl : lv_has ls 4 [(0, .ref b), (1, .ref q0), (2, .ref q1), (3, .int (nI i))]) (kk : ∀ (h2 : List rv_C) (ws2 : va_W) (H2 : Heap) (locs2 : List Loc), lw_J h2 → rv_Wd ρ D cA (lw_A s) s [] h2 ws2 H2 locs2 → (ws2.map Prod.fst)[0]? = some q0 → (ws2.map Prod.fst)[100]? = some q1 → W p l e room_1 s m #[Value.ref b] below meth c H2 locs2 143 52759 (lw_Z below #[Value.ref b] s) (F0 m 1476 ls [])) : W p l e room_1 s m #[Value.ref b] below meth c H locs 143 52759 (lw_Z below #[Value.ref b] s) (F0 m 1354 ls []) := by
  obtain ⟨σ0, hJ, hR⟩ := hJ0
  have hts2 := lw_hts C0
  have hx := C0.1
  have hb := C0.2.1
  have hown := C0.2.2.2.2.1
  refine lv_aload_n hx hb dL_law_1354 rfl (lv_at hl 1 rfl) ?_
  refine lw_arg C0 (i := i) (j := 1) (pc := 1355) (by omega) hL (by decide) dL_law_1355 dL_law_1356 dL_law_1357 dL_law_1358 dL_law_1359 (lv_at hl 0 rfl) (lv_at hl 3 rfl) hw.2.2.2.1 ?_
  refine lw_arg C0 (i := i) (j := 2) (pc := 1360) (by omega) hL (by decide) dL_law_1360 dL_law_1361 dL_law_1362 dL_law_1363 dL_law_1364 (lv_at hl 0 rfl) (lv_at hl 3 rfl) hw.2.2.2.1 ?_
  have hct := lw_use (l := l) (ρ := ρ) (as := [rv_ref 0, .inl (xs (i + 1)), .inl (xs (i + 2))]) hJ (sx_w243 (sx_tc_all _)) (by decide +kernel) (fun σ hσ => ⟨⟨0, List.Mem.head _, rfl⟩, ⟨_, rfl, (hσ 19001 (by decide) (by decide)).symm, (sx_r32 _).1, (sx_r32 _).2⟩, ⟨_, rfl, (hσ 19002 (by decide) (by decide)).symm, (sx_r32 _).1, (sx_r32 _).2⟩, True.intro⟩)
  refine lw_cV C0 hKK (k := 156) (mi := 183) (ci := 11) (d := 3) (ts := [15016, 15017, 15018, 10001]) (by decide +kernel) (by decide) hct (lw_rcv hJ (by decide) (by decide +kernel) (by decide)) rfl (vs := [.ref q0, .int (xs (i + 1)), .int (xs (i + 2))]) (rest := []) ⟨⟨q0, hq0, rfl⟩, rfl, rfl, True.intro⟩ (Nat.le_of_ble_eq_true rfl) hl.1 dL_law_1365 hw ⟨Nat.le_of_ble_eq_true rfl, Nat.le_of_ble_eq_true rfl⟩ rfl (fun o1 ho1 ws2 v1 H1 locs1 hrv1 hw2 hmn => ?_)
  obtain ⟨σ1, hQ1, hJ2⟩ := ho1
  obtain ⟨z1, hz1⟩ := lw_ri_f (by decide +kernel) hQ1
  rw [hz1] at hrv1
  cases v1 with
  | none => exact hrv1.elim
  | some u1 =>
    cases (show u1 = .int z1 from hrv1)
    refine lv_pop hx hb dL_law_1368 rfl ?_
    refine lv_aload_n hx hb dL_law_1369 rfl (lv_at hl 2 rfl) ?_
    refine lw_arg C0 (i := i) (j := 1) (pc := 1370) (by omega) hL (by decide) dL_law_1370 dL_law_1371 dL_law_1372 dL_law_1373 dL_law_1374 (lv_at hl 0 rfl) (lv_at hl 3 rfl) hw2.2.2.2.1 ?_
    refine lw_arg C0 (i := i) (j := 2) (pc := 1375) (by omega) hL (by decide) dL_law_1375 dL_law_1376 dL_law_1377 dL_law_1378 dL_law_1379 (lv_at hl 0 rfl) (lv_at hl 3 rfl) hw2.2.2.2.1 ?_
    have hct2 := lw_use (l := l) (ρ := ρ) (as := [rv_ref 100, .inl (xs (i + 1)), .inl (xs (i + 2))]) hJ2 (sx_w344 (sx_tc_all _)) (by decide +kernel) (fun σ hσ => ⟨⟨100, List.Mem.head _, rfl⟩, ⟨_, rfl, (hσ 19001 (by decide) (by decide)).symm, (sx_r32 _).1, (sx_r32 _).2⟩, ⟨_, rfl, (hσ 19002 (by decide) (by decide)).symm, (sx_r32 _).1, (sx_r32 _).2⟩, True.intro⟩)
    refine lw_cV C0 hKK (k := 159) (mi := 285) (ci := 12) (d := 3) (ts := [18041, 18042, 18043, 10013]) (by decide +kernel) (by decide) hct2 (lw_rcv hJ2 (by decide) (by decide +kernel) (by decide)) rfl (vs := [.ref q1, .int (xs (i + 1)), .int (xs (i + 2))]) (rest := []) ⟨⟨q1, hmn _ _ hq1, rfl⟩, rfl, rfl, True.intro⟩ (Nat.le_of_ble_eq_true rfl) hl.1 dL_law_1380 hw2 ⟨Nat.le_of_ble_eq_true rfl, Nat.le_of_ble_eq_true rfl⟩ rfl (fun o2 ho2 ws3 v2 H2 locs2 hrv2 hw3 hmn2 => ?_)
    obtain ⟨σ2, hQ2, hJ3⟩ := ho2
    obtain ⟨z2, hz2⟩ := lw_ri_f (by decide +kernel) hQ2
    rw [hz2] at hrv2
    cases v2 with
    | none => exact hrv2.elim
    | some u2 =>
      cases (show u2 = .int z2 from hrv2)
      refine lv_pop hx hb dL_law_1383 rfl ?_
      refine lv_goto (tgt := 1476) hx hb dL_law_1384 (by decide) ?_
      exact kk _ _ _ _ ⟨σ2, hJ3, lw_stay (by decide +kernel) (by decide +kernel) hQ1 hQ2 hR⟩ hw3 (hmn2 _ _ (hmn _ _ hq0)) (hmn2 _ _ (hmn _ _ hq1))
set_option maxHeartbeats 2000000 in
/-- week -/
theorem lw_k33 {p : Program} {l : Launch} {e : Env} {s : State} {m : MethodId} {below : List Frame} {meth : Method} {c : Code} {b : Nat} {xs : Nat → Int32} {ρ : rv_ρ} {D : va_G} {cA : Nat → ClassId} {L : Nat} (C0 : lw_At p s m meth c b L xs) (hKK : rv_KK ρ (lw_A s) D cA s) {i : Nat} (hi : i + 6 ≤ L) (hL : L ≤ 3072) {h : List rv_C} (hJ0 : lw_J h) {ws : va_W} {H : Heap} {locs : List Loc} {ls : Array Slot} {q0 q1 : Nat} (hw : rv_Wd ρ D cA (lw_A s) s [] h ws H locs) (hq0 : (ws.map Prod.fst)[0]? = some q0) (hq1 : (ws.map Prod.fst)[100]? = some q1) (hl : lv_has ls 4 [(0, .ref b), (1, .ref q0), (2, .ref q1), (3, .int (nI i))]) (kk : ∀ (h2 : List rv_C) (ws2 : va_W) (H2 : Heap) (locs2 : List Loc), lw_J h2 → rv_Wd ρ D cA (lw_A s) s [] h2 ws2 H2 locs2 → (ws2.map Prod.fst)[0]? = some q0 → (ws2.map Prod.fst)[100]? = some q1 → W p l e room_1 s m #[Value.ref b] below meth c H2 locs2 143 52759 (lw_Z below #[Value.ref b] s) (F0 m 1476 ls [])) : W p l e room_1 s m #[Value.ref b] below meth c H locs 143 52759 (lw_Z below #[Value.ref b] s) (F0 m 1387 ls []) := by
  obtain ⟨σ0, hJ, hR⟩ := hJ0
  have hts2 := lw_hts C0
  have hx := C0.1
  have hb := C0.2.1
  have hown := C0.2.2.2.2.1
  refine lv_aload_n hx hb dL_law_1387 rfl (lv_at hl 1 rfl) ?_
  refine lw_arg C0 (i := i) (j := 1) (pc := 1388) (by omega) hL (by decide) dL_law_1388 dL_law_1389 dL_law_1390 dL_law_1391 dL_law_1392 (lv_at hl 0 rfl) (lv_at hl 3 rfl) hw.2.2.2.1 ?_
  have hct := lw_use (l := l) (ρ := ρ) (as := [rv_ref 0, .inl (xs (i + 1))]) hJ (sx_w242 (sx_tc_all _)) (by decide +kernel) (fun σ hσ => ⟨⟨0, List.Mem.head _, rfl⟩, ⟨_, rfl, (hσ 19001 (by decide) (by decide)).symm, (sx_r32 _).1, (sx_r32 _).2⟩, True.intro⟩)
  refine lw_cV C0 hKK (k := 160) (mi := 182) (ci := 11) (d := 2) (ts := [15045, 15046, 15047, 10001]) (by decide +kernel) (by decide) hct (lw_rcv hJ (by decide) (by decide +kernel) (by decide)) rfl (vs := [.ref q0, .int (xs (i + 1))]) (rest := []) ⟨⟨q0, hq0, rfl⟩, rfl, True.intro⟩ (Nat.le_of_ble_eq_true rfl) hl.1 dL_law_1393 hw ⟨Nat.le_of_ble_eq_true rfl, Nat.le_of_ble_eq_true rfl⟩ rfl (fun o1 ho1 ws2 v1 H1 locs1 hrv1 hw2 hmn => ?_)
  obtain ⟨σ1, hQ1, hJ2⟩ := ho1
  obtain ⟨z1, hz1⟩ := lw_ri_f (by decide +kernel) hQ1
  rw [hz1] at hrv1
  cases v1 with
  | none => exact hrv1.elim
  | some u1 =>
    cases (show u1 = .int z1 from hrv1)
    refine lv_pop hx hb dL_law_1396 rfl ?_
    refine lv_aload_n hx hb dL_law_1397 rfl (lv_at hl 2 rfl) ?_
    refine lw_arg C0 (i := i) (j := 1) (pc := 1398) (by omega) hL (by decide) dL_law_1398 dL_law_1399 dL_law_1400 dL_law_1401 dL_law_1402 (lv_at hl 0 rfl) (lv_at hl 3 rfl) hw2.2.2.2.1 ?_
    have hct2 := lw_use (l := l) (ρ := ρ) (as := [rv_ref 100, .inl (xs (i + 1))]) hJ2 (sx_w343 (sx_tc_all _)) (by decide +kernel) (fun σ hσ => ⟨⟨100, List.Mem.head _, rfl⟩, ⟨_, rfl, (hσ 19001 (by decide) (by decide)).symm, (sx_r32 _).1, (sx_r32 _).2⟩, True.intro⟩)
    refine lw_cV C0 hKK (k := 163) (mi := 284) (ci := 12) (d := 2) (ts := [18049, 18050, 18051, 10013]) (by decide +kernel) (by decide) hct2 (lw_rcv hJ2 (by decide) (by decide +kernel) (by decide)) rfl (vs := [.ref q1, .int (xs (i + 1))]) (rest := []) ⟨⟨q1, hmn _ _ hq1, rfl⟩, rfl, True.intro⟩ (Nat.le_of_ble_eq_true rfl) hl.1 dL_law_1403 hw2 ⟨Nat.le_of_ble_eq_true rfl, Nat.le_of_ble_eq_true rfl⟩ rfl (fun o2 ho2 ws3 v2 H2 locs2 hrv2 hw3 hmn2 => ?_)
    obtain ⟨σ2, hQ2, hJ3⟩ := ho2
    obtain ⟨z2, hz2⟩ := lw_ri_f (by decide +kernel) hQ2
    rw [hz2] at hrv2
    cases v2 with
    | none => exact hrv2.elim
    | some u2 =>
      cases (show u2 = .int z2 from hrv2)
      refine lv_pop hx hb dL_law_1406 rfl ?_
      refine lv_goto (tgt := 1476) hx hb dL_law_1407 (by decide) ?_
      exact kk _ _ _ _ ⟨σ2, hJ3, lw_stay (by decide +kernel) (by decide +kernel) hQ1 hQ2 hR⟩ hw3 (hmn2 _ _ (hmn _ _ hq0)) (hmn2 _ _ (hmn _ _ hq1))
set_option maxHeartbeats 2000000 in
/-- goes -/
theorem lw_k34 {p : Program} {l : Launch} {e : Env} {s : State} {m : MethodId} {below : List Frame} {meth : Method} {c : Code} {b : Nat} {xs : Nat → Int32} {ρ : rv_ρ} {D : va_G} {cA : Nat → ClassId} {L : Nat} (C0 : lw_At p s m meth c b L xs) (hKK : rv_KK ρ (lw_A s) D cA s) {i : Nat} (hi : i + 6 ≤ L) (hL : L ≤ 3072) {h : List rv_C} (hJ0 : lw_J h) {ws : va_W} {H : Heap} {locs : List Loc} {ls : Array Slot} {q0 q1 : Nat} (hw : rv_Wd ρ D cA (lw_A s) s [] h ws H locs) (hq0 : (ws.map Prod.fst)[0]? = some q0) (hq1 : (ws.map Prod.fst)[100]? = some q1) (hl : lv_has ls 4 [(0, .ref b), (1, .ref q0), (2, .ref q1), (3, .int (nI i))]) (kk : ∀ (h2 : List rv_C) (ws2 : va_W) (H2 : Heap) (locs2 : List Loc), lw_J h2 → rv_Wd ρ D cA (lw_A s) s [] h2 ws2 H2 locs2 → (ws2.map Prod.fst)[0]? = some q0 → (ws2.map Prod.fst)[100]? = some q1 → W p l e room_1 s m #[Value.ref b] below meth c H2 locs2 143 52759 (lw_Z below #[Value.ref b] s) (F0 m 1476 ls [])) : W p l e room_1 s m #[Value.ref b] below meth c H locs 143 52759 (lw_Z below #[Value.ref b] s) (F0 m 1410 ls []) := by
  obtain ⟨σ0, hJ, hR⟩ := hJ0
  have hts2 := lw_hts C0
  have hx := C0.1
  have hb := C0.2.1
  have hown := C0.2.2.2.2.1
  refine lv_aload_n hx hb dL_law_1410 rfl (lv_at hl 1 rfl) ?_
  refine lw_arg C0 (i := i) (j := 1) (pc := 1411) (by omega) hL (by decide) dL_law_1411 dL_law_1412 dL_law_1413 dL_law_1414 dL_law_1415 (lv_at hl 0 rfl) (lv_at hl 3 rfl) hw.2.2.2.1 ?_
  refine lw_arg C0 (i := i) (j := 2) (pc := 1416) (by omega) hL (by decide) dL_law_1416 dL_law_1417 dL_law_1418 dL_law_1419 dL_law_1420 (lv_at hl 0 rfl) (lv_at hl 3 rfl) hw.2.2.2.1 ?_
  refine lw_arg C0 (i := i) (j := 3) (pc := 1421) (by omega) hL (by decide) dL_law_1421 dL_law_1422 dL_law_1423 dL_law_1424 dL_law_1425 (lv_at hl 0 rfl) (lv_at hl 3 rfl) hw.2.2.2.1 ?_
  have hct := lw_use (l := l) (ρ := ρ) (as := [rv_ref 0, .inl (xs (i + 1)), .inl (xs (i + 2)), .inl (xs (i + 3))]) hJ (sx_w212 (sx_tc_all _)) (by decide +kernel) (fun σ hσ => ⟨⟨0, List.Mem.head _, rfl⟩, ⟨_, rfl, (hσ 19001 (by decide) (by decide)).symm, (sx_r32 _).1, (sx_r32 _).2⟩, ⟨_, rfl, (hσ 19002 (by decide) (by decide)).symm, (sx_r32 _).1, (sx_r32 _).2⟩, ⟨_, rfl, (hσ 19003 (by decide) (by decide)).symm, (sx_r32 _).1, (sx_r32 _).2⟩, True.intro⟩)
  refine lw_cV C0 hKK (k := 164) (mi := 149) (ci := 11) (d := 4) (ts := [15049, 15050, 15051, 10001]) (by decide +kernel) (by decide) hct (lw_rcv hJ (by decide) (by decide +kernel) (by decide)) rfl (vs := [.ref q0, .int (xs (i + 1)), .int (xs (i + 2)), .int (xs (i + 3))]) (rest := []) ⟨⟨q0, hq0, rfl⟩, rfl, rfl, rfl, True.intro⟩ (Nat.le_of_ble_eq_true rfl) hl.1 dL_law_1426 hw ⟨Nat.le_of_ble_eq_true rfl, Nat.le_of_ble_eq_true rfl⟩ rfl (fun o1 ho1 ws2 v1 H1 locs1 hrv1 hw2 hmn => ?_)
  obtain ⟨σ1, hQ1, hJ2⟩ := ho1
  obtain ⟨z1, hz1⟩ := lw_ri_f (by decide +kernel) hQ1
  rw [hz1] at hrv1
  cases v1 with
  | none => exact hrv1.elim
  | some u1 =>
    cases (show u1 = .int z1 from hrv1)
    refine lv_pop hx hb dL_law_1429 rfl ?_
    refine lv_aload_n hx hb dL_law_1430 rfl (lv_at hl 2 rfl) ?_
    refine lw_arg C0 (i := i) (j := 1) (pc := 1431) (by omega) hL (by decide) dL_law_1431 dL_law_1432 dL_law_1433 dL_law_1434 dL_law_1435 (lv_at hl 0 rfl) (lv_at hl 3 rfl) hw2.2.2.2.1 ?_
    refine lw_arg C0 (i := i) (j := 2) (pc := 1436) (by omega) hL (by decide) dL_law_1436 dL_law_1437 dL_law_1438 dL_law_1439 dL_law_1440 (lv_at hl 0 rfl) (lv_at hl 3 rfl) hw2.2.2.2.1 ?_
    refine lw_arg C0 (i := i) (j := 3) (pc := 1441) (by omega) hL (by decide) dL_law_1441 dL_law_1442 dL_law_1443 dL_law_1444 dL_law_1445 (lv_at hl 0 rfl) (lv_at hl 3 rfl) hw2.2.2.2.1 ?_
    have hct2 := lw_use (l := l) (ρ := ρ) (as := [rv_ref 100, .inl (xs (i + 1)), .inl (xs (i + 2)), .inl (xs (i + 3))]) hJ2 (sx_w298 (sx_tc_all _)) (by decide +kernel) (fun σ hσ => ⟨⟨100, List.Mem.head _, rfl⟩, ⟨_, rfl, (hσ 19001 (by decide) (by decide)).symm, (sx_r32 _).1, (sx_r32 _).2⟩, ⟨_, rfl, (hσ 19002 (by decide) (by decide)).symm, (sx_r32 _).1, (sx_r32 _).2⟩, ⟨_, rfl, (hσ 19003 (by decide) (by decide)).symm, (sx_r32 _).1, (sx_r32 _).2⟩, True.intro⟩)
    refine lw_cV C0 hKK (k := 167) (mi := 220) (ci := 12) (d := 4) (ts := [18053, 18054, 18055, 10013]) (by decide +kernel) (by decide) hct2 (lw_rcv hJ2 (by decide) (by decide +kernel) (by decide)) rfl (vs := [.ref q1, .int (xs (i + 1)), .int (xs (i + 2)), .int (xs (i + 3))]) (rest := []) ⟨⟨q1, hmn _ _ hq1, rfl⟩, rfl, rfl, rfl, True.intro⟩ (Nat.le_of_ble_eq_true rfl) hl.1 dL_law_1446 hw2 ⟨Nat.le_of_ble_eq_true rfl, Nat.le_of_ble_eq_true rfl⟩ rfl (fun o2 ho2 ws3 v2 H2 locs2 hrv2 hw3 hmn2 => ?_)
    obtain ⟨σ2, hQ2, hJ3⟩ := ho2
    obtain ⟨z2, hz2⟩ := lw_ri_f (by decide +kernel) hQ2
    rw [hz2] at hrv2
    cases v2 with
    | none => exact hrv2.elim
    | some u2 =>
      cases (show u2 = .int z2 from hrv2)
      refine lv_pop hx hb dL_law_1449 rfl ?_
      refine lv_goto (tgt := 1476) hx hb dL_law_1450 (by decide) ?_
      exact kk _ _ _ _ ⟨σ2, hJ3, lw_stay (by decide +kernel) (by decide +kernel) hQ1 hQ2 hR⟩ hw3 (hmn2 _ _ (hmn _ _ hq0)) (hmn2 _ _ (hmn _ _ hq1))
set_option maxHeartbeats 2000000 in
/-- gone -/
theorem lw_k35 {p : Program} {l : Launch} {e : Env} {s : State} {m : MethodId} {below : List Frame} {meth : Method} {c : Code} {b : Nat} {xs : Nat → Int32} {ρ : rv_ρ} {D : va_G} {cA : Nat → ClassId} {L : Nat} (C0 : lw_At p s m meth c b L xs) (hKK : rv_KK ρ (lw_A s) D cA s) {i : Nat} (hi : i + 6 ≤ L) (hL : L ≤ 3072) {h : List rv_C} (hJ0 : lw_J h) {ws : va_W} {H : Heap} {locs : List Loc} {ls : Array Slot} {q0 q1 : Nat} (hw : rv_Wd ρ D cA (lw_A s) s [] h ws H locs) (hq0 : (ws.map Prod.fst)[0]? = some q0) (hq1 : (ws.map Prod.fst)[100]? = some q1) (hl : lv_has ls 4 [(0, .ref b), (1, .ref q0), (2, .ref q1), (3, .int (nI i))]) (kk : ∀ (h2 : List rv_C) (ws2 : va_W) (H2 : Heap) (locs2 : List Loc), lw_J h2 → rv_Wd ρ D cA (lw_A s) s [] h2 ws2 H2 locs2 → (ws2.map Prod.fst)[0]? = some q0 → (ws2.map Prod.fst)[100]? = some q1 → W p l e room_1 s m #[Value.ref b] below meth c H2 locs2 143 52759 (lw_Z below #[Value.ref b] s) (F0 m 1476 ls [])) : W p l e room_1 s m #[Value.ref b] below meth c H locs 143 52759 (lw_Z below #[Value.ref b] s) (F0 m 1453 ls []) := by
  obtain ⟨σ0, hJ, hR⟩ := hJ0
  have hts2 := lw_hts C0
  have hx := C0.1
  have hb := C0.2.1
  have hown := C0.2.2.2.2.1
  refine lv_aload_n hx hb dL_law_1453 rfl (lv_at hl 1 rfl) ?_
  refine lw_arg C0 (i := i) (j := 1) (pc := 1454) (by omega) hL (by decide) dL_law_1454 dL_law_1455 dL_law_1456 dL_law_1457 dL_law_1458 (lv_at hl 0 rfl) (lv_at hl 3 rfl) hw.2.2.2.1 ?_
  have hct := lw_use (l := l) (ρ := ρ) (as := [rv_ref 0, .inl (xs (i + 1))]) hJ (sx_w213 (sx_tc_all _)) (by decide +kernel) (fun σ hσ => ⟨⟨0, List.Mem.head _, rfl⟩, ⟨_, rfl, (hσ 19001 (by decide) (by decide)).symm, (sx_r32 _).1, (sx_r32 _).2⟩, True.intro⟩)
  refine lw_cV C0 hKK (k := 168) (mi := 150) (ci := 11) (d := 2) (ts := [15065, 15066, 15067, 10001]) (by decide +kernel) (by decide) hct (lw_rcv hJ (by decide) (by decide +kernel) (by decide)) rfl (vs := [.ref q0, .int (xs (i + 1))]) (rest := []) ⟨⟨q0, hq0, rfl⟩, rfl, True.intro⟩ (Nat.le_of_ble_eq_true rfl) hl.1 dL_law_1459 hw ⟨Nat.le_of_ble_eq_true rfl, Nat.le_of_ble_eq_true rfl⟩ rfl (fun o1 ho1 ws2 v1 H1 locs1 hrv1 hw2 hmn => ?_)
  obtain ⟨σ1, hQ1, hJ2⟩ := ho1
  obtain ⟨z1, hz1⟩ := lw_ri_f (by decide +kernel) hQ1
  rw [hz1] at hrv1
  cases v1 with
  | none => exact hrv1.elim
  | some u1 =>
    cases (show u1 = .int z1 from hrv1)
    refine lv_pop hx hb dL_law_1462 rfl ?_
    refine lv_aload_n hx hb dL_law_1463 rfl (lv_at hl 2 rfl) ?_
    refine lw_arg C0 (i := i) (j := 1) (pc := 1464) (by omega) hL (by decide) dL_law_1464 dL_law_1465 dL_law_1466 dL_law_1467 dL_law_1468 (lv_at hl 0 rfl) (lv_at hl 3 rfl) hw2.2.2.2.1 ?_
    have hct2 := lw_use (l := l) (ρ := ρ) (as := [rv_ref 100, .inl (xs (i + 1))]) hJ2 (sx_w299 (sx_tc_all _)) (by decide +kernel) (fun σ hσ => ⟨⟨100, List.Mem.head _, rfl⟩, ⟨_, rfl, (hσ 19001 (by decide) (by decide)).symm, (sx_r32 _).1, (sx_r32 _).2⟩, True.intro⟩)
    refine lw_cV C0 hKK (k := 171) (mi := 223) (ci := 12) (d := 2) (ts := [18057, 18058, 18059, 10013]) (by decide +kernel) (by decide) hct2 (lw_rcv hJ2 (by decide) (by decide +kernel) (by decide)) rfl (vs := [.ref q1, .int (xs (i + 1))]) (rest := []) ⟨⟨q1, hmn _ _ hq1, rfl⟩, rfl, True.intro⟩ (Nat.le_of_ble_eq_true rfl) hl.1 dL_law_1469 hw2 ⟨Nat.le_of_ble_eq_true rfl, Nat.le_of_ble_eq_true rfl⟩ rfl (fun o2 ho2 ws3 v2 H2 locs2 hrv2 hw3 hmn2 => ?_)
    obtain ⟨σ2, hQ2, hJ3⟩ := ho2
    obtain ⟨z2, hz2⟩ := lw_ri_f (by decide +kernel) hQ2
    rw [hz2] at hrv2
    cases v2 with
    | none => exact hrv2.elim
    | some u2 =>
      cases (show u2 = .int z2 from hrv2)
      refine lv_pop hx hb dL_law_1472 rfl ?_
      refine lv_goto (tgt := 1476) hx hb dL_law_1473 (by decide) ?_
      exact kk _ _ _ _ ⟨σ2, hJ3, lw_stay (by decide +kernel) (by decide +kernel) hQ1 hQ2 hR⟩ hw3 (hmn2 _ _ (hmn _ _ hq0)) (hmn2 _ _ (hmn _ _ hq1))
