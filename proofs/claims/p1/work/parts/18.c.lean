set_option maxHeartbeats 1000000 in
/-- ran -/
theorem lw_k19 {p : Program} {l : Launch} {e : Env} {s : State} {m : MethodId} {below : List Frame} {meth : Method} {c : Code} {b : Nat} {xs : Nat → Int32} {ρ : Nat → Int64} {D : va_G} {cA : Nat → ClassId} (C : lw_X p s m meth c b xs D cA) {ws : va_W} {H : Heap} {locs : List Loc} {ls : Array Slot} {q0 q1 : Nat} (hw : rv_Wd ρ D cA (lw_A s) s [] rh_2 ws H locs) (hq0 : (ws.map Prod.fst)[0]? = some q0) (hq1 : (ws.map Prod.fst)[100]? = some q1) (hl : lv_has ls 4 [(0, .ref b), (1, .ref q0), (2, .ref q1), (3, .int 0)]) : W p l e room_1 s m #[Value.ref b] below meth c H locs 143 52759 (lw_Z below #[Value.ref b] s) (F0 m 966 ls []) := by
  obtain ⟨C0, hKK⟩ := C
  have hts2 := lw_hts C0
  have hx := C0.1
  have hb := C0.2.1
  have hown := C0.2.2.2.2.1
  obtain ⟨as, has, hvs0⟩ := rv_prod_s (ρ := ρ) (L := ws.map Prod.fst) (xs := [xs 1]) rk_c19 rfl
  obtain ⟨os, hev, hos⟩ := rv_bth_s (rk_19 as has)
  have hlas : as.length = 1 := rv_Vs_len hvs0
  refine lv_aload_n hx hb dL_law_966 rfl (lv_at hl 1 rfl) ?_
  refine lw_arg C0 (j := 1) (pc := 967) (by decide) (by decide) dL_law_967 dL_law_968 dL_law_969 dL_law_970 dL_law_971 hl (lv_at hl 0 rfl) (lv_at hl 3 rfl) hw.2.2.2.1 ?_
  refine lw_cV C0 hKK (k := 104) (mi := 87) (ci := 11) (d := 2) (ts := [14041, 14042, 14043, 10001]) (by decide +kernel) (orc := rv_no) lw_no hev rfl (by simp [hlas]) (vs := [.ref q0, .int (xs 1)]) (rest := []) ⟨⟨q0, hq0, rfl⟩, hvs0⟩ (Nat.le_of_ble_eq_true rfl) hl.1 dL_law_972 hw ⟨Nat.le_of_ble_eq_true rfl, Nat.le_of_ble_eq_true rfl⟩ rfl (fun o ho ws2 v H1 locs1 hrv hw2 hmn => ?_)
  obtain ⟨v1, os2, ho1, hC, hrc, hev2, h2⟩ := rv_b2_s (hos o ho)
  rw [ho1] at hrv
  cases v with
  | none => exact hrv.elim
  | some w =>
    obtain ⟨z, rfl, rfl⟩ := rv_isC_f hC (show rv_V ρ (ws2.map Prod.fst) v1 w from hrv)
    refine lv_aload_n hx hb dL_law_975 rfl (lv_at hl 2 rfl) ?_
    refine lw_arg C0 (j := 1) (pc := 976) (by decide) (by decide) dL_law_976 dL_law_977 dL_law_978 dL_law_979 dL_law_980 hl (lv_at hl 0 rfl) (lv_at hl 3 rfl) hw2.2.2.2.1 ?_
    refine lw_cV C0 hKK (k := 107) (mi := 153) (ci := 12) (d := 2) (ts := [17158, 17159, 17160, 10013]) (by decide +kernel) (orc := rv_no) lw_no hev2 hrc (by simp [hlas]) (vs := [.ref q1, .int (xs 1)]) (rest := [.int z]) ⟨⟨q1, hmn _ _ hq1, rfl⟩, (rv_Vs_mono hmn hvs0)⟩ (Nat.le_of_ble_eq_true rfl) hl.1 dL_law_981 hw2 ⟨Nat.le_of_ble_eq_true rfl, Nat.le_of_ble_eq_true rfl⟩ rfl (fun o2 ho2 ws3 v3 H2 locs2 hrv2 hw3 hmn2 => ?_)
    rw [h2 o2 ho2] at hrv2
    cases v3 with
    | none => exact hrv2.elim
    | some w2 =>
      cases (show w2 = .int z from hrv2)
      refine lv_icmp_eq (tgt := 1477) hx hb dL_law_984 (by decide) (fun _ => ?_) (fun q => absurd rfl q)
      exact lw_end C0 hl hw3.2.2.2.1 (Nat.le_of_ble_eq_true rfl) (Nat.le_of_ble_eq_true rfl)
set_option maxHeartbeats 1000000 in
/-- count -/
theorem lw_k20 {p : Program} {l : Launch} {e : Env} {s : State} {m : MethodId} {below : List Frame} {meth : Method} {c : Code} {b : Nat} {xs : Nat → Int32} {ρ : Nat → Int64} {D : va_G} {cA : Nat → ClassId} (C : lw_X p s m meth c b xs D cA) {ws : va_W} {H : Heap} {locs : List Loc} {ls : Array Slot} {q0 q1 : Nat} (hw : rv_Wd ρ D cA (lw_A s) s [] rh_2 ws H locs) (hq0 : (ws.map Prod.fst)[0]? = some q0) (hq1 : (ws.map Prod.fst)[100]? = some q1) (hl : lv_has ls 4 [(0, .ref b), (1, .ref q0), (2, .ref q1), (3, .int 0)]) : W p l e room_1 s m #[Value.ref b] below meth c H locs 143 52759 (lw_Z below #[Value.ref b] s) (F0 m 989 ls []) := by
  obtain ⟨C0, hKK⟩ := C
  have hts2 := lw_hts C0
  have hx := C0.1
  have hb := C0.2.1
  have hown := C0.2.2.2.2.1
  obtain ⟨as, has, hvs0⟩ := rv_prod_s (ρ := ρ) (L := ws.map Prod.fst) (xs := [xs 1]) rk_c20 rfl
  obtain ⟨os, hev, hos⟩ := rv_bth_s (rk_20 as has)
  have hlas : as.length = 1 := rv_Vs_len hvs0
  refine lv_aload_n hx hb dL_law_989 rfl (lv_at hl 1 rfl) ?_
  refine lw_arg C0 (j := 1) (pc := 990) (by decide) (by decide) dL_law_990 dL_law_991 dL_law_992 dL_law_993 dL_law_994 hl (lv_at hl 0 rfl) (lv_at hl 3 rfl) hw.2.2.2.1 ?_
  refine lw_cV C0 hKK (k := 108) (mi := 64) (ci := 11) (d := 2) (ts := [14045, 14046, 14047, 10001]) (by decide +kernel) (orc := rv_no) lw_no hev rfl (by simp [hlas]) (vs := [.ref q0, .int (xs 1)]) (rest := []) ⟨⟨q0, hq0, rfl⟩, hvs0⟩ (Nat.le_of_ble_eq_true rfl) hl.1 dL_law_995 hw ⟨Nat.le_of_ble_eq_true rfl, Nat.le_of_ble_eq_true rfl⟩ rfl (fun o ho ws2 v H1 locs1 hrv hw2 hmn => ?_)
  obtain ⟨v1, os2, ho1, hC, hrc, hev2, h2⟩ := rv_b2_s (hos o ho)
  rw [ho1] at hrv
  cases v with
  | none => exact hrv.elim
  | some w =>
    obtain ⟨z, rfl, rfl⟩ := rv_isC_f hC (show rv_V ρ (ws2.map Prod.fst) v1 w from hrv)
    refine lv_aload_n hx hb dL_law_998 rfl (lv_at hl 2 rfl) ?_
    refine lw_arg C0 (j := 1) (pc := 999) (by decide) (by decide) dL_law_999 dL_law_1000 dL_law_1001 dL_law_1002 dL_law_1003 hl (lv_at hl 0 rfl) (lv_at hl 3 rfl) hw2.2.2.2.1 ?_
    refine lw_cV C0 hKK (k := 111) (mi := 117) (ci := 12) (d := 2) (ts := [17162, 17163, 17164, 10013]) (by decide +kernel) (orc := rv_no) lw_no hev2 hrc (by simp [hlas]) (vs := [.ref q1, .int (xs 1)]) (rest := [.int z]) ⟨⟨q1, hmn _ _ hq1, rfl⟩, (rv_Vs_mono hmn hvs0)⟩ (Nat.le_of_ble_eq_true rfl) hl.1 dL_law_1004 hw2 ⟨Nat.le_of_ble_eq_true rfl, Nat.le_of_ble_eq_true rfl⟩ rfl (fun o2 ho2 ws3 v3 H2 locs2 hrv2 hw3 hmn2 => ?_)
    rw [h2 o2 ho2] at hrv2
    cases v3 with
    | none => exact hrv2.elim
    | some w2 =>
      cases (show w2 = .int z from hrv2)
      refine lv_icmp_eq (tgt := 1477) hx hb dL_law_1007 (by decide) (fun _ => ?_) (fun q => absurd rfl q)
      exact lw_end C0 hl hw3.2.2.2.1 (Nat.le_of_ble_eq_true rfl) (Nat.le_of_ble_eq_true rfl)
set_option maxHeartbeats 1000000 in
/-- room -/
theorem lw_k21 {p : Program} {l : Launch} {e : Env} {s : State} {m : MethodId} {below : List Frame} {meth : Method} {c : Code} {b : Nat} {xs : Nat → Int32} {ρ : Nat → Int64} {D : va_G} {cA : Nat → ClassId} (C : lw_X p s m meth c b xs D cA) {ws : va_W} {H : Heap} {locs : List Loc} {ls : Array Slot} {q0 q1 : Nat} (hw : rv_Wd ρ D cA (lw_A s) s [] rh_2 ws H locs) (hq0 : (ws.map Prod.fst)[0]? = some q0) (hq1 : (ws.map Prod.fst)[100]? = some q1) (hl : lv_has ls 4 [(0, .ref b), (1, .ref q0), (2, .ref q1), (3, .int 0)]) : W p l e room_1 s m #[Value.ref b] below meth c H locs 143 52759 (lw_Z below #[Value.ref b] s) (F0 m 1012 ls []) := by
  obtain ⟨C0, hKK⟩ := C
  have hts2 := lw_hts C0
  have hx := C0.1
  have hb := C0.2.1
  have hown := C0.2.2.2.2.1
  obtain ⟨as, has, hvs0⟩ := rv_prod_s (ρ := ρ) (L := ws.map Prod.fst) (xs := [xs 1, xs 2, xs 3]) rk_c21 rfl
  obtain ⟨os, hev, hos⟩ := rv_bth_s (rk_21 as has)
  have hlas : as.length = 3 := rv_Vs_len hvs0
  refine lv_aload_n hx hb dL_law_1012 rfl (lv_at hl 1 rfl) ?_
  refine lw_arg C0 (j := 1) (pc := 1013) (by decide) (by decide) dL_law_1013 dL_law_1014 dL_law_1015 dL_law_1016 dL_law_1017 hl (lv_at hl 0 rfl) (lv_at hl 3 rfl) hw.2.2.2.1 ?_
  refine lw_arg C0 (j := 2) (pc := 1018) (by decide) (by decide) dL_law_1018 dL_law_1019 dL_law_1020 dL_law_1021 dL_law_1022 hl (lv_at hl 0 rfl) (lv_at hl 3 rfl) hw.2.2.2.1 ?_
  refine lw_arg C0 (j := 3) (pc := 1023) (by decide) (by decide) dL_law_1023 dL_law_1024 dL_law_1025 dL_law_1026 dL_law_1027 hl (lv_at hl 0 rfl) (lv_at hl 3 rfl) hw.2.2.2.1 ?_
  refine lw_cV C0 hKK (k := 112) (mi := 91) (ci := 11) (d := 4) (ts := [14108, 14109, 14110, 10001]) (by decide +kernel) (orc := rv_no) lw_no hev rfl (by simp [hlas]) (vs := [.ref q0, .int (xs 1), .int (xs 2), .int (xs 3)]) (rest := []) ⟨⟨q0, hq0, rfl⟩, hvs0⟩ (Nat.le_of_ble_eq_true rfl) hl.1 dL_law_1028 hw ⟨Nat.le_of_ble_eq_true rfl, Nat.le_of_ble_eq_true rfl⟩ rfl (fun o ho ws2 v H1 locs1 hrv hw2 hmn => ?_)
  obtain ⟨v1, os2, ho1, hC, hrc, hev2, h2⟩ := rv_b2_s (hos o ho)
  rw [ho1] at hrv
  cases v with
  | none => exact hrv.elim
  | some w =>
    obtain ⟨z, rfl, rfl⟩ := rv_isC_f hC (show rv_V ρ (ws2.map Prod.fst) v1 w from hrv)
    refine lv_aload_n hx hb dL_law_1031 rfl (lv_at hl 2 rfl) ?_
    refine lw_arg C0 (j := 1) (pc := 1032) (by decide) (by decide) dL_law_1032 dL_law_1033 dL_law_1034 dL_law_1035 dL_law_1036 hl (lv_at hl 0 rfl) (lv_at hl 3 rfl) hw2.2.2.2.1 ?_
    refine lw_arg C0 (j := 2) (pc := 1037) (by decide) (by decide) dL_law_1037 dL_law_1038 dL_law_1039 dL_law_1040 dL_law_1041 hl (lv_at hl 0 rfl) (lv_at hl 3 rfl) hw2.2.2.2.1 ?_
    refine lw_arg C0 (j := 3) (pc := 1042) (by decide) (by decide) dL_law_1042 dL_law_1043 dL_law_1044 dL_law_1045 dL_law_1046 hl (lv_at hl 0 rfl) (lv_at hl 3 rfl) hw2.2.2.2.1 ?_
    refine lw_cV C0 hKK (k := 115) (mi := 158) (ci := 12) (d := 4) (ts := [17201, 17202, 17203, 10013]) (by decide +kernel) (orc := rv_no) lw_no hev2 hrc (by simp [hlas]) (vs := [.ref q1, .int (xs 1), .int (xs 2), .int (xs 3)]) (rest := [.int z]) ⟨⟨q1, hmn _ _ hq1, rfl⟩, (rv_Vs_mono hmn hvs0)⟩ (Nat.le_of_ble_eq_true rfl) hl.1 dL_law_1047 hw2 ⟨Nat.le_of_ble_eq_true rfl, Nat.le_of_ble_eq_true rfl⟩ rfl (fun o2 ho2 ws3 v3 H2 locs2 hrv2 hw3 hmn2 => ?_)
    rw [h2 o2 ho2] at hrv2
    cases v3 with
    | none => exact hrv2.elim
    | some w2 =>
      cases (show w2 = .int z from hrv2)
      refine lv_icmp_eq (tgt := 1477) hx hb dL_law_1050 (by decide) (fun _ => ?_) (fun q => absurd rfl q)
      exact lw_end C0 hl hw3.2.2.2.1 (Nat.le_of_ble_eq_true rfl) (Nat.le_of_ble_eq_true rfl)
set_option maxHeartbeats 1000000 in
/-- sum -/
theorem lw_k22 {p : Program} {l : Launch} {e : Env} {s : State} {m : MethodId} {below : List Frame} {meth : Method} {c : Code} {b : Nat} {xs : Nat → Int32} {ρ : Nat → Int64} {D : va_G} {cA : Nat → ClassId} (C : lw_X p s m meth c b xs D cA) {ws : va_W} {H : Heap} {locs : List Loc} {ls : Array Slot} {q0 q1 : Nat} (hw : rv_Wd ρ D cA (lw_A s) s [] rh_2 ws H locs) (hq0 : (ws.map Prod.fst)[0]? = some q0) (hq1 : (ws.map Prod.fst)[100]? = some q1) (hl : lv_has ls 4 [(0, .ref b), (1, .ref q0), (2, .ref q1), (3, .int 0)]) : W p l e room_1 s m #[Value.ref b] below meth c H locs 143 52759 (lw_Z below #[Value.ref b] s) (F0 m 1055 ls []) := by
  obtain ⟨C0, hKK⟩ := C
  have hts2 := lw_hts C0
  have hx := C0.1
  have hb := C0.2.1
  have hown := C0.2.2.2.2.1
  obtain ⟨as, has, hvs0⟩ := rv_prod_s (ρ := ρ) (L := ws.map Prod.fst) (xs := [xs 1, xs 2]) rk_c22 rfl
  obtain ⟨os, hev, hos⟩ := rv_bth_s (rk_22 as has)
  have hlas : as.length = 2 := rv_Vs_len hvs0
  refine lv_aload_n hx hb dL_law_1055 rfl (lv_at hl 1 rfl) ?_
  refine lw_arg C0 (j := 1) (pc := 1056) (by decide) (by decide) dL_law_1056 dL_law_1057 dL_law_1058 dL_law_1059 dL_law_1060 hl (lv_at hl 0 rfl) (lv_at hl 3 rfl) hw.2.2.2.1 ?_
  refine lw_arg C0 (j := 2) (pc := 1061) (by decide) (by decide) dL_law_1061 dL_law_1062 dL_law_1063 dL_law_1064 dL_law_1065 hl (lv_at hl 0 rfl) (lv_at hl 3 rfl) hw.2.2.2.1 ?_
  refine lw_cV C0 hKK (k := 116) (mi := 97) (ci := 11) (d := 3) (ts := [14119, 14120, 14121, 10001]) (by decide +kernel) (orc := rv_no) lw_no hev rfl (by simp [hlas]) (vs := [.ref q0, .int (xs 1), .int (xs 2)]) (rest := []) ⟨⟨q0, hq0, rfl⟩, hvs0⟩ (Nat.le_of_ble_eq_true rfl) hl.1 dL_law_1066 hw ⟨Nat.le_of_ble_eq_true rfl, Nat.le_of_ble_eq_true rfl⟩ rfl (fun o ho ws2 v H1 locs1 hrv hw2 hmn => ?_)
  obtain ⟨v1, os2, ho1, hC, hrc, hev2, h2⟩ := rv_b2_s (hos o ho)
  rw [ho1] at hrv
  cases v with
  | none => exact hrv.elim
  | some w =>
    obtain ⟨z, rfl, rfl⟩ := rv_isC_f hC (show rv_V ρ (ws2.map Prod.fst) v1 w from hrv)
    refine lv_aload_n hx hb dL_law_1069 rfl (lv_at hl 2 rfl) ?_
    refine lw_arg C0 (j := 1) (pc := 1070) (by decide) (by decide) dL_law_1070 dL_law_1071 dL_law_1072 dL_law_1073 dL_law_1074 hl (lv_at hl 0 rfl) (lv_at hl 3 rfl) hw2.2.2.2.1 ?_
    refine lw_arg C0 (j := 2) (pc := 1075) (by decide) (by decide) dL_law_1075 dL_law_1076 dL_law_1077 dL_law_1078 dL_law_1079 hl (lv_at hl 0 rfl) (lv_at hl 3 rfl) hw2.2.2.2.1 ?_
    refine lw_cV C0 hKK (k := 119) (mi := 168) (ci := 12) (d := 3) (ts := [17205, 17206, 17207, 10013]) (by decide +kernel) (orc := rv_no) lw_no hev2 hrc (by simp [hlas]) (vs := [.ref q1, .int (xs 1), .int (xs 2)]) (rest := [.int z]) ⟨⟨q1, hmn _ _ hq1, rfl⟩, (rv_Vs_mono hmn hvs0)⟩ (Nat.le_of_ble_eq_true rfl) hl.1 dL_law_1080 hw2 ⟨Nat.le_of_ble_eq_true rfl, Nat.le_of_ble_eq_true rfl⟩ rfl (fun o2 ho2 ws3 v3 H2 locs2 hrv2 hw3 hmn2 => ?_)
    rw [h2 o2 ho2] at hrv2
    cases v3 with
    | none => exact hrv2.elim
    | some w2 =>
      cases (show w2 = .int z from hrv2)
      refine lv_icmp_eq (tgt := 1477) hx hb dL_law_1083 (by decide) (fun _ => ?_) (fun q => absurd rfl q)
      exact lw_end C0 hl hw3.2.2.2.1 (Nat.le_of_ble_eq_true rfl) (Nat.le_of_ble_eq_true rfl)
set_option maxHeartbeats 1000000 in
/-- together -/
theorem lw_k23 {p : Program} {l : Launch} {e : Env} {s : State} {m : MethodId} {below : List Frame} {meth : Method} {c : Code} {b : Nat} {xs : Nat → Int32} {ρ : Nat → Int64} {D : va_G} {cA : Nat → ClassId} (C : lw_X p s m meth c b xs D cA) {ws : va_W} {H : Heap} {locs : List Loc} {ls : Array Slot} {q0 q1 : Nat} (hw : rv_Wd ρ D cA (lw_A s) s [] rh_2 ws H locs) (hq0 : (ws.map Prod.fst)[0]? = some q0) (hq1 : (ws.map Prod.fst)[100]? = some q1) (hl : lv_has ls 4 [(0, .ref b), (1, .ref q0), (2, .ref q1), (3, .int 0)]) : W p l e room_1 s m #[Value.ref b] below meth c H locs 143 52759 (lw_Z below #[Value.ref b] s) (F0 m 1088 ls []) := by
  obtain ⟨C0, hKK⟩ := C
  have hts2 := lw_hts C0
  have hx := C0.1
  have hb := C0.2.1
  have hown := C0.2.2.2.2.1
  obtain ⟨as, has, hvs0⟩ := rv_prod_s (ρ := ρ) (L := ws.map Prod.fst) (xs := [xs 1, xs 2, xs 3]) rk_c23 rfl
  obtain ⟨os, hev, hos⟩ := rv_bth_s (rk_23 as has)
  have hlas : as.length = 3 := rv_Vs_len hvs0
  refine lv_aload_n hx hb dL_law_1088 rfl (lv_at hl 1 rfl) ?_
  refine lw_arg C0 (j := 1) (pc := 1089) (by decide) (by decide) dL_law_1089 dL_law_1090 dL_law_1091 dL_law_1092 dL_law_1093 hl (lv_at hl 0 rfl) (lv_at hl 3 rfl) hw.2.2.2.1 ?_
  refine lw_arg C0 (j := 2) (pc := 1094) (by decide) (by decide) dL_law_1094 dL_law_1095 dL_law_1096 dL_law_1097 dL_law_1098 hl (lv_at hl 0 rfl) (lv_at hl 3 rfl) hw.2.2.2.1 ?_
  refine lw_arg C0 (j := 3) (pc := 1099) (by decide) (by decide) dL_law_1099 dL_law_1100 dL_law_1101 dL_law_1102 dL_law_1103 hl (lv_at hl 0 rfl) (lv_at hl 3 rfl) hw.2.2.2.1 ?_
  refine lw_cV C0 hKK (k := 120) (mi := 98) (ci := 11) (d := 4) (ts := [14123, 14124, 14125, 10001]) (by decide +kernel) (orc := rv_no) lw_no hev rfl (by simp [hlas]) (vs := [.ref q0, .int (xs 1), .int (xs 2), .int (xs 3)]) (rest := []) ⟨⟨q0, hq0, rfl⟩, hvs0⟩ (Nat.le_of_ble_eq_true rfl) hl.1 dL_law_1104 hw ⟨Nat.le_of_ble_eq_true rfl, Nat.le_of_ble_eq_true rfl⟩ rfl (fun o ho ws2 v H1 locs1 hrv hw2 hmn => ?_)
  obtain ⟨v1, os2, ho1, hC, hrc, hev2, h2⟩ := rv_b2_s (hos o ho)
  rw [ho1] at hrv
  cases v with
  | none => exact hrv.elim
  | some w =>
    obtain ⟨z, rfl, rfl⟩ := rv_isC_f hC (show rv_V ρ (ws2.map Prod.fst) v1 w from hrv)
    refine lv_aload_n hx hb dL_law_1107 rfl (lv_at hl 2 rfl) ?_
    refine lw_arg C0 (j := 1) (pc := 1108) (by decide) (by decide) dL_law_1108 dL_law_1109 dL_law_1110 dL_law_1111 dL_law_1112 hl (lv_at hl 0 rfl) (lv_at hl 3 rfl) hw2.2.2.2.1 ?_
    refine lw_arg C0 (j := 2) (pc := 1113) (by decide) (by decide) dL_law_1113 dL_law_1114 dL_law_1115 dL_law_1116 dL_law_1117 hl (lv_at hl 0 rfl) (lv_at hl 3 rfl) hw2.2.2.2.1 ?_
    refine lw_arg C0 (j := 3) (pc := 1118) (by decide) (by decide) dL_law_1118 dL_law_1119 dL_law_1120 dL_law_1121 dL_law_1122 hl (lv_at hl 0 rfl) (lv_at hl 3 rfl) hw2.2.2.2.1 ?_
    refine lw_cV C0 hKK (k := 123) (mi := 170) (ci := 12) (d := 4) (ts := [17209, 17210, 17211, 10013]) (by decide +kernel) (orc := rv_no) lw_no hev2 hrc (by simp [hlas]) (vs := [.ref q1, .int (xs 1), .int (xs 2), .int (xs 3)]) (rest := [.int z]) ⟨⟨q1, hmn _ _ hq1, rfl⟩, (rv_Vs_mono hmn hvs0)⟩ (Nat.le_of_ble_eq_true rfl) hl.1 dL_law_1123 hw2 ⟨Nat.le_of_ble_eq_true rfl, Nat.le_of_ble_eq_true rfl⟩ rfl (fun o2 ho2 ws3 v3 H2 locs2 hrv2 hw3 hmn2 => ?_)
    rw [h2 o2 ho2] at hrv2
    cases v3 with
    | none => exact hrv2.elim
    | some w2 =>
      cases (show w2 = .int z from hrv2)
      refine lv_icmp_eq (tgt := 1477) hx hb dL_law_1126 (by decide) (fun _ => ?_) (fun q => absurd rfl q)
      exact lw_end C0 hl hw3.2.2.2.1 (Nat.le_of_ble_eq_true rfl) (Nat.le_of_ble_eq_true rfl)
set_option maxHeartbeats 1000000 in
/-- knot -/
theorem lw_k24 {p : Program} {l : Launch} {e : Env} {s : State} {m : MethodId} {below : List Frame} {meth : Method} {c : Code} {b : Nat} {xs : Nat → Int32} {ρ : Nat → Int64} {D : va_G} {cA : Nat → ClassId} (C : lw_X p s m meth c b xs D cA) {ws : va_W} {H : Heap} {locs : List Loc} {ls : Array Slot} {q0 q1 : Nat} (hw : rv_Wd ρ D cA (lw_A s) s [] rh_2 ws H locs) (hq0 : (ws.map Prod.fst)[0]? = some q0) (hq1 : (ws.map Prod.fst)[100]? = some q1) (hl : lv_has ls 4 [(0, .ref b), (1, .ref q0), (2, .ref q1), (3, .int 0)]) : W p l e room_1 s m #[Value.ref b] below meth c H locs 143 52759 (lw_Z below #[Value.ref b] s) (F0 m 1131 ls []) := by
  obtain ⟨C0, hKK⟩ := C
  have hts2 := lw_hts C0
  have hx := C0.1
  have hb := C0.2.1
  have hown := C0.2.2.2.2.1
  obtain ⟨as, has, hvs0⟩ := rv_prod_s (ρ := ρ) (L := ws.map Prod.fst) (xs := [xs 1]) rk_c24 rfl
  obtain ⟨os, hev, hos⟩ := rv_bth_s (rk_24 as has)
  have hlas : as.length = 1 := rv_Vs_len hvs0
  refine lv_aload_n hx hb dL_law_1131 rfl (lv_at hl 1 rfl) ?_
  refine lw_arg C0 (j := 1) (pc := 1132) (by decide) (by decide) dL_law_1132 dL_law_1133 dL_law_1134 dL_law_1135 dL_law_1136 hl (lv_at hl 0 rfl) (lv_at hl 3 rfl) hw.2.2.2.1 ?_
  refine lw_cV C0 hKK (k := 124) (mi := 77) (ci := 11) (d := 2) (ts := [14132, 14133, 14134, 10001]) (by decide +kernel) (orc := rv_no) lw_no hev rfl (by simp [hlas]) (vs := [.ref q0, .int (xs 1)]) (rest := []) ⟨⟨q0, hq0, rfl⟩, hvs0⟩ (Nat.le_of_ble_eq_true rfl) hl.1 dL_law_1137 hw ⟨Nat.le_of_ble_eq_true rfl, Nat.le_of_ble_eq_true rfl⟩ rfl (fun o ho ws2 v H1 locs1 hrv hw2 hmn => ?_)
  obtain ⟨v1, os2, ho1, hC, hrc, hev2, h2⟩ := rv_b2_s (hos o ho)
  rw [ho1] at hrv
  cases v with
  | none => exact hrv.elim
  | some w =>
    obtain ⟨z, rfl, rfl⟩ := rv_isC_f hC (show rv_V ρ (ws2.map Prod.fst) v1 w from hrv)
    refine lv_aload_n hx hb dL_law_1140 rfl (lv_at hl 2 rfl) ?_
    refine lw_arg C0 (j := 1) (pc := 1141) (by decide) (by decide) dL_law_1141 dL_law_1142 dL_law_1143 dL_law_1144 dL_law_1145 hl (lv_at hl 0 rfl) (lv_at hl 3 rfl) hw2.2.2.2.1 ?_
    refine lw_cV C0 hKK (k := 127) (mi := 141) (ci := 12) (d := 2) (ts := [17213, 17214, 17215, 10013]) (by decide +kernel) (orc := rv_no) lw_no hev2 hrc (by simp [hlas]) (vs := [.ref q1, .int (xs 1)]) (rest := [.int z]) ⟨⟨q1, hmn _ _ hq1, rfl⟩, (rv_Vs_mono hmn hvs0)⟩ (Nat.le_of_ble_eq_true rfl) hl.1 dL_law_1146 hw2 ⟨Nat.le_of_ble_eq_true rfl, Nat.le_of_ble_eq_true rfl⟩ rfl (fun o2 ho2 ws3 v3 H2 locs2 hrv2 hw3 hmn2 => ?_)
    rw [h2 o2 ho2] at hrv2
    cases v3 with
    | none => exact hrv2.elim
    | some w2 =>
      cases (show w2 = .int z from hrv2)
      refine lv_icmp_eq (tgt := 1477) hx hb dL_law_1149 (by decide) (fun _ => ?_) (fun q => absurd rfl q)
      exact lw_end C0 hl hw3.2.2.2.1 (Nat.le_of_ble_eq_true rfl) (Nat.le_of_ble_eq_true rfl)
set_option maxHeartbeats 1000000 in
/-- near -/
theorem lw_k25 {p : Program} {l : Launch} {e : Env} {s : State} {m : MethodId} {below : List Frame} {meth : Method} {c : Code} {b : Nat} {xs : Nat → Int32} {ρ : Nat → Int64} {D : va_G} {cA : Nat → ClassId} (C : lw_X p s m meth c b xs D cA) {ws : va_W} {H : Heap} {locs : List Loc} {ls : Array Slot} {q0 q1 : Nat} (hw : rv_Wd ρ D cA (lw_A s) s [] rh_2 ws H locs) (hq0 : (ws.map Prod.fst)[0]? = some q0) (hq1 : (ws.map Prod.fst)[100]? = some q1) (hl : lv_has ls 4 [(0, .ref b), (1, .ref q0), (2, .ref q1), (3, .int 0)]) : W p l e room_1 s m #[Value.ref b] below meth c H locs 143 52759 (lw_Z below #[Value.ref b] s) (F0 m 1154 ls []) := by
  obtain ⟨C0, hKK⟩ := C
  have hts2 := lw_hts C0
  have hx := C0.1
  have hb := C0.2.1
  have hown := C0.2.2.2.2.1
  obtain ⟨as, has, hvs0⟩ := rv_prod_s (ρ := ρ) (L := ws.map Prod.fst) (xs := [xs 1]) rk_c25 rfl
  obtain ⟨os, hev, hos⟩ := rv_bth_s (rk_25 as has)
  have hlas : as.length = 1 := rv_Vs_len hvs0
  refine lv_aload_n hx hb dL_law_1154 rfl (lv_at hl 1 rfl) ?_
  refine lw_arg C0 (j := 1) (pc := 1155) (by decide) (by decide) dL_law_1155 dL_law_1156 dL_law_1157 dL_law_1158 dL_law_1159 hl (lv_at hl 0 rfl) (lv_at hl 3 rfl) hw.2.2.2.1 ?_
  refine lw_cV C0 hKK (k := 128) (mi := 81) (ci := 11) (d := 2) (ts := [14143, 14144, 14145, 10001]) (by decide +kernel) (orc := rv_no) lw_no hev rfl (by simp [hlas]) (vs := [.ref q0, .int (xs 1)]) (rest := []) ⟨⟨q0, hq0, rfl⟩, hvs0⟩ (Nat.le_of_ble_eq_true rfl) hl.1 dL_law_1160 hw ⟨Nat.le_of_ble_eq_true rfl, Nat.le_of_ble_eq_true rfl⟩ rfl (fun o ho ws2 v H1 locs1 hrv hw2 hmn => ?_)
  obtain ⟨v1, os2, ho1, hC, hrc, hev2, h2⟩ := rv_b2_s (hos o ho)
  rw [ho1] at hrv
  cases v with
  | none => exact hrv.elim
  | some w =>
    obtain ⟨z, rfl, rfl⟩ := rv_isC_f hC (show rv_V ρ (ws2.map Prod.fst) v1 w from hrv)
    refine lv_aload_n hx hb dL_law_1163 rfl (lv_at hl 2 rfl) ?_
    refine lw_arg C0 (j := 1) (pc := 1164) (by decide) (by decide) dL_law_1164 dL_law_1165 dL_law_1166 dL_law_1167 dL_law_1168 hl (lv_at hl 0 rfl) (lv_at hl 3 rfl) hw2.2.2.2.1 ?_
    refine lw_cV C0 hKK (k := 131) (mi := 146) (ci := 12) (d := 2) (ts := [17221, 17222, 17223, 10013]) (by decide +kernel) (orc := rv_no) lw_no hev2 hrc (by simp [hlas]) (vs := [.ref q1, .int (xs 1)]) (rest := [.int z]) ⟨⟨q1, hmn _ _ hq1, rfl⟩, (rv_Vs_mono hmn hvs0)⟩ (Nat.le_of_ble_eq_true rfl) hl.1 dL_law_1169 hw2 ⟨Nat.le_of_ble_eq_true rfl, Nat.le_of_ble_eq_true rfl⟩ rfl (fun o2 ho2 ws3 v3 H2 locs2 hrv2 hw3 hmn2 => ?_)
    rw [h2 o2 ho2] at hrv2
    cases v3 with
    | none => exact hrv2.elim
    | some w2 =>
      cases (show w2 = .int z from hrv2)
      refine lv_icmp_eq (tgt := 1477) hx hb dL_law_1172 (by decide) (fun _ => ?_) (fun q => absurd rfl q)
      exact lw_end C0 hl hw3.2.2.2.1 (Nat.le_of_ble_eq_true rfl) (Nat.le_of_ble_eq_true rfl)
set_option maxHeartbeats 1000000 in
/-- nearRoom -/
theorem lw_k26 {p : Program} {l : Launch} {e : Env} {s : State} {m : MethodId} {below : List Frame} {meth : Method} {c : Code} {b : Nat} {xs : Nat → Int32} {ρ : Nat → Int64} {D : va_G} {cA : Nat → ClassId} (C : lw_X p s m meth c b xs D cA) {ws : va_W} {H : Heap} {locs : List Loc} {ls : Array Slot} {q0 q1 : Nat} (hw : rv_Wd ρ D cA (lw_A s) s [] rh_2 ws H locs) (hq0 : (ws.map Prod.fst)[0]? = some q0) (hq1 : (ws.map Prod.fst)[100]? = some q1) (hl : lv_has ls 4 [(0, .ref b), (1, .ref q0), (2, .ref q1), (3, .int 0)]) : W p l e room_1 s m #[Value.ref b] below meth c H locs 143 52759 (lw_Z below #[Value.ref b] s) (F0 m 1177 ls []) := by
  obtain ⟨C0, hKK⟩ := C
  have hts2 := lw_hts C0
  have hx := C0.1
  have hb := C0.2.1
  have hown := C0.2.2.2.2.1
  obtain ⟨as, has, hvs0⟩ := rv_prod_s (ρ := ρ) (L := ws.map Prod.fst) (xs := [xs 1, xs 2]) rk_c26 rfl
  obtain ⟨os, hev, hos⟩ := rv_bth_s (rk_26 as has)
  have hlas : as.length = 2 := rv_Vs_len hvs0
  refine lv_aload_n hx hb dL_law_1177 rfl (lv_at hl 1 rfl) ?_
  refine lw_arg C0 (j := 1) (pc := 1178) (by decide) (by decide) dL_law_1178 dL_law_1179 dL_law_1180 dL_law_1181 dL_law_1182 hl (lv_at hl 0 rfl) (lv_at hl 3 rfl) hw.2.2.2.1 ?_
  refine lw_arg C0 (j := 2) (pc := 1183) (by decide) (by decide) dL_law_1183 dL_law_1184 dL_law_1185 dL_law_1186 dL_law_1187 hl (lv_at hl 0 rfl) (lv_at hl 3 rfl) hw.2.2.2.1 ?_
  refine lw_cV C0 hKK (k := 132) (mi := 82) (ci := 11) (d := 3) (ts := [14153, 14154, 14155, 10001]) (by decide +kernel) (orc := rv_no) lw_no hev rfl (by simp [hlas]) (vs := [.ref q0, .int (xs 1), .int (xs 2)]) (rest := []) ⟨⟨q0, hq0, rfl⟩, hvs0⟩ (Nat.le_of_ble_eq_true rfl) hl.1 dL_law_1188 hw ⟨Nat.le_of_ble_eq_true rfl, Nat.le_of_ble_eq_true rfl⟩ rfl (fun o ho ws2 v H1 locs1 hrv hw2 hmn => ?_)
  obtain ⟨v1, os2, ho1, hC, hrc, hev2, h2⟩ := rv_b2_s (hos o ho)
  rw [ho1] at hrv
  cases v with
  | none => exact hrv.elim
  | some w =>
    obtain ⟨z, rfl, rfl⟩ := rv_isC_f hC (show rv_V ρ (ws2.map Prod.fst) v1 w from hrv)
    refine lv_aload_n hx hb dL_law_1191 rfl (lv_at hl 2 rfl) ?_
    refine lw_arg C0 (j := 1) (pc := 1192) (by decide) (by decide) dL_law_1192 dL_law_1193 dL_law_1194 dL_law_1195 dL_law_1196 hl (lv_at hl 0 rfl) (lv_at hl 3 rfl) hw2.2.2.2.1 ?_
    refine lw_arg C0 (j := 2) (pc := 1197) (by decide) (by decide) dL_law_1197 dL_law_1198 dL_law_1199 dL_law_1200 dL_law_1201 hl (lv_at hl 0 rfl) (lv_at hl 3 rfl) hw2.2.2.2.1 ?_
    refine lw_cV C0 hKK (k := 135) (mi := 147) (ci := 12) (d := 3) (ts := [17229, 17230, 17231, 10013]) (by decide +kernel) (orc := rv_no) lw_no hev2 hrc (by simp [hlas]) (vs := [.ref q1, .int (xs 1), .int (xs 2)]) (rest := [.int z]) ⟨⟨q1, hmn _ _ hq1, rfl⟩, (rv_Vs_mono hmn hvs0)⟩ (Nat.le_of_ble_eq_true rfl) hl.1 dL_law_1202 hw2 ⟨Nat.le_of_ble_eq_true rfl, Nat.le_of_ble_eq_true rfl⟩ rfl (fun o2 ho2 ws3 v3 H2 locs2 hrv2 hw3 hmn2 => ?_)
    rw [h2 o2 ho2] at hrv2
    cases v3 with
    | none => exact hrv2.elim
    | some w2 =>
      cases (show w2 = .int z from hrv2)
      refine lv_icmp_eq (tgt := 1477) hx hb dL_law_1205 (by decide) (fun _ => ?_) (fun q => absurd rfl q)
      exact lw_end C0 hl hw3.2.2.2.1 (Nat.le_of_ble_eq_true rfl) (Nat.le_of_ble_eq_true rfl)
set_option maxHeartbeats 1000000 in
/-- bear -/
theorem lw_k27 {p : Program} {l : Launch} {e : Env} {s : State} {m : MethodId} {below : List Frame} {meth : Method} {c : Code} {b : Nat} {xs : Nat → Int32} {ρ : Nat → Int64} {D : va_G} {cA : Nat → ClassId} (C : lw_X p s m meth c b xs D cA) {ws : va_W} {H : Heap} {locs : List Loc} {ls : Array Slot} {q0 q1 : Nat} (hw : rv_Wd ρ D cA (lw_A s) s [] rh_2 ws H locs) (hq0 : (ws.map Prod.fst)[0]? = some q0) (hq1 : (ws.map Prod.fst)[100]? = some q1) (hl : lv_has ls 4 [(0, .ref b), (1, .ref q0), (2, .ref q1), (3, .int 0)]) : W p l e room_1 s m #[Value.ref b] below meth c H locs 143 52759 (lw_Z below #[Value.ref b] s) (F0 m 1210 ls []) := by
  obtain ⟨C0, hKK⟩ := C
  have hts2 := lw_hts C0
  have hx := C0.1
  have hb := C0.2.1
  have hown := C0.2.2.2.2.1
  obtain ⟨as, has, hvs0⟩ := rv_prod_s (ρ := ρ) (L := ws.map Prod.fst) (xs := [xs 1]) rk_c27 rfl
  obtain ⟨os, hev, hos⟩ := rv_bth_s (rk_27 as has)
  have hlas : as.length = 1 := rv_Vs_len hvs0
  refine lv_aload_n hx hb dL_law_1210 rfl (lv_at hl 1 rfl) ?_
  refine lw_arg C0 (j := 1) (pc := 1211) (by decide) (by decide) dL_law_1211 dL_law_1212 dL_law_1213 dL_law_1214 dL_law_1215 hl (lv_at hl 0 rfl) (lv_at hl 3 rfl) hw.2.2.2.1 ?_
  refine lw_cV C0 hKK (k := 136) (mi := 62) (ci := 11) (d := 2) (ts := [14157, 14158, 14159, 10001]) (by decide +kernel) (orc := rv_no) lw_no hev rfl (by simp [hlas]) (vs := [.ref q0, .int (xs 1)]) (rest := []) ⟨⟨q0, hq0, rfl⟩, hvs0⟩ (Nat.le_of_ble_eq_true rfl) hl.1 dL_law_1216 hw ⟨Nat.le_of_ble_eq_true rfl, Nat.le_of_ble_eq_true rfl⟩ rfl (fun o ho ws2 v H1 locs1 hrv hw2 hmn => ?_)
  obtain ⟨v1, os2, ho1, hC, hrc, hev2, h2⟩ := rv_b2_s (hos o ho)
  rw [ho1] at hrv
  cases v with
  | none => exact hrv.elim
  | some w =>
    obtain ⟨z, rfl, rfl⟩ := rv_isC_f hC (show rv_V ρ (ws2.map Prod.fst) v1 w from hrv)
    refine lv_aload_n hx hb dL_law_1219 rfl (lv_at hl 2 rfl) ?_
    refine lw_arg C0 (j := 1) (pc := 1220) (by decide) (by decide) dL_law_1220 dL_law_1221 dL_law_1222 dL_law_1223 dL_law_1224 hl (lv_at hl 0 rfl) (lv_at hl 3 rfl) hw2.2.2.2.1 ?_
    refine lw_cV C0 hKK (k := 139) (mi := 111) (ci := 12) (d := 2) (ts := [17233, 17234, 17235, 10013]) (by decide +kernel) (orc := rv_no) lw_no hev2 hrc (by simp [hlas]) (vs := [.ref q1, .int (xs 1)]) (rest := [.int z]) ⟨⟨q1, hmn _ _ hq1, rfl⟩, (rv_Vs_mono hmn hvs0)⟩ (Nat.le_of_ble_eq_true rfl) hl.1 dL_law_1225 hw2 ⟨Nat.le_of_ble_eq_true rfl, Nat.le_of_ble_eq_true rfl⟩ rfl (fun o2 ho2 ws3 v3 H2 locs2 hrv2 hw3 hmn2 => ?_)
    rw [h2 o2 ho2] at hrv2
    cases v3 with
    | none => exact hrv2.elim
    | some w2 =>
      cases (show w2 = .int z from hrv2)
      refine lv_icmp_eq (tgt := 1477) hx hb dL_law_1228 (by decide) (fun _ => ?_) (fun q => absurd rfl q)
      exact lw_end C0 hl hw3.2.2.2.1 (Nat.le_of_ble_eq_true rfl) (Nat.le_of_ble_eq_true rfl)
set_option maxHeartbeats 1000000 in
/-- mend -/
theorem lw_k28 {p : Program} {l : Launch} {e : Env} {s : State} {m : MethodId} {below : List Frame} {meth : Method} {c : Code} {b : Nat} {xs : Nat → Int32} {ρ : Nat → Int64} {D : va_G} {cA : Nat → ClassId} (C : lw_X p s m meth c b xs D cA) {ws : va_W} {H : Heap} {locs : List Loc} {ls : Array Slot} {q0 q1 : Nat} (hw : rv_Wd ρ D cA (lw_A s) s [] rh_2 ws H locs) (hq0 : (ws.map Prod.fst)[0]? = some q0) (hq1 : (ws.map Prod.fst)[100]? = some q1) (hl : lv_has ls 4 [(0, .ref b), (1, .ref q0), (2, .ref q1), (3, .int 0)]) : W p l e room_1 s m #[Value.ref b] below meth c H locs 143 52759 (lw_Z below #[Value.ref b] s) (F0 m 1233 ls []) := by
  obtain ⟨C0, hKK⟩ := C
  have hts2 := lw_hts C0
  have hx := C0.1
  have hb := C0.2.1
  have hown := C0.2.2.2.2.1
  obtain ⟨as, has, hvs0⟩ := rv_prod_s (ρ := ρ) (L := ws.map Prod.fst) (xs := [xs 1, xs 2]) rk_c28 rfl
  obtain ⟨os, hev, hos⟩ := rv_bth_s (rk_28 as has)
  have hlas : as.length = 2 := rv_Vs_len hvs0
  refine lv_aload_n hx hb dL_law_1233 rfl (lv_at hl 1 rfl) ?_
  refine lw_arg C0 (j := 1) (pc := 1234) (by decide) (by decide) dL_law_1234 dL_law_1235 dL_law_1236 dL_law_1237 dL_law_1238 hl (lv_at hl 0 rfl) (lv_at hl 3 rfl) hw.2.2.2.1 ?_
  refine lw_arg C0 (j := 2) (pc := 1239) (by decide) (by decide) dL_law_1239 dL_law_1240 dL_law_1241 dL_law_1242 dL_law_1243 hl (lv_at hl 0 rfl) (lv_at hl 3 rfl) hw.2.2.2.1 ?_
  refine lw_cV C0 hKK (k := 140) (mi := 79) (ci := 11) (d := 3) (ts := [14166, 14167, 14168, 10001]) (by decide +kernel) (orc := rv_no) lw_no hev rfl (by simp [hlas]) (vs := [.ref q0, .int (xs 1), .int (xs 2)]) (rest := []) ⟨⟨q0, hq0, rfl⟩, hvs0⟩ (Nat.le_of_ble_eq_true rfl) hl.1 dL_law_1244 hw ⟨Nat.le_of_ble_eq_true rfl, Nat.le_of_ble_eq_true rfl⟩ rfl (fun o ho ws2 v H1 locs1 hrv hw2 hmn => ?_)
  obtain ⟨v1, os2, ho1, hC, hrc, hev2, h2⟩ := rv_b2_s (hos o ho)
  rw [ho1] at hrv
  cases v with
  | none => exact hrv.elim
  | some w =>
    obtain ⟨z, rfl, rfl⟩ := rv_isC_f hC (show rv_V ρ (ws2.map Prod.fst) v1 w from hrv)
    refine lv_aload_n hx hb dL_law_1247 rfl (lv_at hl 2 rfl) ?_
    refine lw_arg C0 (j := 1) (pc := 1248) (by decide) (by decide) dL_law_1248 dL_law_1249 dL_law_1250 dL_law_1251 dL_law_1252 hl (lv_at hl 0 rfl) (lv_at hl 3 rfl) hw2.2.2.2.1 ?_
    refine lw_arg C0 (j := 2) (pc := 1253) (by decide) (by decide) dL_law_1253 dL_law_1254 dL_law_1255 dL_law_1256 dL_law_1257 hl (lv_at hl 0 rfl) (lv_at hl 3 rfl) hw2.2.2.2.1 ?_
    refine lw_cV C0 hKK (k := 143) (mi := 143) (ci := 12) (d := 3) (ts := [18001, 18002, 18003, 10013]) (by decide +kernel) (orc := rv_no) lw_no hev2 hrc (by simp [hlas]) (vs := [.ref q1, .int (xs 1), .int (xs 2)]) (rest := [.int z]) ⟨⟨q1, hmn _ _ hq1, rfl⟩, (rv_Vs_mono hmn hvs0)⟩ (Nat.le_of_ble_eq_true rfl) hl.1 dL_law_1258 hw2 ⟨Nat.le_of_ble_eq_true rfl, Nat.le_of_ble_eq_true rfl⟩ rfl (fun o2 ho2 ws3 v3 H2 locs2 hrv2 hw3 hmn2 => ?_)
    rw [h2 o2 ho2] at hrv2
    cases v3 with
    | none => exact hrv2.elim
    | some w2 =>
      cases (show w2 = .int z from hrv2)
      refine lv_icmp_eq (tgt := 1477) hx hb dL_law_1261 (by decide) (fun _ => ?_) (fun q => absurd rfl q)
      exact lw_end C0 hl hw3.2.2.2.1 (Nat.le_of_ble_eq_true rfl) (Nat.le_of_ble_eq_true rfl)
set_option maxHeartbeats 1000000 in
/-- sort -/
theorem lw_k29 {p : Program} {l : Launch} {e : Env} {s : State} {m : MethodId} {below : List Frame} {meth : Method} {c : Code} {b : Nat} {xs : Nat → Int32} {ρ : Nat → Int64} {D : va_G} {cA : Nat → ClassId} (C : lw_X p s m meth c b xs D cA) {ws : va_W} {H : Heap} {locs : List Loc} {ls : Array Slot} {q0 q1 : Nat} (hw : rv_Wd ρ D cA (lw_A s) s [] rh_2 ws H locs) (hq0 : (ws.map Prod.fst)[0]? = some q0) (hq1 : (ws.map Prod.fst)[100]? = some q1) (hl : lv_has ls 4 [(0, .ref b), (1, .ref q0), (2, .ref q1), (3, .int 0)]) : W p l e room_1 s m #[Value.ref b] below meth c H locs 143 52759 (lw_Z below #[Value.ref b] s) (F0 m 1266 ls []) := by
  obtain ⟨C0, hKK⟩ := C
  have hts2 := lw_hts C0
  have hx := C0.1
  have hb := C0.2.1
  have hown := C0.2.2.2.2.1
  obtain ⟨as, has, hvs0⟩ := rv_prod_s (ρ := ρ) (L := ws.map Prod.fst) (xs := [xs 1]) rk_c29 rfl
  obtain ⟨os, hev, hos⟩ := rv_bth_s (rk_29 as has)
  have hlas : as.length = 1 := rv_Vs_len hvs0
  refine lv_aload_n hx hb dL_law_1266 rfl (lv_at hl 1 rfl) ?_
  refine lw_arg C0 (j := 1) (pc := 1267) (by decide) (by decide) dL_law_1267 dL_law_1268 dL_law_1269 dL_law_1270 dL_law_1271 hl (lv_at hl 0 rfl) (lv_at hl 3 rfl) hw.2.2.2.1 ?_
  refine lw_cV C0 hKK (k := 144) (mi := 94) (ci := 11) (d := 2) (ts := [14206, 14207, 14208, 10001]) (by decide +kernel) (orc := rv_no) lw_no hev rfl (by simp [hlas]) (vs := [.ref q0, .int (xs 1)]) (rest := []) ⟨⟨q0, hq0, rfl⟩, hvs0⟩ (Nat.le_of_ble_eq_true rfl) hl.1 dL_law_1272 hw ⟨Nat.le_of_ble_eq_true rfl, Nat.le_of_ble_eq_true rfl⟩ rfl (fun o ho ws2 v H1 locs1 hrv hw2 hmn => ?_)
  obtain ⟨v1, os2, ho1, hC, hrc, hev2, h2⟩ := rv_b2_s (hos o ho)
  rw [ho1] at hrv
  cases v with
  | none => exact hrv.elim
  | some w =>
    obtain ⟨z, rfl, rfl⟩ := rv_isC_f hC (show rv_V ρ (ws2.map Prod.fst) v1 w from hrv)
    refine lv_aload_n hx hb dL_law_1275 rfl (lv_at hl 2 rfl) ?_
    refine lw_arg C0 (j := 1) (pc := 1276) (by decide) (by decide) dL_law_1276 dL_law_1277 dL_law_1278 dL_law_1279 dL_law_1280 hl (lv_at hl 0 rfl) (lv_at hl 3 rfl) hw2.2.2.2.1 ?_
    refine lw_cV C0 hKK (k := 147) (mi := 165) (ci := 12) (d := 2) (ts := [18013, 18014, 18015, 10013]) (by decide +kernel) (orc := rv_no) lw_no hev2 hrc (by simp [hlas]) (vs := [.ref q1, .int (xs 1)]) (rest := [.int z]) ⟨⟨q1, hmn _ _ hq1, rfl⟩, (rv_Vs_mono hmn hvs0)⟩ (Nat.le_of_ble_eq_true rfl) hl.1 dL_law_1281 hw2 ⟨Nat.le_of_ble_eq_true rfl, Nat.le_of_ble_eq_true rfl⟩ rfl (fun o2 ho2 ws3 v3 H2 locs2 hrv2 hw3 hmn2 => ?_)
    rw [h2 o2 ho2] at hrv2
    cases v3 with
    | none => exact hrv2.elim
    | some w2 =>
      cases (show w2 = .int z from hrv2)
      refine lv_icmp_eq (tgt := 1477) hx hb dL_law_1284 (by decide) (fun _ => ?_) (fun q => absurd rfl q)
      exact lw_end C0 hl hw3.2.2.2.1 (Nat.le_of_ble_eq_true rfl) (Nat.le_of_ble_eq_true rfl)
set_option maxHeartbeats 1000000 in
/-- greedy -/
theorem lw_k30 {p : Program} {l : Launch} {e : Env} {s : State} {m : MethodId} {below : List Frame} {meth : Method} {c : Code} {b : Nat} {xs : Nat → Int32} {ρ : Nat → Int64} {D : va_G} {cA : Nat → ClassId} (C : lw_X p s m meth c b xs D cA) {ws : va_W} {H : Heap} {locs : List Loc} {ls : Array Slot} {q0 q1 : Nat} (hw : rv_Wd ρ D cA (lw_A s) s [] rh_2 ws H locs) (hq0 : (ws.map Prod.fst)[0]? = some q0) (hq1 : (ws.map Prod.fst)[100]? = some q1) (hl : lv_has ls 4 [(0, .ref b), (1, .ref q0), (2, .ref q1), (3, .int 0)]) : W p l e room_1 s m #[Value.ref b] below meth c H locs 143 52759 (lw_Z below #[Value.ref b] s) (F0 m 1289 ls []) := by
  obtain ⟨C0, hKK⟩ := C
  have hts2 := lw_hts C0
  have hx := C0.1
  have hb := C0.2.1
  have hown := C0.2.2.2.2.1
  obtain ⟨as, has, hvs0⟩ := rv_prod_s (ρ := ρ) (L := ws.map Prod.fst) (xs := [xs 1]) rk_c30 rfl
  obtain ⟨os, hev, hos⟩ := rv_bth_s (rk_30 as has)
  have hlas : as.length = 1 := rv_Vs_len hvs0
  refine lv_aload_n hx hb dL_law_1289 rfl (lv_at hl 1 rfl) ?_
  refine lw_arg C0 (j := 1) (pc := 1290) (by decide) (by decide) dL_law_1290 dL_law_1291 dL_law_1292 dL_law_1293 dL_law_1294 hl (lv_at hl 0 rfl) (lv_at hl 3 rfl) hw.2.2.2.1 ?_
  refine lw_cV C0 hKK (k := 148) (mi := 73) (ci := 11) (d := 2) (ts := [14231, 14232, 14233, 10001]) (by decide +kernel) (orc := rv_no) lw_no hev rfl (by simp [hlas]) (vs := [.ref q0, .int (xs 1)]) (rest := []) ⟨⟨q0, hq0, rfl⟩, hvs0⟩ (Nat.le_of_ble_eq_true rfl) hl.1 dL_law_1295 hw ⟨Nat.le_of_ble_eq_true rfl, Nat.le_of_ble_eq_true rfl⟩ rfl (fun o ho ws2 v H1 locs1 hrv hw2 hmn => ?_)
  obtain ⟨v1, os2, ho1, hC, hrc, hev2, h2⟩ := rv_b2_s (hos o ho)
  rw [ho1] at hrv
  cases v with
  | none => exact hrv.elim
  | some w =>
    obtain ⟨z, rfl, rfl⟩ := rv_isC_f hC (show rv_V ρ (ws2.map Prod.fst) v1 w from hrv)
    refine lv_aload_n hx hb dL_law_1298 rfl (lv_at hl 2 rfl) ?_
    refine lw_arg C0 (j := 1) (pc := 1299) (by decide) (by decide) dL_law_1299 dL_law_1300 dL_law_1301 dL_law_1302 dL_law_1303 hl (lv_at hl 0 rfl) (lv_at hl 3 rfl) hw2.2.2.2.1 ?_
    refine lw_cV C0 hKK (k := 151) (mi := 129) (ci := 12) (d := 2) (ts := [18029, 18030, 18031, 10013]) (by decide +kernel) (orc := rv_no) lw_no hev2 hrc (by simp [hlas]) (vs := [.ref q1, .int (xs 1)]) (rest := [.int z]) ⟨⟨q1, hmn _ _ hq1, rfl⟩, (rv_Vs_mono hmn hvs0)⟩ (Nat.le_of_ble_eq_true rfl) hl.1 dL_law_1304 hw2 ⟨Nat.le_of_ble_eq_true rfl, Nat.le_of_ble_eq_true rfl⟩ rfl (fun o2 ho2 ws3 v3 H2 locs2 hrv2 hw3 hmn2 => ?_)
    rw [h2 o2 ho2] at hrv2
    cases v3 with
    | none => exact hrv2.elim
    | some w2 =>
      cases (show w2 = .int z from hrv2)
      refine lv_icmp_eq (tgt := 1477) hx hb dL_law_1307 (by decide) (fun _ => ?_) (fun q => absurd rfl q)
      exact lw_end C0 hl hw3.2.2.2.1 (Nat.le_of_ble_eq_true rfl) (Nat.le_of_ble_eq_true rfl)
set_option maxHeartbeats 1000000 in
/-- gain -/
theorem lw_k31 {p : Program} {l : Launch} {e : Env} {s : State} {m : MethodId} {below : List Frame} {meth : Method} {c : Code} {b : Nat} {xs : Nat → Int32} {ρ : Nat → Int64} {D : va_G} {cA : Nat → ClassId} (C : lw_X p s m meth c b xs D cA) {ws : va_W} {H : Heap} {locs : List Loc} {ls : Array Slot} {q0 q1 : Nat} (hw : rv_Wd ρ D cA (lw_A s) s [] rh_2 ws H locs) (hq0 : (ws.map Prod.fst)[0]? = some q0) (hq1 : (ws.map Prod.fst)[100]? = some q1) (hl : lv_has ls 4 [(0, .ref b), (1, .ref q0), (2, .ref q1), (3, .int 0)]) : W p l e room_1 s m #[Value.ref b] below meth c H locs 143 52759 (lw_Z below #[Value.ref b] s) (F0 m 1312 ls []) := by
  obtain ⟨C0, hKK⟩ := C
  have hts2 := lw_hts C0
  have hx := C0.1
  have hb := C0.2.1
  have hown := C0.2.2.2.2.1
  obtain ⟨as, has, hvs0⟩ := rv_prod_s (ρ := ρ) (L := ws.map Prod.fst) (xs := [xs 1, xs 2, xs 3]) rk_c31 rfl
  obtain ⟨os, hev, hos⟩ := rv_bth_s (rk_31 as has)
  have hlas : as.length = 3 := rv_Vs_len hvs0
  refine lv_aload_n hx hb dL_law_1312 rfl (lv_at hl 1 rfl) ?_
  refine lw_arg C0 (j := 1) (pc := 1313) (by decide) (by decide) dL_law_1313 dL_law_1314 dL_law_1315 dL_law_1316 dL_law_1317 hl (lv_at hl 0 rfl) (lv_at hl 3 rfl) hw.2.2.2.1 ?_
  refine lw_arg C0 (j := 2) (pc := 1318) (by decide) (by decide) dL_law_1318 dL_law_1319 dL_law_1320 dL_law_1321 dL_law_1322 hl (lv_at hl 0 rfl) (lv_at hl 3 rfl) hw.2.2.2.1 ?_
  refine lw_arg C0 (j := 3) (pc := 1323) (by decide) (by decide) dL_law_1323 dL_law_1324 dL_law_1325 dL_law_1326 dL_law_1327 hl (lv_at hl 0 rfl) (lv_at hl 3 rfl) hw.2.2.2.1 ?_
  refine lw_cV C0 hKK (k := 152) (mi := 69) (ci := 11) (d := 4) (ts := [15006, 15007, 15008, 10001]) (by decide +kernel) (orc := rv_no) lw_no hev rfl (by simp [hlas]) (vs := [.ref q0, .int (xs 1), .int (xs 2), .int (xs 3)]) (rest := []) ⟨⟨q0, hq0, rfl⟩, hvs0⟩ (Nat.le_of_ble_eq_true rfl) hl.1 dL_law_1328 hw ⟨Nat.le_of_ble_eq_true rfl, Nat.le_of_ble_eq_true rfl⟩ rfl (fun o ho ws2 v H1 locs1 hrv hw2 hmn => ?_)
  obtain ⟨v1, os2, ho1, hC, hrc, hev2, h2⟩ := rv_b2_s (hos o ho)
  rw [ho1] at hrv
  cases v with
  | none => exact hrv.elim
  | some w =>
    obtain ⟨z, rfl, rfl⟩ := rv_isC_f hC (show rv_V ρ (ws2.map Prod.fst) v1 w from hrv)
    refine lv_aload_n hx hb dL_law_1331 rfl (lv_at hl 2 rfl) ?_
    refine lw_arg C0 (j := 1) (pc := 1332) (by decide) (by decide) dL_law_1332 dL_law_1333 dL_law_1334 dL_law_1335 dL_law_1336 hl (lv_at hl 0 rfl) (lv_at hl 3 rfl) hw2.2.2.2.1 ?_
    refine lw_arg C0 (j := 2) (pc := 1337) (by decide) (by decide) dL_law_1337 dL_law_1338 dL_law_1339 dL_law_1340 dL_law_1341 hl (lv_at hl 0 rfl) (lv_at hl 3 rfl) hw2.2.2.2.1 ?_
    refine lw_arg C0 (j := 3) (pc := 1342) (by decide) (by decide) dL_law_1342 dL_law_1343 dL_law_1344 dL_law_1345 dL_law_1346 hl (lv_at hl 0 rfl) (lv_at hl 3 rfl) hw2.2.2.2.1 ?_
    refine lw_cV C0 hKK (k := 155) (mi := 123) (ci := 12) (d := 4) (ts := [18033, 18034, 18035, 10013]) (by decide +kernel) (orc := rv_no) lw_no hev2 hrc (by simp [hlas]) (vs := [.ref q1, .int (xs 1), .int (xs 2), .int (xs 3)]) (rest := [.int z]) ⟨⟨q1, hmn _ _ hq1, rfl⟩, (rv_Vs_mono hmn hvs0)⟩ (Nat.le_of_ble_eq_true rfl) hl.1 dL_law_1347 hw2 ⟨Nat.le_of_ble_eq_true rfl, Nat.le_of_ble_eq_true rfl⟩ rfl (fun o2 ho2 ws3 v3 H2 locs2 hrv2 hw3 hmn2 => ?_)
    rw [h2 o2 ho2] at hrv2
    cases v3 with
    | none => exact hrv2.elim
    | some w2 =>
      cases (show w2 = .int z from hrv2)
      refine lv_icmp_eq (tgt := 1477) hx hb dL_law_1350 (by decide) (fun _ => ?_) (fun q => absurd rfl q)
      exact lw_end C0 hl hw3.2.2.2.1 (Nat.le_of_ble_eq_true rfl) (Nat.le_of_ble_eq_true rfl)
set_option maxHeartbeats 1000000 in
/-- weeks -/
theorem lw_k32 {p : Program} {l : Launch} {e : Env} {s : State} {m : MethodId} {below : List Frame} {meth : Method} {c : Code} {b : Nat} {xs : Nat → Int32} {ρ : Nat → Int64} {D : va_G} {cA : Nat → ClassId} (C : lw_X p s m meth c b xs D cA) {ws : va_W} {H : Heap} {locs : List Loc} {ls : Array Slot} {q0 q1 : Nat} (hw : rv_Wd ρ D cA (lw_A s) s [] rh_2 ws H locs) (hq0 : (ws.map Prod.fst)[0]? = some q0) (hq1 : (ws.map Prod.fst)[100]? = some q1) (hl : lv_has ls 4 [(0, .ref b), (1, .ref q0), (2, .ref q1), (3, .int 0)]) : W p l e room_1 s m #[Value.ref b] below meth c H locs 143 52759 (lw_Z below #[Value.ref b] s) (F0 m 1355 ls []) := by
  obtain ⟨C0, hKK⟩ := C
  have hts2 := lw_hts C0
  have hx := C0.1
  have hb := C0.2.1
  have hown := C0.2.2.2.2.1
  obtain ⟨as, has, hvs0⟩ := rv_prod_s (ρ := ρ) (L := ws.map Prod.fst) (xs := [xs 1, xs 2]) rk_c32 rfl
  obtain ⟨os, hev, hos⟩ := rv_bth_s (rk_32 as has)
  have hlas : as.length = 2 := rv_Vs_len hvs0
  refine lv_aload_n hx hb dL_law_1355 rfl (lv_at hl 1 rfl) ?_
  refine lw_arg C0 (j := 1) (pc := 1356) (by decide) (by decide) dL_law_1356 dL_law_1357 dL_law_1358 dL_law_1359 dL_law_1360 hl (lv_at hl 0 rfl) (lv_at hl 3 rfl) hw.2.2.2.1 ?_
  refine lw_arg C0 (j := 2) (pc := 1361) (by decide) (by decide) dL_law_1361 dL_law_1362 dL_law_1363 dL_law_1364 dL_law_1365 hl (lv_at hl 0 rfl) (lv_at hl 3 rfl) hw.2.2.2.1 ?_
  refine lw_cV C0 hKK (k := 156) (mi := 102) (ci := 11) (d := 3) (ts := [15016, 15017, 15018, 10001]) (by decide +kernel) (orc := rv_no) lw_no hev rfl (by simp [hlas]) (vs := [.ref q0, .int (xs 1), .int (xs 2)]) (rest := []) ⟨⟨q0, hq0, rfl⟩, hvs0⟩ (Nat.le_of_ble_eq_true rfl) hl.1 dL_law_1366 hw ⟨Nat.le_of_ble_eq_true rfl, Nat.le_of_ble_eq_true rfl⟩ rfl (fun o ho ws2 v H1 locs1 hrv hw2 hmn => ?_)
  obtain ⟨v1, os2, ho1, hC, hrc, hev2, h2⟩ := rv_b2_s (hos o ho)
  rw [ho1] at hrv
  cases v with
  | none => exact hrv.elim
  | some w =>
    obtain ⟨z, rfl, rfl⟩ := rv_isC_f hC (show rv_V ρ (ws2.map Prod.fst) v1 w from hrv)
    refine lv_aload_n hx hb dL_law_1369 rfl (lv_at hl 2 rfl) ?_
    refine lw_arg C0 (j := 1) (pc := 1370) (by decide) (by decide) dL_law_1370 dL_law_1371 dL_law_1372 dL_law_1373 dL_law_1374 hl (lv_at hl 0 rfl) (lv_at hl 3 rfl) hw2.2.2.2.1 ?_
    refine lw_arg C0 (j := 2) (pc := 1375) (by decide) (by decide) dL_law_1375 dL_law_1376 dL_law_1377 dL_law_1378 dL_law_1379 hl (lv_at hl 0 rfl) (lv_at hl 3 rfl) hw2.2.2.2.1 ?_
    refine lw_cV C0 hKK (k := 159) (mi := 174) (ci := 12) (d := 3) (ts := [18041, 18042, 18043, 10013]) (by decide +kernel) (orc := rv_no) lw_no hev2 hrc (by simp [hlas]) (vs := [.ref q1, .int (xs 1), .int (xs 2)]) (rest := [.int z]) ⟨⟨q1, hmn _ _ hq1, rfl⟩, (rv_Vs_mono hmn hvs0)⟩ (Nat.le_of_ble_eq_true rfl) hl.1 dL_law_1380 hw2 ⟨Nat.le_of_ble_eq_true rfl, Nat.le_of_ble_eq_true rfl⟩ rfl (fun o2 ho2 ws3 v3 H2 locs2 hrv2 hw3 hmn2 => ?_)
    rw [h2 o2 ho2] at hrv2
    cases v3 with
    | none => exact hrv2.elim
    | some w2 =>
      cases (show w2 = .int z from hrv2)
      refine lv_icmp_eq (tgt := 1477) hx hb dL_law_1383 (by decide) (fun _ => ?_) (fun q => absurd rfl q)
      exact lw_end C0 hl hw3.2.2.2.1 (Nat.le_of_ble_eq_true rfl) (Nat.le_of_ble_eq_true rfl)
set_option maxHeartbeats 1000000 in
/-- week -/
theorem lw_k33 {p : Program} {l : Launch} {e : Env} {s : State} {m : MethodId} {below : List Frame} {meth : Method} {c : Code} {b : Nat} {xs : Nat → Int32} {ρ : Nat → Int64} {D : va_G} {cA : Nat → ClassId} (C : lw_X p s m meth c b xs D cA) {ws : va_W} {H : Heap} {locs : List Loc} {ls : Array Slot} {q0 q1 : Nat} (hw : rv_Wd ρ D cA (lw_A s) s [] rh_2 ws H locs) (hq0 : (ws.map Prod.fst)[0]? = some q0) (hq1 : (ws.map Prod.fst)[100]? = some q1) (hl : lv_has ls 4 [(0, .ref b), (1, .ref q0), (2, .ref q1), (3, .int 0)]) : W p l e room_1 s m #[Value.ref b] below meth c H locs 143 52759 (lw_Z below #[Value.ref b] s) (F0 m 1388 ls []) := by
  obtain ⟨C0, hKK⟩ := C
  have hts2 := lw_hts C0
  have hx := C0.1
  have hb := C0.2.1
  have hown := C0.2.2.2.2.1
  obtain ⟨as, has, hvs0⟩ := rv_prod_s (ρ := ρ) (L := ws.map Prod.fst) (xs := [xs 1]) rk_c33 rfl
  obtain ⟨os, hev, hos⟩ := rv_bth_s (rk_33 as has)
  have hlas : as.length = 1 := rv_Vs_len hvs0
  refine lv_aload_n hx hb dL_law_1388 rfl (lv_at hl 1 rfl) ?_
  refine lw_arg C0 (j := 1) (pc := 1389) (by decide) (by decide) dL_law_1389 dL_law_1390 dL_law_1391 dL_law_1392 dL_law_1393 hl (lv_at hl 0 rfl) (lv_at hl 3 rfl) hw.2.2.2.1 ?_
  refine lw_cV C0 hKK (k := 160) (mi := 101) (ci := 11) (d := 2) (ts := [15045, 15046, 15047, 10001]) (by decide +kernel) (orc := rv_no) lw_no hev rfl (by simp [hlas]) (vs := [.ref q0, .int (xs 1)]) (rest := []) ⟨⟨q0, hq0, rfl⟩, hvs0⟩ (Nat.le_of_ble_eq_true rfl) hl.1 dL_law_1394 hw ⟨Nat.le_of_ble_eq_true rfl, Nat.le_of_ble_eq_true rfl⟩ rfl (fun o ho ws2 v H1 locs1 hrv hw2 hmn => ?_)
  obtain ⟨v1, os2, ho1, hC, hrc, hev2, h2⟩ := rv_b2_s (hos o ho)
  rw [ho1] at hrv
  cases v with
  | none => exact hrv.elim
  | some w =>
    obtain ⟨z, rfl, rfl⟩ := rv_isC_f hC (show rv_V ρ (ws2.map Prod.fst) v1 w from hrv)
    refine lv_aload_n hx hb dL_law_1397 rfl (lv_at hl 2 rfl) ?_
    refine lw_arg C0 (j := 1) (pc := 1398) (by decide) (by decide) dL_law_1398 dL_law_1399 dL_law_1400 dL_law_1401 dL_law_1402 hl (lv_at hl 0 rfl) (lv_at hl 3 rfl) hw2.2.2.2.1 ?_
    refine lw_cV C0 hKK (k := 163) (mi := 173) (ci := 12) (d := 2) (ts := [18049, 18050, 18051, 10013]) (by decide +kernel) (orc := rv_no) lw_no hev2 hrc (by simp [hlas]) (vs := [.ref q1, .int (xs 1)]) (rest := [.int z]) ⟨⟨q1, hmn _ _ hq1, rfl⟩, (rv_Vs_mono hmn hvs0)⟩ (Nat.le_of_ble_eq_true rfl) hl.1 dL_law_1403 hw2 ⟨Nat.le_of_ble_eq_true rfl, Nat.le_of_ble_eq_true rfl⟩ rfl (fun o2 ho2 ws3 v3 H2 locs2 hrv2 hw3 hmn2 => ?_)
    rw [h2 o2 ho2] at hrv2
    cases v3 with
    | none => exact hrv2.elim
    | some w2 =>
      cases (show w2 = .int z from hrv2)
      refine lv_icmp_eq (tgt := 1477) hx hb dL_law_1406 (by decide) (fun _ => ?_) (fun q => absurd rfl q)
      exact lw_end C0 hl hw3.2.2.2.1 (Nat.le_of_ble_eq_true rfl) (Nat.le_of_ble_eq_true rfl)
set_option maxHeartbeats 1000000 in
/-- goes -/
theorem lw_k34 {p : Program} {l : Launch} {e : Env} {s : State} {m : MethodId} {below : List Frame} {meth : Method} {c : Code} {b : Nat} {xs : Nat → Int32} {ρ : Nat → Int64} {D : va_G} {cA : Nat → ClassId} (C : lw_X p s m meth c b xs D cA) {ws : va_W} {H : Heap} {locs : List Loc} {ls : Array Slot} {q0 q1 : Nat} (hw : rv_Wd ρ D cA (lw_A s) s [] rh_2 ws H locs) (hq0 : (ws.map Prod.fst)[0]? = some q0) (hq1 : (ws.map Prod.fst)[100]? = some q1) (hl : lv_has ls 4 [(0, .ref b), (1, .ref q0), (2, .ref q1), (3, .int 0)]) : W p l e room_1 s m #[Value.ref b] below meth c H locs 143 52759 (lw_Z below #[Value.ref b] s) (F0 m 1411 ls []) := by
  obtain ⟨C0, hKK⟩ := C
  have hts2 := lw_hts C0
  have hx := C0.1
  have hb := C0.2.1
  have hown := C0.2.2.2.2.1
  obtain ⟨as, has, hvs0⟩ := rv_prod_s (ρ := ρ) (L := ws.map Prod.fst) (xs := [xs 1, xs 2, xs 3]) rk_c34 rfl
  obtain ⟨os, hev, hos⟩ := rv_bth_s (rk_34 as has)
  have hlas : as.length = 3 := rv_Vs_len hvs0
  refine lv_aload_n hx hb dL_law_1411 rfl (lv_at hl 1 rfl) ?_
  refine lw_arg C0 (j := 1) (pc := 1412) (by decide) (by decide) dL_law_1412 dL_law_1413 dL_law_1414 dL_law_1415 dL_law_1416 hl (lv_at hl 0 rfl) (lv_at hl 3 rfl) hw.2.2.2.1 ?_
  refine lw_arg C0 (j := 2) (pc := 1417) (by decide) (by decide) dL_law_1417 dL_law_1418 dL_law_1419 dL_law_1420 dL_law_1421 hl (lv_at hl 0 rfl) (lv_at hl 3 rfl) hw.2.2.2.1 ?_
  refine lw_arg C0 (j := 3) (pc := 1422) (by decide) (by decide) dL_law_1422 dL_law_1423 dL_law_1424 dL_law_1425 dL_law_1426 hl (lv_at hl 0 rfl) (lv_at hl 3 rfl) hw.2.2.2.1 ?_
  refine lw_cV C0 hKK (k := 164) (mi := 70) (ci := 11) (d := 4) (ts := [15049, 15050, 15051, 10001]) (by decide +kernel) (orc := rv_no) lw_no hev rfl (by simp [hlas]) (vs := [.ref q0, .int (xs 1), .int (xs 2), .int (xs 3)]) (rest := []) ⟨⟨q0, hq0, rfl⟩, hvs0⟩ (Nat.le_of_ble_eq_true rfl) hl.1 dL_law_1427 hw ⟨Nat.le_of_ble_eq_true rfl, Nat.le_of_ble_eq_true rfl⟩ rfl (fun o ho ws2 v H1 locs1 hrv hw2 hmn => ?_)
  obtain ⟨v1, os2, ho1, hC, hrc, hev2, h2⟩ := rv_b2_s (hos o ho)
  rw [ho1] at hrv
  cases v with
  | none => exact hrv.elim
  | some w =>
    obtain ⟨z, rfl, rfl⟩ := rv_isC_f hC (show rv_V ρ (ws2.map Prod.fst) v1 w from hrv)
    refine lv_aload_n hx hb dL_law_1430 rfl (lv_at hl 2 rfl) ?_
    refine lw_arg C0 (j := 1) (pc := 1431) (by decide) (by decide) dL_law_1431 dL_law_1432 dL_law_1433 dL_law_1434 dL_law_1435 hl (lv_at hl 0 rfl) (lv_at hl 3 rfl) hw2.2.2.2.1 ?_
    refine lw_arg C0 (j := 2) (pc := 1436) (by decide) (by decide) dL_law_1436 dL_law_1437 dL_law_1438 dL_law_1439 dL_law_1440 hl (lv_at hl 0 rfl) (lv_at hl 3 rfl) hw2.2.2.2.1 ?_
    refine lw_arg C0 (j := 3) (pc := 1441) (by decide) (by decide) dL_law_1441 dL_law_1442 dL_law_1443 dL_law_1444 dL_law_1445 hl (lv_at hl 0 rfl) (lv_at hl 3 rfl) hw2.2.2.2.1 ?_
    refine lw_cV C0 hKK (k := 167) (mi := 125) (ci := 12) (d := 4) (ts := [18053, 18054, 18055, 10013]) (by decide +kernel) (orc := rv_no) lw_no hev2 hrc (by simp [hlas]) (vs := [.ref q1, .int (xs 1), .int (xs 2), .int (xs 3)]) (rest := [.int z]) ⟨⟨q1, hmn _ _ hq1, rfl⟩, (rv_Vs_mono hmn hvs0)⟩ (Nat.le_of_ble_eq_true rfl) hl.1 dL_law_1446 hw2 ⟨Nat.le_of_ble_eq_true rfl, Nat.le_of_ble_eq_true rfl⟩ rfl (fun o2 ho2 ws3 v3 H2 locs2 hrv2 hw3 hmn2 => ?_)
    rw [h2 o2 ho2] at hrv2
    cases v3 with
    | none => exact hrv2.elim
    | some w2 =>
      cases (show w2 = .int z from hrv2)
      refine lv_icmp_eq (tgt := 1477) hx hb dL_law_1449 (by decide) (fun _ => ?_) (fun q => absurd rfl q)
      exact lw_end C0 hl hw3.2.2.2.1 (Nat.le_of_ble_eq_true rfl) (Nat.le_of_ble_eq_true rfl)
set_option maxHeartbeats 1000000 in
/-- gone -/
theorem lw_k35 {p : Program} {l : Launch} {e : Env} {s : State} {m : MethodId} {below : List Frame} {meth : Method} {c : Code} {b : Nat} {xs : Nat → Int32} {ρ : Nat → Int64} {D : va_G} {cA : Nat → ClassId} (C : lw_X p s m meth c b xs D cA) {ws : va_W} {H : Heap} {locs : List Loc} {ls : Array Slot} {q0 q1 : Nat} (hw : rv_Wd ρ D cA (lw_A s) s [] rh_2 ws H locs) (hq0 : (ws.map Prod.fst)[0]? = some q0) (hq1 : (ws.map Prod.fst)[100]? = some q1) (hl : lv_has ls 4 [(0, .ref b), (1, .ref q0), (2, .ref q1), (3, .int 0)]) : W p l e room_1 s m #[Value.ref b] below meth c H locs 143 52759 (lw_Z below #[Value.ref b] s) (F0 m 1454 ls []) := by
  obtain ⟨C0, hKK⟩ := C
  have hts2 := lw_hts C0
  have hx := C0.1
  have hb := C0.2.1
  have hown := C0.2.2.2.2.1
  obtain ⟨as, has, hvs0⟩ := rv_prod_s (ρ := ρ) (L := ws.map Prod.fst) (xs := [xs 1]) rk_c35 rfl
  obtain ⟨os, hev, hos⟩ := rv_bth_s (rk_35 as has)
  have hlas : as.length = 1 := rv_Vs_len hvs0
  refine lv_aload_n hx hb dL_law_1454 rfl (lv_at hl 1 rfl) ?_
  refine lw_arg C0 (j := 1) (pc := 1455) (by decide) (by decide) dL_law_1455 dL_law_1456 dL_law_1457 dL_law_1458 dL_law_1459 hl (lv_at hl 0 rfl) (lv_at hl 3 rfl) hw.2.2.2.1 ?_
  refine lw_cV C0 hKK (k := 168) (mi := 71) (ci := 11) (d := 2) (ts := [15065, 15066, 15067, 10001]) (by decide +kernel) (orc := rv_no) lw_no hev rfl (by simp [hlas]) (vs := [.ref q0, .int (xs 1)]) (rest := []) ⟨⟨q0, hq0, rfl⟩, hvs0⟩ (Nat.le_of_ble_eq_true rfl) hl.1 dL_law_1460 hw ⟨Nat.le_of_ble_eq_true rfl, Nat.le_of_ble_eq_true rfl⟩ rfl (fun o ho ws2 v H1 locs1 hrv hw2 hmn => ?_)
  obtain ⟨v1, os2, ho1, hC, hrc, hev2, h2⟩ := rv_b2_s (hos o ho)
  rw [ho1] at hrv
  cases v with
  | none => exact hrv.elim
  | some w =>
    obtain ⟨z, rfl, rfl⟩ := rv_isC_f hC (show rv_V ρ (ws2.map Prod.fst) v1 w from hrv)
    refine lv_aload_n hx hb dL_law_1463 rfl (lv_at hl 2 rfl) ?_
    refine lw_arg C0 (j := 1) (pc := 1464) (by decide) (by decide) dL_law_1464 dL_law_1465 dL_law_1466 dL_law_1467 dL_law_1468 hl (lv_at hl 0 rfl) (lv_at hl 3 rfl) hw2.2.2.2.1 ?_
    refine lw_cV C0 hKK (k := 171) (mi := 128) (ci := 12) (d := 2) (ts := [18057, 18058, 18059, 10013]) (by decide +kernel) (orc := rv_no) lw_no hev2 hrc (by simp [hlas]) (vs := [.ref q1, .int (xs 1)]) (rest := [.int z]) ⟨⟨q1, hmn _ _ hq1, rfl⟩, (rv_Vs_mono hmn hvs0)⟩ (Nat.le_of_ble_eq_true rfl) hl.1 dL_law_1469 hw2 ⟨Nat.le_of_ble_eq_true rfl, Nat.le_of_ble_eq_true rfl⟩ rfl (fun o2 ho2 ws3 v3 H2 locs2 hrv2 hw3 hmn2 => ?_)
    rw [h2 o2 ho2] at hrv2
    cases v3 with
    | none => exact hrv2.elim
    | some w2 =>
      cases (show w2 = .int z from hrv2)
      refine lv_icmp_eq (tgt := 1477) hx hb dL_law_1472 (by decide) (fun _ => ?_) (fun q => absurd rfl q)
      exact lw_end C0 hl hw3.2.2.2.1 (Nat.le_of_ble_eq_true rfl) (Nat.le_of_ble_eq_true rfl)
