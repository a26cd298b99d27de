set_option maxHeartbeats 2000000 in
/-- bars -/
theorem lw_k12 {p : Program} {l : Launch} {e : Env} {s : State} {m : MethodId} {below : List Frame} {meth : Method} {c : Code} {b : Nat} {xs : Nat → Int32} {ρ : rv_ρ} {D : va_G} {cA : Nat → ClassId} {L : Nat} (C0 : lw_At p s m meth c b L xs) (hKK : rv_KK ρ (lw_A s) D cA s) {i : Nat} (hi : i + 6 ≤ L) (hL : L ≤ 3072) {h : List rv_C} (hJ0 : lw_J h) {ws : va_W} {H : Heap} {locs : List Loc} {ls : Array Slot} {q0 q1 : Nat} (hw : rv_Wd ρ D cA (lw_A s) s [] h ws H locs) (hq0 : (ws.map Prod.fst)[0]? = some q0) (hq1 : (ws.map Prod.fst)[100]? = some q1) (hl : lv_has ls 4 [(0, .ref b), (1, .ref q0), (2, .ref q1), (3, .int (nI i))]) (kk : ∀ (h2 : List rv_C) (ws2 : va_W) (H2 : Heap) (locs2 : List Loc), lw_J h2 → rv_Wd ρ D cA (lw_A s) s [] h2 ws2 H2 locs2 → (ws2.map Prod.fst)[0]? = some q0 → (ws2.map Prod.fst)[100]? = some q1 → W p l e room_1 s m #[Value.ref b] below meth c H2 locs2 143 52759 (lw_Z below #[Value.ref b] s) (F0 m 1476 ls [])) : W p l e room_1 s m #[Value.ref b] below meth c H locs 143 52759 (lw_Z below #[Value.ref b] s) (F0 m 714 ls []) := by
  obtain ⟨σ0, hJ, hR⟩ := hJ0
  have hts2 := lw_hts C0
  have hx := C0.1
  have hb := C0.2.1
  have hown := C0.2.2.2.2.1
  refine lv_aload_n hx hb dL_law_714 rfl (lv_at hl 1 rfl) ?_
  refine lw_arg C0 (i := i) (j := 1) (pc := 715) (by omega) hL (by decide) dL_law_715 dL_law_716 dL_law_717 dL_law_718 dL_law_719 (lv_at hl 0 rfl) (lv_at hl 3 rfl) hw.2.2.2.1 ?_
  refine lw_arg C0 (i := i) (j := 2) (pc := 720) (by omega) hL (by decide) dL_law_720 dL_law_721 dL_law_722 dL_law_723 dL_law_724 (lv_at hl 0 rfl) (lv_at hl 3 rfl) hw.2.2.2.1 ?_
  have hct := lw_use (l := l) (ρ := ρ) (as := [rv_ref 0, .inl (xs (i + 1)), .inl (xs (i + 2))]) hJ (sx_w204 (sx_tc_all _)) (by decide +kernel) (fun σ hσ => ⟨⟨0, List.Mem.head _, rfl⟩, ⟨_, rfl, (hσ 19001 (by decide) (by decide)).symm, (sx_r32 _).1, (sx_r32 _).2⟩, ⟨_, rfl, (hσ 19002 (by decide) (by decide)).symm, (sx_r32 _).1, (sx_r32 _).2⟩, True.intro⟩)
  refine lw_cV C0 hKK (k := 74) (mi := 140) (ci := 11) (d := 3) (ts := [13095, 13096, 13097, 10001]) (by decide +kernel) (by decide) hct (lw_rcv hJ (by decide) (by decide +kernel) (by decide)) rfl (vs := [.ref q0, .int (xs (i + 1)), .int (xs (i + 2))]) (rest := []) ⟨⟨q0, hq0, rfl⟩, rfl, rfl, True.intro⟩ (Nat.le_of_ble_eq_true rfl) hl.1 dL_law_725 hw ⟨Nat.le_of_ble_eq_true rfl, Nat.le_of_ble_eq_true rfl⟩ rfl (fun o1 ho1 ws2 v1 H1 locs1 hrv1 hw2 hmn => ?_)
  obtain ⟨σ1, hQ1, hJ2⟩ := ho1
  obtain ⟨z1, hz1⟩ := lw_ri_f (by decide +kernel) hQ1
  rw [hz1] at hrv1
  cases v1 with
  | none => exact hrv1.elim
  | some u1 =>
    cases (show u1 = .int z1 from hrv1)
    refine lv_pop hx hb dL_law_728 rfl ?_
    refine lv_aload_n hx hb dL_law_729 rfl (lv_at hl 2 rfl) ?_
    refine lw_arg C0 (i := i) (j := 1) (pc := 730) (by omega) hL (by decide) dL_law_730 dL_law_731 dL_law_732 dL_law_733 dL_law_734 (lv_at hl 0 rfl) (lv_at hl 3 rfl) hw2.2.2.2.1 ?_
    refine lw_arg C0 (i := i) (j := 2) (pc := 735) (by omega) hL (by decide) dL_law_735 dL_law_736 dL_law_737 dL_law_738 dL_law_739 (lv_at hl 0 rfl) (lv_at hl 3 rfl) hw2.2.2.2.1 ?_
    have hct2 := lw_use (l := l) (ρ := ρ) (as := [rv_ref 100, .inl (xs (i + 1)), .inl (xs (i + 2))]) hJ2 (sx_w262 (sx_tc_all _)) (by decide +kernel) (fun σ hσ => ⟨⟨100, List.Mem.head _, rfl⟩, ⟨_, rfl, (hσ 19001 (by decide) (by decide)).symm, (sx_r32 _).1, (sx_r32 _).2⟩, ⟨_, rfl, (hσ 19002 (by decide) (by decide)).symm, (sx_r32 _).1, (sx_r32 _).2⟩, True.intro⟩)
    refine lw_cV C0 hKK (k := 77) (mi := 194) (ci := 12) (d := 3) (ts := [17052, 17053, 17054, 10013]) (by decide +kernel) (by decide) hct2 (lw_rcv hJ2 (by decide) (by decide +kernel) (by decide)) rfl (vs := [.ref q1, .int (xs (i + 1)), .int (xs (i + 2))]) (rest := []) ⟨⟨q1, hmn _ _ hq1, rfl⟩, rfl, rfl, True.intro⟩ (Nat.le_of_ble_eq_true rfl) hl.1 dL_law_740 hw2 ⟨Nat.le_of_ble_eq_true rfl, Nat.le_of_ble_eq_true rfl⟩ rfl (fun o2 ho2 ws3 v2 H2 locs2 hrv2 hw3 hmn2 => ?_)
    obtain ⟨σ2, hQ2, hJ3⟩ := ho2
    obtain ⟨z2, hz2⟩ := lw_ri_f (by decide +kernel) hQ2
    rw [hz2] at hrv2
    cases v2 with
    | none => exact hrv2.elim
    | some u2 =>
      cases (show u2 = .int z2 from hrv2)
      refine lv_pop hx hb dL_law_743 rfl ?_
      refine lv_goto (tgt := 1476) hx hb dL_law_744 (by decide) ?_
      exact kk _ _ _ _ ⟨σ2, hJ3, lw_stay (by decide +kernel) (by decide +kernel) hQ1 hQ2 hR⟩ hw3 (hmn2 _ _ (hmn _ _ hq0)) (hmn2 _ _ (hmn _ _ hq1))
set_option maxHeartbeats 2000000 in
/-- rather -/
theorem lw_k13 {p : Program} {l : Launch} {e : Env} {s : State} {m : MethodId} {below : List Frame} {meth : Method} {c : Code} {b : Nat} {xs : Nat → Int32} {ρ : rv_ρ} {D : va_G} {cA : Nat → ClassId} {L : Nat} (C0 : lw_At p s m meth c b L xs) (hKK : rv_KK ρ (lw_A s) D cA s) {i : Nat} (hi : i + 6 ≤ L) (hL : L ≤ 3072) {h : List rv_C} (hJ0 : lw_J h) {ws : va_W} {H : Heap} {locs : List Loc} {ls : Array Slot} {q0 q1 : Nat} (hw : rv_Wd ρ D cA (lw_A s) s [] h ws H locs) (hq0 : (ws.map Prod.fst)[0]? = some q0) (hq1 : (ws.map Prod.fst)[100]? = some q1) (hl : lv_has ls 4 [(0, .ref b), (1, .ref q0), (2, .ref q1), (3, .int (nI i))]) (kk : ∀ (h2 : List rv_C) (ws2 : va_W) (H2 : Heap) (locs2 : List Loc), lw_J h2 → rv_Wd ρ D cA (lw_A s) s [] h2 ws2 H2 locs2 → (ws2.map Prod.fst)[0]? = some q0 → (ws2.map Prod.fst)[100]? = some q1 → W p l e room_1 s m #[Value.ref b] below meth c H2 locs2 143 52759 (lw_Z below #[Value.ref b] s) (F0 m 1476 ls [])) : W p l e room_1 s m #[Value.ref b] below meth c H locs 143 52759 (lw_Z below #[Value.ref b] s) (F0 m 747 ls []) := by
  obtain ⟨σ0, hJ, hR⟩ := hJ0
  have hts2 := lw_hts C0
  have hx := C0.1
  have hb := C0.2.1
  have hown := C0.2.2.2.2.1
  refine lv_aload_n hx hb dL_law_747 rfl (lv_at hl 1 rfl) ?_
  refine lw_arg C0 (i := i) (j := 1) (pc := 748) (by omega) hL (by decide) dL_law_748 dL_law_749 dL_law_750 dL_law_751 dL_law_752 (lv_at hl 0 rfl) (lv_at hl 3 rfl) hw.2.2.2.1 ?_
  refine lw_arg C0 (i := i) (j := 2) (pc := 753) (by omega) hL (by decide) dL_law_753 dL_law_754 dL_law_755 dL_law_756 dL_law_757 (lv_at hl 0 rfl) (lv_at hl 3 rfl) hw.2.2.2.1 ?_
  refine lw_arg C0 (i := i) (j := 3) (pc := 758) (by omega) hL (by decide) dL_law_758 dL_law_759 dL_law_760 dL_law_761 dL_law_762 (lv_at hl 0 rfl) (lv_at hl 3 rfl) hw.2.2.2.1 ?_
  have hct := lw_use (l := l) (ρ := ρ) (as := [rv_ref 0, .inl (xs (i + 1)), .inl (xs (i + 2)), .inl (xs (i + 3))]) hJ (sx_w224 (sx_tc_all _)) (by decide +kernel) (fun σ hσ => ⟨⟨0, List.Mem.head _, rfl⟩, ⟨_, rfl, (hσ 19001 (by decide) (by decide)).symm, (sx_r32 _).1, (sx_r32 _).2⟩, ⟨_, rfl, (hσ 19002 (by decide) (by decide)).symm, (sx_r32 _).1, (sx_r32 _).2⟩, ⟨_, rfl, (hσ 19003 (by decide) (by decide)).symm, (sx_r32 _).1, (sx_r32 _).2⟩, True.intro⟩)
  refine lw_cV C0 hKK (k := 78) (mi := 167) (ci := 11) (d := 4) (ts := [13103, 13104, 13105, 10001]) (by decide +kernel) (by decide) hct (lw_rcv hJ (by decide) (by decide +kernel) (by decide)) rfl (vs := [.ref q0, .int (xs (i + 1)), .int (xs (i + 2)), .int (xs (i + 3))]) (rest := []) ⟨⟨q0, hq0, rfl⟩, rfl, rfl, rfl, True.intro⟩ (Nat.le_of_ble_eq_true rfl) hl.1 dL_law_763 hw ⟨Nat.le_of_ble_eq_true rfl, Nat.le_of_ble_eq_true rfl⟩ rfl (fun o1 ho1 ws2 v1 H1 locs1 hrv1 hw2 hmn => ?_)
  obtain ⟨σ1, hQ1, hJ2⟩ := ho1
  obtain ⟨z1, hz1⟩ := lw_ri_f (by decide +kernel) hQ1
  rw [hz1] at hrv1
  cases v1 with
  | none => exact hrv1.elim
  | some u1 =>
    cases (show u1 = .int z1 from hrv1)
    refine lv_pop hx hb dL_law_766 rfl ?_
    refine lv_aload_n hx hb dL_law_767 rfl (lv_at hl 2 rfl) ?_
    refine lw_arg C0 (i := i) (j := 1) (pc := 768) (by omega) hL (by decide) dL_law_768 dL_law_769 dL_law_770 dL_law_771 dL_law_772 (lv_at hl 0 rfl) (lv_at hl 3 rfl) hw2.2.2.2.1 ?_
    refine lw_arg C0 (i := i) (j := 2) (pc := 773) (by omega) hL (by decide) dL_law_773 dL_law_774 dL_law_775 dL_law_776 dL_law_777 (lv_at hl 0 rfl) (lv_at hl 3 rfl) hw2.2.2.2.1 ?_
    refine lw_arg C0 (i := i) (j := 3) (pc := 778) (by omega) hL (by decide) dL_law_778 dL_law_779 dL_law_780 dL_law_781 dL_law_782 (lv_at hl 0 rfl) (lv_at hl 3 rfl) hw2.2.2.2.1 ?_
    have hct2 := lw_use (l := l) (ρ := ρ) (as := [rv_ref 100, .inl (xs (i + 1)), .inl (xs (i + 2)), .inl (xs (i + 3))]) hJ2 (sx_w328 (sx_tc_all _)) (by decide +kernel) (fun σ hσ => ⟨⟨100, List.Mem.head _, rfl⟩, ⟨_, rfl, (hσ 19001 (by decide) (by decide)).symm, (sx_r32 _).1, (sx_r32 _).2⟩, ⟨_, rfl, (hσ 19002 (by decide) (by decide)).symm, (sx_r32 _).1, (sx_r32 _).2⟩, ⟨_, rfl, (hσ 19003 (by decide) (by decide)).symm, (sx_r32 _).1, (sx_r32 _).2⟩, True.intro⟩)
    refine lw_cV C0 hKK (k := 82) (mi := 260) (ci := 12) (d := 4) (ts := [17056, 17057, 17058, 10013]) (by decide +kernel) (by decide) hct2 (lw_rcv hJ2 (by decide) (by decide +kernel) (by decide)) rfl (vs := [.ref q1, .int (xs (i + 1)), .int (xs (i + 2)), .int (xs (i + 3))]) (rest := []) ⟨⟨q1, hmn _ _ hq1, rfl⟩, rfl, rfl, rfl, True.intro⟩ (Nat.le_of_ble_eq_true rfl) hl.1 dL_law_783 hw2 ⟨Nat.le_of_ble_eq_true rfl, Nat.le_of_ble_eq_true rfl⟩ rfl (fun o2 ho2 ws3 v2 H2 locs2 hrv2 hw3 hmn2 => ?_)
    obtain ⟨σ2, hQ2, hJ3⟩ := ho2
    obtain ⟨z2, hz2⟩ := lw_ri_f (by decide +kernel) hQ2
    rw [hz2] at hrv2
    cases v2 with
    | none => exact hrv2.elim
    | some u2 =>
      cases (show u2 = .int z2 from hrv2)
      refine lv_pop hx hb dL_law_786 rfl ?_
      refine lv_goto (tgt := 1476) hx hb dL_law_787 (by decide) ?_
      exact kk _ _ _ _ ⟨σ2, hJ3, lw_stay (by decide +kernel) (by decide +kernel) hQ1 hQ2 hR⟩ hw3 (hmn2 _ _ (hmn _ _ hq0)) (hmn2 _ _ (hmn _ _ hq1))
set_option maxHeartbeats 2000000 in
/-- lawful -/
theorem lw_k14 {p : Program} {l : Launch} {e : Env} {s : State} {m : MethodId} {below : List Frame} {meth : Method} {c : Code} {b : Nat} {xs : Nat → Int32} {ρ : rv_ρ} {D : va_G} {cA : Nat → ClassId} {L : Nat} (C0 : lw_At p s m meth c b L xs) (hKK : rv_KK ρ (lw_A s) D cA s) {i : Nat} (hi : i + 6 ≤ L) (hL : L ≤ 3072) {h : List rv_C} (hJ0 : lw_J h) {ws : va_W} {H : Heap} {locs : List Loc} {ls : Array Slot} {q0 q1 : Nat} (hw : rv_Wd ρ D cA (lw_A s) s [] h ws H locs) (hq0 : (ws.map Prod.fst)[0]? = some q0) (hq1 : (ws.map Prod.fst)[100]? = some q1) (hl : lv_has ls 4 [(0, .ref b), (1, .ref q0), (2, .ref q1), (3, .int (nI i))]) (kk : ∀ (h2 : List rv_C) (ws2 : va_W) (H2 : Heap) (locs2 : List Loc), lw_J h2 → rv_Wd ρ D cA (lw_A s) s [] h2 ws2 H2 locs2 → (ws2.map Prod.fst)[0]? = some q0 → (ws2.map Prod.fst)[100]? = some q1 → W p l e room_1 s m #[Value.ref b] below meth c H2 locs2 143 52759 (lw_Z below #[Value.ref b] s) (F0 m 1476 ls [])) : W p l e room_1 s m #[Value.ref b] below meth c H locs 143 52759 (lw_Z below #[Value.ref b] s) (F0 m 790 ls []) := by
  obtain ⟨σ0, hJ, hR⟩ := hJ0
  have hts2 := lw_hts C0
  have hx := C0.1
  have hb := C0.2.1
  have hown := C0.2.2.2.2.1
  refine lv_aload_n hx hb dL_law_790 rfl (lv_at hl 1 rfl) ?_
  refine lw_arg C0 (i := i) (j := 1) (pc := 791) (by omega) hL (by decide) dL_law_791 dL_law_792 dL_law_793 dL_law_794 dL_law_795 (lv_at hl 0 rfl) (lv_at hl 3 rfl) hw.2.2.2.1 ?_
  have hct := lw_use (l := l) (ρ := ρ) (as := [rv_ref 0, .inl (xs (i + 1))]) hJ (sx_w216 (sx_tc_all _)) (by decide +kernel) (fun σ hσ => ⟨⟨0, List.Mem.head _, rfl⟩, ⟨_, rfl, (hσ 19001 (by decide) (by decide)).symm, (sx_r32 _).1, (sx_r32 _).2⟩, True.intro⟩)
  refine lw_cV C0 hKK (k := 83) (mi := 157) (ci := 11) (d := 2) (ts := [13111, 13112, 13113, 10001]) (by decide +kernel) (by decide) hct (lw_rcv hJ (by decide) (by decide +kernel) (by decide)) rfl (vs := [.ref q0, .int (xs (i + 1))]) (rest := []) ⟨⟨q0, hq0, rfl⟩, rfl, True.intro⟩ (Nat.le_of_ble_eq_true rfl) hl.1 dL_law_796 hw ⟨Nat.le_of_ble_eq_true rfl, Nat.le_of_ble_eq_true rfl⟩ rfl (fun o1 ho1 ws2 v1 H1 locs1 hrv1 hw2 hmn => ?_)
  obtain ⟨σ1, hQ1, hJ2⟩ := ho1
  obtain ⟨z1, hz1⟩ := lw_ri_f (by decide +kernel) hQ1
  rw [hz1] at hrv1
  cases v1 with
  | none => exact hrv1.elim
  | some u1 =>
    cases (show u1 = .int z1 from hrv1)
    refine lv_pop hx hb dL_law_799 rfl ?_
    refine lv_aload_n hx hb dL_law_800 rfl (lv_at hl 2 rfl) ?_
    refine lw_arg C0 (i := i) (j := 1) (pc := 801) (by omega) hL (by decide) dL_law_801 dL_law_802 dL_law_803 dL_law_804 dL_law_805 (lv_at hl 0 rfl) (lv_at hl 3 rfl) hw2.2.2.2.1 ?_
    have hct2 := lw_use (l := l) (ρ := ρ) (as := [rv_ref 100, .inl (xs (i + 1))]) hJ2 (sx_w310 (sx_tc_all _)) (by decide +kernel) (fun σ hσ => ⟨⟨100, List.Mem.head _, rfl⟩, ⟨_, rfl, (hσ 19001 (by decide) (by decide)).symm, (sx_r32 _).1, (sx_r32 _).2⟩, True.intro⟩)
    refine lw_cV C0 hKK (k := 86) (mi := 243) (ci := 12) (d := 2) (ts := [17066, 17067, 17068, 10013]) (by decide +kernel) (by decide) hct2 (lw_rcv hJ2 (by decide) (by decide +kernel) (by decide)) rfl (vs := [.ref q1, .int (xs (i + 1))]) (rest := []) ⟨⟨q1, hmn _ _ hq1, rfl⟩, rfl, True.intro⟩ (Nat.le_of_ble_eq_true rfl) hl.1 dL_law_806 hw2 ⟨Nat.le_of_ble_eq_true rfl, Nat.le_of_ble_eq_true rfl⟩ rfl (fun o2 ho2 ws3 v2 H2 locs2 hrv2 hw3 hmn2 => ?_)
    obtain ⟨σ2, hQ2, hJ3⟩ := ho2
    obtain ⟨z2, hz2⟩ := lw_ri_f (by decide +kernel) hQ2
    rw [hz2] at hrv2
    cases v2 with
    | none => exact hrv2.elim
    | some u2 =>
      cases (show u2 = .int z2 from hrv2)
      refine lv_pop hx hb dL_law_809 rfl ?_
      refine lv_goto (tgt := 1476) hx hb dL_law_810 (by decide) ?_
      exact kk _ _ _ _ ⟨σ2, hJ3, lw_stay (by decide +kernel) (by decide +kernel) hQ1 hQ2 hR⟩ hw3 (hmn2 _ _ (hmn _ _ hq0)) (hmn2 _ _ (hmn _ _ hq1))
set_option maxHeartbeats 2000000 in
/-- breaks -/
theorem lw_k15 {p : Program} {l : Launch} {e : Env} {s : State} {m : MethodId} {below : List Frame} {meth : Method} {c : Code} {b : Nat} {xs : Nat → Int32} {ρ : rv_ρ} {D : va_G} {cA : Nat → ClassId} {L : Nat} (C0 : lw_At p s m meth c b L xs) (hKK : rv_KK ρ (lw_A s) D cA s) {i : Nat} (hi : i + 6 ≤ L) (hL : L ≤ 3072) {h : List rv_C} (hJ0 : lw_J h) {ws : va_W} {H : Heap} {locs : List Loc} {ls : Array Slot} {q0 q1 : Nat} (hw : rv_Wd ρ D cA (lw_A s) s [] h ws H locs) (hq0 : (ws.map Prod.fst)[0]? = some q0) (hq1 : (ws.map Prod.fst)[100]? = some q1) (hl : lv_has ls 4 [(0, .ref b), (1, .ref q0), (2, .ref q1), (3, .int (nI i))]) (kk : ∀ (h2 : List rv_C) (ws2 : va_W) (H2 : Heap) (locs2 : List Loc), lw_J h2 → rv_Wd ρ D cA (lw_A s) s [] h2 ws2 H2 locs2 → (ws2.map Prod.fst)[0]? = some q0 → (ws2.map Prod.fst)[100]? = some q1 → W p l e room_1 s m #[Value.ref b] below meth c H2 locs2 143 52759 (lw_Z below #[Value.ref b] s) (F0 m 1476 ls [])) : W p l e room_1 s m #[Value.ref b] below meth c H locs 143 52759 (lw_Z below #[Value.ref b] s) (F0 m 813 ls []) := by
  obtain ⟨σ0, hJ, hR⟩ := hJ0
  have hts2 := lw_hts C0
  have hx := C0.1
  have hb := C0.2.1
  have hown := C0.2.2.2.2.1
  refine lv_aload_n hx hb dL_law_813 rfl (lv_at hl 1 rfl) ?_
  refine lw_arg C0 (i := i) (j := 1) (pc := 814) (by omega) hL (by decide) dL_law_814 dL_law_815 dL_law_816 dL_law_817 dL_law_818 (lv_at hl 0 rfl) (lv_at hl 3 rfl) hw.2.2.2.1 ?_
  refine lw_arg C0 (i := i) (j := 2) (pc := 819) (by omega) hL (by decide) dL_law_819 dL_law_820 dL_law_821 dL_law_822 dL_law_823 (lv_at hl 0 rfl) (lv_at hl 3 rfl) hw.2.2.2.1 ?_
  have hct := lw_use (l := l) (ρ := ρ) (as := [rv_ref 0, .inl (xs (i + 1)), .inl (xs (i + 2))]) hJ (sx_w206 (sx_tc_all _)) (by decide +kernel) (fun σ hσ => ⟨⟨0, List.Mem.head _, rfl⟩, ⟨_, rfl, (hσ 19001 (by decide) (by decide)).symm, (sx_r32 _).1, (sx_r32 _).2⟩, ⟨_, rfl, (hσ 19002 (by decide) (by decide)).symm, (sx_r32 _).1, (sx_r32 _).2⟩, True.intro⟩)
  refine lw_cV C0 hKK (k := 87) (mi := 142) (ci := 11) (d := 3) (ts := [13122, 13123, 13124, 10001]) (by decide +kernel) (by decide) hct (lw_rcv hJ (by decide) (by decide +kernel) (by decide)) rfl (vs := [.ref q0, .int (xs (i + 1)), .int (xs (i + 2))]) (rest := []) ⟨⟨q0, hq0, rfl⟩, rfl, rfl, True.intro⟩ (Nat.le_of_ble_eq_true rfl) hl.1 dL_law_824 hw ⟨Nat.le_of_ble_eq_true rfl, Nat.le_of_ble_eq_true rfl⟩ rfl (fun o1 ho1 ws2 v1 H1 locs1 hrv1 hw2 hmn => ?_)
  obtain ⟨σ1, hQ1, hJ2⟩ := ho1
  obtain ⟨z1, hz1⟩ := lw_ri_f (by decide +kernel) hQ1
  rw [hz1] at hrv1
  cases v1 with
  | none => exact hrv1.elim
  | some u1 =>
    cases (show u1 = .int z1 from hrv1)
    refine lv_pop hx hb dL_law_827 rfl ?_
    refine lv_aload_n hx hb dL_law_828 rfl (lv_at hl 2 rfl) ?_
    refine lw_arg C0 (i := i) (j := 1) (pc := 829) (by omega) hL (by decide) dL_law_829 dL_law_830 dL_law_831 dL_law_832 dL_law_833 (lv_at hl 0 rfl) (lv_at hl 3 rfl) hw2.2.2.2.1 ?_
    refine lw_arg C0 (i := i) (j := 2) (pc := 834) (by omega) hL (by decide) dL_law_834 dL_law_835 dL_law_836 dL_law_837 dL_law_838 (lv_at hl 0 rfl) (lv_at hl 3 rfl) hw2.2.2.2.1 ?_
    have hct2 := lw_use (l := l) (ρ := ρ) (as := [rv_ref 100, .inl (xs (i + 1)), .inl (xs (i + 2))]) hJ2 (sx_w282 (sx_tc_all _)) (by decide +kernel) (fun σ hσ => ⟨⟨100, List.Mem.head _, rfl⟩, ⟨_, rfl, (hσ 19001 (by decide) (by decide)).symm, (sx_r32 _).1, (sx_r32 _).2⟩, ⟨_, rfl, (hσ 19002 (by decide) (by decide)).symm, (sx_r32 _).1, (sx_r32 _).2⟩, True.intro⟩)
    refine lw_cV C0 hKK (k := 90) (mi := 201) (ci := 12) (d := 3) (ts := [17074, 17075, 17076, 10013]) (by decide +kernel) (by decide) hct2 (lw_rcv hJ2 (by decide) (by decide +kernel) (by decide)) rfl (vs := [.ref q1, .int (xs (i + 1)), .int (xs (i + 2))]) (rest := []) ⟨⟨q1, hmn _ _ hq1, rfl⟩, rfl, rfl, True.intro⟩ (Nat.le_of_ble_eq_true rfl) hl.1 dL_law_839 hw2 ⟨Nat.le_of_ble_eq_true rfl, Nat.le_of_ble_eq_true rfl⟩ rfl (fun o2 ho2 ws3 v2 H2 locs2 hrv2 hw3 hmn2 => ?_)
    obtain ⟨σ2, hQ2, hJ3⟩ := ho2
    obtain ⟨z2, hz2⟩ := lw_ri_f (by decide +kernel) hQ2
    rw [hz2] at hrv2
    cases v2 with
    | none => exact hrv2.elim
    | some u2 =>
      cases (show u2 = .int z2 from hrv2)
      refine lv_pop hx hb dL_law_842 rfl ?_
      refine lv_goto (tgt := 1476) hx hb dL_law_843 (by decide) ?_
      exact kk _ _ _ _ ⟨σ2, hJ3, lw_stay (by decide +kernel) (by decide +kernel) hQ1 hQ2 hR⟩ hw3 (hmn2 _ _ (hmn _ _ hq0)) (hmn2 _ _ (hmn _ _ hq1))
set_option maxHeartbeats 2000000 in
/-- first -/
theorem lw_k16 {p : Program} {l : Launch} {e : Env} {s : State} {m : MethodId} {below : List Frame} {meth : Method} {c : Code} {b : Nat} {xs : Nat → Int32} {ρ : rv_ρ} {D : va_G} {cA : Nat → ClassId} {L : Nat} (C0 : lw_At p s m meth c b L xs) (hKK : rv_KK ρ (lw_A s) D cA s) {i : Nat} (hi : i + 6 ≤ L) (hL : L ≤ 3072) {h : List rv_C} (hJ0 : lw_J h) {ws : va_W} {H : Heap} {locs : List Loc} {ls : Array Slot} {q0 q1 : Nat} (hw : rv_Wd ρ D cA (lw_A s) s [] h ws H locs) (hq0 : (ws.map Prod.fst)[0]? = some q0) (hq1 : (ws.map Prod.fst)[100]? = some q1) (hl : lv_has ls 4 [(0, .ref b), (1, .ref q0), (2, .ref q1), (3, .int (nI i))]) (kk : ∀ (h2 : List rv_C) (ws2 : va_W) (H2 : Heap) (locs2 : List Loc), lw_J h2 → rv_Wd ρ D cA (lw_A s) s [] h2 ws2 H2 locs2 → (ws2.map Prod.fst)[0]? = some q0 → (ws2.map Prod.fst)[100]? = some q1 → W p l e room_1 s m #[Value.ref b] below meth c H2 locs2 143 52759 (lw_Z below #[Value.ref b] s) (F0 m 1476 ls [])) : W p l e room_1 s m #[Value.ref b] below meth c H locs 143 52759 (lw_Z below #[Value.ref b] s) (F0 m 846 ls []) := by
  obtain ⟨σ0, hJ, hR⟩ := hJ0
  have hts2 := lw_hts C0
  have hx := C0.1
  have hb := C0.2.1
  have hown := C0.2.2.2.2.1
  refine lv_aload_n hx hb dL_law_846 rfl (lv_at hl 1 rfl) ?_
  refine lw_arg C0 (i := i) (j := 1) (pc := 847) (by omega) hL (by decide) dL_law_847 dL_law_848 dL_law_849 dL_law_850 dL_law_851 (lv_at hl 0 rfl) (lv_at hl 3 rfl) hw.2.2.2.1 ?_
  refine lw_arg C0 (i := i) (j := 2) (pc := 852) (by omega) hL (by decide) dL_law_852 dL_law_853 dL_law_854 dL_law_855 dL_law_856 (lv_at hl 0 rfl) (lv_at hl 3 rfl) hw.2.2.2.1 ?_
  refine lw_arg C0 (i := i) (j := 3) (pc := 857) (by omega) hL (by decide) dL_law_857 dL_law_858 dL_law_859 dL_law_860 dL_law_861 (lv_at hl 0 rfl) (lv_at hl 3 rfl) hw.2.2.2.1 ?_
  have hct := lw_use (l := l) (ρ := ρ) (as := [rv_ref 0, .inl (xs (i + 1)), .inl (xs (i + 2)), .inl (xs (i + 3))]) hJ (sx_w210 (sx_tc_all _)) (by decide +kernel) (fun σ hσ => ⟨⟨0, List.Mem.head _, rfl⟩, ⟨_, rfl, (hσ 19001 (by decide) (by decide)).symm, (sx_r32 _).1, (sx_r32 _).2⟩, ⟨_, rfl, (hσ 19002 (by decide) (by decide)).symm, (sx_r32 _).1, (sx_r32 _).2⟩, ⟨_, rfl, (hσ 19003 (by decide) (by decide)).symm, (sx_r32 _).1, (sx_r32 _).2⟩, True.intro⟩)
  refine lw_cV C0 hKK (k := 91) (mi := 146) (ci := 11) (d := 4) (ts := [14000, 14001, 14002, 10001]) (by decide +kernel) (by decide) hct (lw_rcv hJ (by decide) (by decide +kernel) (by decide)) rfl (vs := [.ref q0, .int (xs (i + 1)), .int (xs (i + 2)), .int (xs (i + 3))]) (rest := []) ⟨⟨q0, hq0, rfl⟩, rfl, rfl, rfl, True.intro⟩ (Nat.le_of_ble_eq_true rfl) hl.1 dL_law_862 hw ⟨Nat.le_of_ble_eq_true rfl, Nat.le_of_ble_eq_true rfl⟩ rfl (fun o1 ho1 ws2 v1 H1 locs1 hrv1 hw2 hmn => ?_)
  obtain ⟨σ1, hQ1, hJ2⟩ := ho1
  obtain ⟨z1, hz1⟩ := lw_ri_f (by decide +kernel) hQ1
  rw [hz1] at hrv1
  cases v1 with
  | none => exact hrv1.elim
  | some u1 =>
    cases (show u1 = .int z1 from hrv1)
    refine lv_pop hx hb dL_law_865 rfl ?_
    refine lv_aload_n hx hb dL_law_866 rfl (lv_at hl 2 rfl) ?_
    refine lw_arg C0 (i := i) (j := 1) (pc := 867) (by omega) hL (by decide) dL_law_867 dL_law_868 dL_law_869 dL_law_870 dL_law_871 (lv_at hl 0 rfl) (lv_at hl 3 rfl) hw2.2.2.2.1 ?_
    refine lw_arg C0 (i := i) (j := 2) (pc := 872) (by omega) hL (by decide) dL_law_872 dL_law_873 dL_law_874 dL_law_875 dL_law_876 (lv_at hl 0 rfl) (lv_at hl 3 rfl) hw2.2.2.2.1 ?_
    refine lw_arg C0 (i := i) (j := 3) (pc := 877) (by omega) hL (by decide) dL_law_877 dL_law_878 dL_law_879 dL_law_880 dL_law_881 (lv_at hl 0 rfl) (lv_at hl 3 rfl) hw2.2.2.2.1 ?_
    have hct2 := lw_use (l := l) (ρ := ρ) (as := [rv_ref 100, .inl (xs (i + 1)), .inl (xs (i + 2)), .inl (xs (i + 3))]) hJ2 (sx_w296 (sx_tc_all _)) (by decide +kernel) (fun σ hσ => ⟨⟨100, List.Mem.head _, rfl⟩, ⟨_, rfl, (hσ 19001 (by decide) (by decide)).symm, (sx_r32 _).1, (sx_r32 _).2⟩, ⟨_, rfl, (hσ 19002 (by decide) (by decide)).symm, (sx_r32 _).1, (sx_r32 _).2⟩, ⟨_, rfl, (hσ 19003 (by decide) (by decide)).symm, (sx_r32 _).1, (sx_r32 _).2⟩, True.intro⟩)
    refine lw_cV C0 hKK (k := 94) (mi := 215) (ci := 12) (d := 4) (ts := [17134, 17135, 17136, 10013]) (by decide +kernel) (by decide) hct2 (lw_rcv hJ2 (by decide) (by decide +kernel) (by decide)) rfl (vs := [.ref q1, .int (xs (i + 1)), .int (xs (i + 2)), .int (xs (i + 3))]) (rest := []) ⟨⟨q1, hmn _ _ hq1, rfl⟩, rfl, rfl, rfl, True.intro⟩ (Nat.le_of_ble_eq_true rfl) hl.1 dL_law_882 hw2 ⟨Nat.le_of_ble_eq_true rfl, Nat.le_of_ble_eq_true rfl⟩ rfl (fun o2 ho2 ws3 v2 H2 locs2 hrv2 hw3 hmn2 => ?_)
    obtain ⟨σ2, hQ2, hJ3⟩ := ho2
    obtain ⟨z2, hz2⟩ := lw_ri_f (by decide +kernel) hQ2
    rw [hz2] at hrv2
    cases v2 with
    | none => exact hrv2.elim
    | some u2 =>
      cases (show u2 = .int z2 from hrv2)
      refine lv_pop hx hb dL_law_885 rfl ?_
      refine lv_goto (tgt := 1476) hx hb dL_law_886 (by decide) ?_
      exact kk _ _ _ _ ⟨σ2, hJ3, lw_stay (by decide +kernel) (by decide +kernel) hQ1 hQ2 hR⟩ hw3 (hmn2 _ _ (hmn _ _ hq0)) (hmn2 _ _ (hmn _ _ hq1))
set_option maxHeartbeats 2000000 in
/-- step -/
theorem lw_k17 {p : Program} {l : Launch} {e : Env} {s : State} {m : MethodId} {below : List Frame} {meth : Method} {c : Code} {b : Nat} {xs : Nat → Int32} {ρ : rv_ρ} {D : va_G} {cA : Nat → ClassId} {L : Nat} (C0 : lw_At p s m meth c b L xs) (hKK : rv_KK ρ (lw_A s) D cA s) {i : Nat} (hi : i + 6 ≤ L) (hL : L ≤ 3072) {h : List rv_C} (hJ0 : lw_J h) {ws : va_W} {H : Heap} {locs : List Loc} {ls : Array Slot} {q0 q1 : Nat} (hw : rv_Wd ρ D cA (lw_A s) s [] h ws H locs) (hq0 : (ws.map Prod.fst)[0]? = some q0) (hq1 : (ws.map Prod.fst)[100]? = some q1) (hl : lv_has ls 4 [(0, .ref b), (1, .ref q0), (2, .ref q1), (3, .int (nI i))]) (kk : ∀ (h2 : List rv_C) (ws2 : va_W) (H2 : Heap) (locs2 : List Loc), lw_J h2 → rv_Wd ρ D cA (lw_A s) s [] h2 ws2 H2 locs2 → (ws2.map Prod.fst)[0]? = some q0 → (ws2.map Prod.fst)[100]? = some q1 → W p l e room_1 s m #[Value.ref b] below meth c H2 locs2 143 52759 (lw_Z below #[Value.ref b] s) (F0 m 1476 ls [])) : W p l e room_1 s m #[Value.ref b] below meth c H locs 143 52759 (lw_Z below #[Value.ref b] s) (F0 m 889 ls []) := by
  obtain ⟨σ0, hJ, hR⟩ := hJ0
  have hts2 := lw_hts C0
  have hx := C0.1
  have hb := C0.2.1
  have hown := C0.2.2.2.2.1
  refine lv_aload_n hx hb dL_law_889 rfl (lv_at hl 1 rfl) ?_
  refine lw_arg C0 (i := i) (j := 1) (pc := 890) (by omega) hL (by decide) dL_law_890 dL_law_891 dL_law_892 dL_law_893 dL_law_894 (lv_at hl 0 rfl) (lv_at hl 3 rfl) hw.2.2.2.1 ?_
  refine lw_arg C0 (i := i) (j := 2) (pc := 895) (by omega) hL (by decide) dL_law_895 dL_law_896 dL_law_897 dL_law_898 dL_law_899 (lv_at hl 0 rfl) (lv_at hl 3 rfl) hw.2.2.2.1 ?_
  have hct := lw_use (l := l) (ρ := ρ) (as := [rv_ref 0, .inl (xs (i + 1)), .inl (xs (i + 2))]) hJ (sx_w238 (sx_tc_all _)) (by decide +kernel) (fun σ hσ => ⟨⟨0, List.Mem.head _, rfl⟩, ⟨_, rfl, (hσ 19001 (by decide) (by decide)).symm, (sx_r32 _).1, (sx_r32 _).2⟩, ⟨_, rfl, (hσ 19002 (by decide) (by decide)).symm, (sx_r32 _).1, (sx_r32 _).2⟩, True.intro⟩)
  refine lw_cV C0 hKK (k := 95) (mi := 175) (ci := 11) (d := 3) (ts := [14004, 14005, 14006, 10001]) (by decide +kernel) (by decide) hct (lw_rcv hJ (by decide) (by decide +kernel) (by decide)) rfl (vs := [.ref q0, .int (xs (i + 1)), .int (xs (i + 2))]) (rest := []) ⟨⟨q0, hq0, rfl⟩, rfl, rfl, True.intro⟩ (Nat.le_of_ble_eq_true rfl) hl.1 dL_law_900 hw ⟨Nat.le_of_ble_eq_true rfl, Nat.le_of_ble_eq_true rfl⟩ rfl (fun o1 ho1 ws2 v1 H1 locs1 hrv1 hw2 hmn => ?_)
  obtain ⟨σ1, hQ1, hJ2⟩ := ho1
  obtain ⟨z1, hz1⟩ := lw_ri_f (by decide +kernel) hQ1
  rw [hz1] at hrv1
  cases v1 with
  | none => exact hrv1.elim
  | some u1 =>
    cases (show u1 = .int z1 from hrv1)
    refine lv_pop hx hb dL_law_903 rfl ?_
    refine lv_aload_n hx hb dL_law_904 rfl (lv_at hl 2 rfl) ?_
    refine lw_arg C0 (i := i) (j := 1) (pc := 905) (by omega) hL (by decide) dL_law_905 dL_law_906 dL_law_907 dL_law_908 dL_law_909 (lv_at hl 0 rfl) (lv_at hl 3 rfl) hw2.2.2.2.1 ?_
    refine lw_arg C0 (i := i) (j := 2) (pc := 910) (by omega) hL (by decide) dL_law_910 dL_law_911 dL_law_912 dL_law_913 dL_law_914 (lv_at hl 0 rfl) (lv_at hl 3 rfl) hw2.2.2.2.1 ?_
    have hct2 := lw_use (l := l) (ρ := ρ) (as := [rv_ref 100, .inl (xs (i + 1)), .inl (xs (i + 2))]) hJ2 (sx_w339 (sx_tc_all _)) (by decide +kernel) (fun σ hσ => ⟨⟨100, List.Mem.head _, rfl⟩, ⟨_, rfl, (hσ 19001 (by decide) (by decide)).symm, (sx_r32 _).1, (sx_r32 _).2⟩, ⟨_, rfl, (hσ 19002 (by decide) (by decide)).symm, (sx_r32 _).1, (sx_r32 _).2⟩, True.intro⟩)
    refine lw_cV C0 hKK (k := 99) (mi := 275) (ci := 12) (d := 3) (ts := [17138, 17139, 17140, 10013]) (by decide +kernel) (by decide) hct2 (lw_rcv hJ2 (by decide) (by decide +kernel) (by decide)) rfl (vs := [.ref q1, .int (xs (i + 1)), .int (xs (i + 2))]) (rest := []) ⟨⟨q1, hmn _ _ hq1, rfl⟩, rfl, rfl, True.intro⟩ (Nat.le_of_ble_eq_true rfl) hl.1 dL_law_915 hw2 ⟨Nat.le_of_ble_eq_true rfl, Nat.le_of_ble_eq_true rfl⟩ rfl (fun o2 ho2 ws3 v2 H2 locs2 hrv2 hw3 hmn2 => ?_)
    obtain ⟨σ2, hQ2, hJ3⟩ := ho2
    obtain ⟨z2, hz2⟩ := lw_ri_f (by decide +kernel) hQ2
    rw [hz2] at hrv2
    cases v2 with
    | none => exact hrv2.elim
    | some u2 =>
      cases (show u2 = .int z2 from hrv2)
      refine lv_pop hx hb dL_law_918 rfl ?_
      refine lv_goto (tgt := 1476) hx hb dL_law_919 (by decide) ?_
      exact kk _ _ _ _ ⟨σ2, hJ3, lw_stay (by decide +kernel) (by decide +kernel) hQ1 hQ2 hR⟩ hw3 (hmn2 _ _ (hmn _ _ hq0)) (hmn2 _ _ (hmn _ _ hq1))
set_option maxHeartbeats 2000000 in
/-- run -/
theorem lw_k18 {p : Program} {l : Launch} {e : Env} {s : State} {m : MethodId} {below : List Frame} {meth : Method} {c : Code} {b : Nat} {xs : Nat → Int32} {ρ : rv_ρ} {D : va_G} {cA : Nat → ClassId} {L : Nat} (C0 : lw_At p s m meth c b L xs) (hKK : rv_KK ρ (lw_A s) D cA s) {i : Nat} (hi : i + 6 ≤ L) (hL : L ≤ 3072) {h : List rv_C} (hJ0 : lw_J h) {ws : va_W} {H : Heap} {locs : List Loc} {ls : Array Slot} {q0 q1 : Nat} (hw : rv_Wd ρ D cA (lw_A s) s [] h ws H locs) (hq0 : (ws.map Prod.fst)[0]? = some q0) (hq1 : (ws.map Prod.fst)[100]? = some q1) (hl : lv_has ls 4 [(0, .ref b), (1, .ref q0), (2, .ref q1), (3, .int (nI i))]) (kk : ∀ (h2 : List rv_C) (ws2 : va_W) (H2 : Heap) (locs2 : List Loc), lw_J h2 → rv_Wd ρ D cA (lw_A s) s [] h2 ws2 H2 locs2 → (ws2.map Prod.fst)[0]? = some q0 → (ws2.map Prod.fst)[100]? = some q1 → W p l e room_1 s m #[Value.ref b] below meth c H2 locs2 143 52759 (lw_Z below #[Value.ref b] s) (F0 m 1476 ls [])) : W p l e room_1 s m #[Value.ref b] below meth c H locs 143 52759 (lw_Z below #[Value.ref b] s) (F0 m 922 ls []) := by
  obtain ⟨σ0, hJ, hR⟩ := hJ0
  have hts2 := lw_hts C0
  have hx := C0.1
  have hb := C0.2.1
  have hown := C0.2.2.2.2.1
  refine lv_aload_n hx hb dL_law_922 rfl (lv_at hl 1 rfl) ?_
  refine lw_arg C0 (i := i) (j := 1) (pc := 923) (by omega) hL (by decide) dL_law_923 dL_law_924 dL_law_925 dL_law_926 dL_law_927 (lv_at hl 0 rfl) (lv_at hl 3 rfl) hw.2.2.2.1 ?_
  refine lw_arg C0 (i := i) (j := 2) (pc := 928) (by omega) hL (by decide) dL_law_928 dL_law_929 dL_law_930 dL_law_931 dL_law_932 (lv_at hl 0 rfl) (lv_at hl 3 rfl) hw.2.2.2.1 ?_
  refine lw_arg C0 (i := i) (j := 3) (pc := 933) (by omega) hL (by decide) dL_law_933 dL_law_934 dL_law_935 dL_law_936 dL_law_937 (lv_at hl 0 rfl) (lv_at hl 3 rfl) hw.2.2.2.1 ?_
  have hct := lw_use (l := l) (ρ := ρ) (as := [rv_ref 0, .inl (xs (i + 1)), .inl (xs (i + 2)), .inl (xs (i + 3))]) hJ (sx_w234 (sx_tc_all _)) (by decide +kernel) (fun σ hσ => ⟨⟨0, List.Mem.head _, rfl⟩, ⟨_, rfl, (hσ 19001 (by decide) (by decide)).symm, (sx_r32 _).1, (sx_r32 _).2⟩, ⟨_, rfl, (hσ 19002 (by decide) (by decide)).symm, (sx_r32 _).1, (sx_r32 _).2⟩, ⟨_, rfl, (hσ 19003 (by decide) (by decide)).symm, (sx_r32 _).1, (sx_r32 _).2⟩, True.intro⟩)
  refine lw_cV C0 hKK (k := 100) (mi := 171) (ci := 11) (d := 4) (ts := [14029, 14030, 14031, 10001]) (by decide +kernel) (by decide) hct (lw_rcv hJ (by decide) (by decide +kernel) (by decide)) rfl (vs := [.ref q0, .int (xs (i + 1)), .int (xs (i + 2)), .int (xs (i + 3))]) (rest := []) ⟨⟨q0, hq0, rfl⟩, rfl, rfl, rfl, True.intro⟩ (Nat.le_of_ble_eq_true rfl) hl.1 dL_law_938 hw ⟨Nat.le_of_ble_eq_true rfl, Nat.le_of_ble_eq_true rfl⟩ rfl (fun o1 ho1 ws2 v1 H1 locs1 hrv1 hw2 hmn => ?_)
  obtain ⟨σ1, hQ1, hJ2⟩ := ho1
  obtain ⟨z1, hz1⟩ := lw_ri_f (by decide +kernel) hQ1
  rw [hz1] at hrv1
  cases v1 with
  | none => exact hrv1.elim
  | some u1 =>
    cases (show u1 = .int z1 from hrv1)
    refine lv_pop hx hb dL_law_941 rfl ?_
    refine lv_aload_n hx hb dL_law_942 rfl (lv_at hl 2 rfl) ?_
    refine lw_arg C0 (i := i) (j := 1) (pc := 943) (by omega) hL (by decide) dL_law_943 dL_law_944 dL_law_945 dL_law_946 dL_law_947 (lv_at hl 0 rfl) (lv_at hl 3 rfl) hw2.2.2.2.1 ?_
    refine lw_arg C0 (i := i) (j := 2) (pc := 948) (by omega) hL (by decide) dL_law_948 dL_law_949 dL_law_950 dL_law_951 dL_law_952 (lv_at hl 0 rfl) (lv_at hl 3 rfl) hw2.2.2.2.1 ?_
    refine lw_arg C0 (i := i) (j := 3) (pc := 953) (by omega) hL (by decide) dL_law_953 dL_law_954 dL_law_955 dL_law_956 dL_law_957 (lv_at hl 0 rfl) (lv_at hl 3 rfl) hw2.2.2.2.1 ?_
    have hct2 := lw_use (l := l) (ρ := ρ) (as := [rv_ref 100, .inl (xs (i + 1)), .inl (xs (i + 2)), .inl (xs (i + 3))]) hJ2 (sx_w332 (sx_tc_all _)) (by decide +kernel) (fun σ hσ => ⟨⟨100, List.Mem.head _, rfl⟩, ⟨_, rfl, (hσ 19001 (by decide) (by decide)).symm, (sx_r32 _).1, (sx_r32 _).2⟩, ⟨_, rfl, (hσ 19002 (by decide) (by decide)).symm, (sx_r32 _).1, (sx_r32 _).2⟩, ⟨_, rfl, (hσ 19003 (by decide) (by decide)).symm, (sx_r32 _).1, (sx_r32 _).2⟩, True.intro⟩)
    refine lw_cV C0 hKK (k := 103) (mi := 267) (ci := 12) (d := 4) (ts := [17150, 17151, 17152, 10013]) (by decide +kernel) (by decide) hct2 (lw_rcv hJ2 (by decide) (by decide +kernel) (by decide)) rfl (vs := [.ref q1, .int (xs (i + 1)), .int (xs (i + 2)), .int (xs (i + 3))]) (rest := []) ⟨⟨q1, hmn _ _ hq1, rfl⟩, rfl, rfl, rfl, True.intro⟩ (Nat.le_of_ble_eq_true rfl) hl.1 dL_law_958 hw2 ⟨Nat.le_of_ble_eq_true rfl, Nat.le_of_ble_eq_true rfl⟩ rfl (fun o2 ho2 ws3 v2 H2 locs2 hrv2 hw3 hmn2 => ?_)
    obtain ⟨σ2, hQ2, hJ3⟩ := ho2
    obtain ⟨z2, hz2⟩ := lw_ri_f (by decide +kernel) hQ2
    rw [hz2] at hrv2
    cases v2 with
    | none => exact hrv2.elim
    | some u2 =>
      cases (show u2 = .int z2 from hrv2)
      refine lv_pop hx hb dL_law_961 rfl ?_
      refine lv_goto (tgt := 1476) hx hb dL_law_962 (by decide) ?_
      exact kk _ _ _ _ ⟨σ2, hJ3, lw_stay (by decide +kernel) (by decide +kernel) hQ1 hQ2 hR⟩ hw3 (hmn2 _ _ (hmn _ _ hq0)) (hmn2 _ _ (hmn _ _ hq1))
set_option maxHeartbeats 2000000 in
/-- ran -/
theorem lw_k19 {p : Program} {l : Launch} {e : Env} {s : State} {m : MethodId} {below : List Frame} {meth : Method} {c : Code} {b : Nat} {xs : Nat → Int32} {ρ : rv_ρ} {D : va_G} {cA : Nat → ClassId} {L : Nat} (C0 : lw_At p s m meth c b L xs) (hKK : rv_KK ρ (lw_A s) D cA s) {i : Nat} (hi : i + 6 ≤ L) (hL : L ≤ 3072) {h : List rv_C} (hJ0 : lw_J h) {ws : va_W} {H : Heap} {locs : List Loc} {ls : Array Slot} {q0 q1 : Nat} (hw : rv_Wd ρ D cA (lw_A s) s [] h ws H locs) (hq0 : (ws.map Prod.fst)[0]? = some q0) (hq1 : (ws.map Prod.fst)[100]? = some q1) (hl : lv_has ls 4 [(0, .ref b), (1, .ref q0), (2, .ref q1), (3, .int (nI i))]) (kk : ∀ (h2 : List rv_C) (ws2 : va_W) (H2 : Heap) (locs2 : List Loc), lw_J h2 → rv_Wd ρ D cA (lw_A s) s [] h2 ws2 H2 locs2 → (ws2.map Prod.fst)[0]? = some q0 → (ws2.map Prod.fst)[100]? = some q1 → W p l e room_1 s m #[Value.ref b] below meth c H2 locs2 143 52759 (lw_Z below #[Value.ref b] s) (F0 m 1476 ls [])) : W p l e room_1 s m #[Value.ref b] below meth c H locs 143 52759 (lw_Z below #[Value.ref b] s) (F0 m 965 ls []) := by
  obtain ⟨σ0, hJ, hR⟩ := hJ0
  have hts2 := lw_hts C0
  have hx := C0.1
  have hb := C0.2.1
  have hown := C0.2.2.2.2.1
  refine lv_aload_n hx hb dL_law_965 rfl (lv_at hl 1 rfl) ?_
  refine lw_arg C0 (i := i) (j := 1) (pc := 966) (by omega) hL (by decide) dL_law_966 dL_law_967 dL_law_968 dL_law_969 dL_law_970 (lv_at hl 0 rfl) (lv_at hl 3 rfl) hw.2.2.2.1 ?_
  have hct := lw_use (l := l) (ρ := ρ) (as := [rv_ref 0, .inl (xs (i + 1))]) hJ (sx_w223 (sx_tc_all _)) (by decide +kernel) (fun σ hσ => ⟨⟨0, List.Mem.head _, rfl⟩, ⟨_, rfl, (hσ 19001 (by decide) (by decide)).symm, (sx_r32 _).1, (sx_r32 _).2⟩, True.intro⟩)
  refine lw_cV C0 hKK (k := 104) (mi := 166) (ci := 11) (d := 2) (ts := [14041, 14042, 14043, 10001]) (by decide +kernel) (by decide) hct (lw_rcv hJ (by decide) (by decide +kernel) (by decide)) rfl (vs := [.ref q0, .int (xs (i + 1))]) (rest := []) ⟨⟨q0, hq0, rfl⟩, rfl, True.intro⟩ (Nat.le_of_ble_eq_true rfl) hl.1 dL_law_971 hw ⟨Nat.le_of_ble_eq_true rfl, Nat.le_of_ble_eq_true rfl⟩ rfl (fun o1 ho1 ws2 v1 H1 locs1 hrv1 hw2 hmn => ?_)
  obtain ⟨σ1, hQ1, hJ2⟩ := ho1
  obtain ⟨z1, hz1⟩ := lw_ri_f (by decide +kernel) hQ1
  rw [hz1] at hrv1
  cases v1 with
  | none => exact hrv1.elim
  | some u1 =>
    cases (show u1 = .int z1 from hrv1)
    refine lv_pop hx hb dL_law_974 rfl ?_
    refine lv_aload_n hx hb dL_law_975 rfl (lv_at hl 2 rfl) ?_
    refine lw_arg C0 (i := i) (j := 1) (pc := 976) (by omega) hL (by decide) dL_law_976 dL_law_977 dL_law_978 dL_law_979 dL_law_980 (lv_at hl 0 rfl) (lv_at hl 3 rfl) hw2.2.2.2.1 ?_
    have hct2 := lw_use (l := l) (ρ := ρ) (as := [rv_ref 100, .inl (xs (i + 1))]) hJ2 (sx_w327 (sx_tc_all _)) (by decide +kernel) (fun σ hσ => ⟨⟨100, List.Mem.head _, rfl⟩, ⟨_, rfl, (hσ 19001 (by decide) (by decide)).symm, (sx_r32 _).1, (sx_r32 _).2⟩, True.intro⟩)
    refine lw_cV C0 hKK (k := 107) (mi := 259) (ci := 12) (d := 2) (ts := [17158, 17159, 17160, 10013]) (by decide +kernel) (by decide) hct2 (lw_rcv hJ2 (by decide) (by decide +kernel) (by decide)) rfl (vs := [.ref q1, .int (xs (i + 1))]) (rest := []) ⟨⟨q1, hmn _ _ hq1, rfl⟩, rfl, True.intro⟩ (Nat.le_of_ble_eq_true rfl) hl.1 dL_law_981 hw2 ⟨Nat.le_of_ble_eq_true rfl, Nat.le_of_ble_eq_true rfl⟩ rfl (fun o2 ho2 ws3 v2 H2 locs2 hrv2 hw3 hmn2 => ?_)
    obtain ⟨σ2, hQ2, hJ3⟩ := ho2
    obtain ⟨z2, hz2⟩ := lw_ri_f (by decide +kernel) hQ2
    rw [hz2] at hrv2
    cases v2 with
    | none => exact hrv2.elim
    | some u2 =>
      cases (show u2 = .int z2 from hrv2)
      refine lv_pop hx hb dL_law_984 rfl ?_
      refine lv_goto (tgt := 1476) hx hb dL_law_985 (by decide) ?_
      exact kk _ _ _ _ ⟨σ2, hJ3, lw_stay (by decide +kernel) (by decide +kernel) hQ1 hQ2 hR⟩ hw3 (hmn2 _ _ (hmn _ _ hq0)) (hmn2 _ _ (hmn _ _ hq1))
set_option maxHeartbeats 2000000 in
/-- count -/
theorem lw_k20 {p : Program} {l : Launch} {e : Env} {s : State} {m : MethodId} {below : List Frame} {meth : Method} {c : Code} {b : Nat} {xs : Nat → Int32} {ρ : rv_ρ} {D : va_G} {cA : Nat → ClassId} {L : Nat} (C0 : lw_At p s m meth c b L xs) (hKK : rv_KK ρ (lw_A s) D cA s) {i : Nat} (hi : i + 6 ≤ L) (hL : L ≤ 3072) {h : List rv_C} (hJ0 : lw_J h) {ws : va_W} {H : Heap} {locs : List Loc} {ls : Array Slot} {q0 q1 : Nat} (hw : rv_Wd ρ D cA (lw_A s) s [] h ws H locs) (hq0 : (ws.map Prod.fst)[0]? = some q0) (hq1 : (ws.map Prod.fst)[100]? = some q1) (hl : lv_has ls 4 [(0, .ref b), (1, .ref q0), (2, .ref q1), (3, .int (nI i))]) (kk : ∀ (h2 : List rv_C) (ws2 : va_W) (H2 : Heap) (locs2 : List Loc), lw_J h2 → rv_Wd ρ D cA (lw_A s) s [] h2 ws2 H2 locs2 → (ws2.map Prod.fst)[0]? = some q0 → (ws2.map Prod.fst)[100]? = some q1 → W p l e room_1 s m #[Value.ref b] below meth c H2 locs2 143 52759 (lw_Z below #[Value.ref b] s) (F0 m 1476 ls [])) : W p l e room_1 s m #[Value.ref b] below meth c H locs 143 52759 (lw_Z below #[Value.ref b] s) (F0 m 988 ls []) := by
  obtain ⟨σ0, hJ, hR⟩ := hJ0
  have hts2 := lw_hts C0
  have hx := C0.1
  have hb := C0.2.1
  have hown := C0.2.2.2.2.1
  refine lv_aload_n hx hb dL_law_988 rfl (lv_at hl 1 rfl) ?_
  refine lw_arg C0 (i := i) (j := 1) (pc := 989) (by omega) hL (by decide) dL_law_989 dL_law_990 dL_law_991 dL_law_992 dL_law_993 (lv_at hl 0 rfl) (lv_at hl 3 rfl) hw.2.2.2.1 ?_
  have hct := lw_use (l := l) (ρ := ρ) (as := [rv_ref 0, .inl (xs (i + 1))]) hJ (sx_w207 (sx_tc_all _)) (by decide +kernel) (fun σ hσ => ⟨⟨0, List.Mem.head _, rfl⟩, ⟨_, rfl, (hσ 19001 (by decide) (by decide)).symm, (sx_r32 _).1, (sx_r32 _).2⟩, True.intro⟩)
  refine lw_cV C0 hKK (k := 108) (mi := 143) (ci := 11) (d := 2) (ts := [14045, 14046, 14047, 10001]) (by decide +kernel) (by decide) hct (lw_rcv hJ (by decide) (by decide +kernel) (by decide)) rfl (vs := [.ref q0, .int (xs (i + 1))]) (rest := []) ⟨⟨q0, hq0, rfl⟩, rfl, True.intro⟩ (Nat.le_of_ble_eq_true rfl) hl.1 dL_law_994 hw ⟨Nat.le_of_ble_eq_true rfl, Nat.le_of_ble_eq_true rfl⟩ rfl (fun o1 ho1 ws2 v1 H1 locs1 hrv1 hw2 hmn => ?_)
  obtain ⟨σ1, hQ1, hJ2⟩ := ho1
  obtain ⟨z1, hz1⟩ := lw_ri_f (by decide +kernel) hQ1
  rw [hz1] at hrv1
  cases v1 with
  | none => exact hrv1.elim
  | some u1 =>
    cases (show u1 = .int z1 from hrv1)
    refine lv_pop hx hb dL_law_997 rfl ?_
    refine lv_aload_n hx hb dL_law_998 rfl (lv_at hl 2 rfl) ?_
    refine lw_arg C0 (i := i) (j := 1) (pc := 999) (by omega) hL (by decide) dL_law_999 dL_law_1000 dL_law_1001 dL_law_1002 dL_law_1003 (lv_at hl 0 rfl) (lv_at hl 3 rfl) hw2.2.2.2.1 ?_
    have hct2 := lw_use (l := l) (ρ := ρ) (as := [rv_ref 100, .inl (xs (i + 1))]) hJ2 (sx_w287 (sx_tc_all _)) (by decide +kernel) (fun σ hσ => ⟨⟨100, List.Mem.head _, rfl⟩, ⟨_, rfl, (hσ 19001 (by decide) (by decide)).symm, (sx_r32 _).1, (sx_r32 _).2⟩, True.intro⟩)
    refine lw_cV C0 hKK (k := 111) (mi := 206) (ci := 12) (d := 2) (ts := [17162, 17163, 17164, 10013]) (by decide +kernel) (by decide) hct2 (lw_rcv hJ2 (by decide) (by decide +kernel) (by decide)) rfl (vs := [.ref q1, .int (xs (i + 1))]) (rest := []) ⟨⟨q1, hmn _ _ hq1, rfl⟩, rfl, True.intro⟩ (Nat.le_of_ble_eq_true rfl) hl.1 dL_law_1004 hw2 ⟨Nat.le_of_ble_eq_true rfl, Nat.le_of_ble_eq_true rfl⟩ rfl (fun o2 ho2 ws3 v2 H2 locs2 hrv2 hw3 hmn2 => ?_)
    obtain ⟨σ2, hQ2, hJ3⟩ := ho2
    obtain ⟨z2, hz2⟩ := lw_ri_f (by decide +kernel) hQ2
    rw [hz2] at hrv2
    cases v2 with
    | none => exact hrv2.elim
    | some u2 =>
      cases (show u2 = .int z2 from hrv2)
      refine lv_pop hx hb dL_law_1007 rfl ?_
      refine lv_goto (tgt := 1476) hx hb dL_law_1008 (by decide) ?_
      exact kk _ _ _ _ ⟨σ2, hJ3, lw_stay (by decide +kernel) (by decide +kernel) hQ1 hQ2 hR⟩ hw3 (hmn2 _ _ (hmn _ _ hq0)) (hmn2 _ _ (hmn _ _ hq1))
set_option maxHeartbeats 2000000 in
/-- room -/
theorem lw_k21 {p : Program} {l : Launch} {e : Env} {s : State} {m : MethodId} {below : List Frame} {meth : Method} {c : Code} {b : Nat} {xs : Nat → Int32} {ρ : rv_ρ} {D : va_G} {cA : Nat → ClassId} {L : Nat} (C0 : lw_At p s m meth c b L xs) (hKK : rv_KK ρ (lw_A s) D cA s) {i : Nat} (hi : i + 6 ≤ L) (hL : L ≤ 3072) {h : List rv_C} (hJ0 : lw_J h) {ws : va_W} {H : Heap} {locs : List Loc} {ls : Array Slot} {q0 q1 : Nat} (hw : rv_Wd ρ D cA (lw_A s) s [] h ws H locs) (hq0 : (ws.map Prod.fst)[0]? = some q0) (hq1 : (ws.map Prod.fst)[100]? = some q1) (hl : lv_has ls 4 [(0, .ref b), (1, .ref q0), (2, .ref q1), (3, .int (nI i))]) (kk : ∀ (h2 : List rv_C) (ws2 : va_W) (H2 : Heap) (locs2 : List Loc), lw_J h2 → rv_Wd ρ D cA (lw_A s) s [] h2 ws2 H2 locs2 → (ws2.map Prod.fst)[0]? = some q0 → (ws2.map Prod.fst)[100]? = some q1 → W p l e room_1 s m #[Value.ref b] below meth c H2 locs2 143 52759 (lw_Z below #[Value.ref b] s) (F0 m 1476 ls [])) : W p l e room_1 s m #[Value.ref b] below meth c H locs 143 52759 (lw_Z below #[Value.ref b] s) (F0 m 1011 ls []) := by
  obtain ⟨σ0, hJ, hR⟩ := hJ0
  have hts2 := lw_hts C0
  have hx := C0.1
  have hb := C0.2.1
  have hown := C0.2.2.2.2.1
  refine lv_aload_n hx hb dL_law_1011 rfl (lv_at hl 1 rfl) ?_
  refine lw_arg C0 (i := i) (j := 1) (pc := 1012) (by omega) hL (by decide) dL_law_1012 dL_law_1013 dL_law_1014 dL_law_1015 dL_law_1016 (lv_at hl 0 rfl) (lv_at hl 3 rfl) hw.2.2.2.1 ?_
  refine lw_arg C0 (i := i) (j := 2) (pc := 1017) (by omega) hL (by decide) dL_law_1017 dL_law_1018 dL_law_1019 dL_law_1020 dL_law_1021 (lv_at hl 0 rfl) (lv_at hl 3 rfl) hw.2.2.2.1 ?_
  refine lw_arg C0 (i := i) (j := 3) (pc := 1022) (by omega) hL (by decide) dL_law_1022 dL_law_1023 dL_law_1024 dL_law_1025 dL_law_1026 (lv_at hl 0 rfl) (lv_at hl 3 rfl) hw.2.2.2.1 ?_
  have hct := lw_use (l := l) (ρ := ρ) (as := [rv_ref 0, .inl (xs (i + 1)), .inl (xs (i + 2)), .inl (xs (i + 3))]) hJ (sx_w226 (sx_tc_all _)) (by decide +kernel) (fun σ hσ => ⟨⟨0, List.Mem.head _, rfl⟩, ⟨_, rfl, (hσ 19001 (by decide) (by decide)).symm, (sx_r32 _).1, (sx_r32 _).2⟩, ⟨_, rfl, (hσ 19002 (by decide) (by decide)).symm, (sx_r32 _).1, (sx_r32 _).2⟩, ⟨_, rfl, (hσ 19003 (by decide) (by decide)).symm, (sx_r32 _).1, (sx_r32 _).2⟩, True.intro⟩)
  refine lw_cV C0 hKK (k := 112) (mi := 170) (ci := 11) (d := 4) (ts := [14108, 14109, 14110, 10001]) (by decide +kernel) (by decide) hct (lw_rcv hJ (by decide) (by decide +kernel) (by decide)) rfl (vs := [.ref q0, .int (xs (i + 1)), .int (xs (i + 2)), .int (xs (i + 3))]) (rest := []) ⟨⟨q0, hq0, rfl⟩, rfl, rfl, rfl, True.intro⟩ (Nat.le_of_ble_eq_true rfl) hl.1 dL_law_1027 hw ⟨Nat.le_of_ble_eq_true rfl, Nat.le_of_ble_eq_true rfl⟩ rfl (fun o1 ho1 ws2 v1 H1 locs1 hrv1 hw2 hmn => ?_)
  obtain ⟨σ1, hQ1, hJ2⟩ := ho1
  obtain ⟨z1, hz1⟩ := lw_ri_f (by decide +kernel) hQ1
  rw [hz1] at hrv1
  cases v1 with
  | none => exact hrv1.elim
  | some u1 =>
    cases (show u1 = .int z1 from hrv1)
    refine lv_pop hx hb dL_law_1030 rfl ?_
    refine lv_aload_n hx hb dL_law_1031 rfl (lv_at hl 2 rfl) ?_
    refine lw_arg C0 (i := i) (j := 1) (pc := 1032) (by omega) hL (by decide) dL_law_1032 dL_law_1033 dL_law_1034 dL_law_1035 dL_law_1036 (lv_at hl 0 rfl) (lv_at hl 3 rfl) hw2.2.2.2.1 ?_
    refine lw_arg C0 (i := i) (j := 2) (pc := 1037) (by omega) hL (by decide) dL_law_1037 dL_law_1038 dL_law_1039 dL_law_1040 dL_law_1041 (lv_at hl 0 rfl) (lv_at hl 3 rfl) hw2.2.2.2.1 ?_
    refine lw_arg C0 (i := i) (j := 3) (pc := 1042) (by omega) hL (by decide) dL_law_1042 dL_law_1043 dL_law_1044 dL_law_1045 dL_law_1046 (lv_at hl 0 rfl) (lv_at hl 3 rfl) hw2.2.2.2.1 ?_
    have hct2 := lw_use (l := l) (ρ := ρ) (as := [rv_ref 100, .inl (xs (i + 1)), .inl (xs (i + 2)), .inl (xs (i + 3))]) hJ2 (sx_w330 (sx_tc_all _)) (by decide +kernel) (fun σ hσ => ⟨⟨100, List.Mem.head _, rfl⟩, ⟨_, rfl, (hσ 19001 (by decide) (by decide)).symm, (sx_r32 _).1, (sx_r32 _).2⟩, ⟨_, rfl, (hσ 19002 (by decide) (by decide)).symm, (sx_r32 _).1, (sx_r32 _).2⟩, ⟨_, rfl, (hσ 19003 (by decide) (by decide)).symm, (sx_r32 _).1, (sx_r32 _).2⟩, True.intro⟩)
    refine lw_cV C0 hKK (k := 115) (mi := 265) (ci := 12) (d := 4) (ts := [17201, 17202, 17203, 10013]) (by decide +kernel) (by decide) hct2 (lw_rcv hJ2 (by decide) (by decide +kernel) (by decide)) rfl (vs := [.ref q1, .int (xs (i + 1)), .int (xs (i + 2)), .int (xs (i + 3))]) (rest := []) ⟨⟨q1, hmn _ _ hq1, rfl⟩, rfl, rfl, rfl, True.intro⟩ (Nat.le_of_ble_eq_true rfl) hl.1 dL_law_1047 hw2 ⟨Nat.le_of_ble_eq_true rfl, Nat.le_of_ble_eq_true rfl⟩ rfl (fun o2 ho2 ws3 v2 H2 locs2 hrv2 hw3 hmn2 => ?_)
    obtain ⟨σ2, hQ2, hJ3⟩ := ho2
    obtain ⟨z2, hz2⟩ := lw_ri_f (by decide +kernel) hQ2
    rw [hz2] at hrv2
    cases v2 with
    | none => exact hrv2.elim
    | some u2 =>
      cases (show u2 = .int z2 from hrv2)
      refine lv_pop hx hb dL_law_1050 rfl ?_
      refine lv_goto (tgt := 1476) hx hb dL_law_1051 (by decide) ?_
      exact kk _ _ _ _ ⟨σ2, hJ3, lw_stay (by decide +kernel) (by decide +kernel) hQ1 hQ2 hR⟩ hw3 (hmn2 _ _ (hmn _ _ hq0)) (hmn2 _ _ (hmn _ _ hq1))
set_option maxHeartbeats 2000000 in
/-- sum -/
theorem lw_k22 {p : Program} {l : Launch} {e : Env} {s : State} {m : MethodId} {below : List Frame} {meth : Method} {c : Code} {b : Nat} {xs : Nat → Int32} {ρ : rv_ρ} {D : va_G} {cA : Nat → ClassId} {L : Nat} (C0 : lw_At p s m meth c b L xs) (hKK : rv_KK ρ (lw_A s) D cA s) {i : Nat} (hi : i + 6 ≤ L) (hL : L ≤ 3072) {h : List rv_C} (hJ0 : lw_J h) {ws : va_W} {H : Heap} {locs : List Loc} {ls : Array Slot} {q0 q1 : Nat} (hw : rv_Wd ρ D cA (lw_A s) s [] h ws H locs) (hq0 : (ws.map Prod.fst)[0]? = some q0) (hq1 : (ws.map Prod.fst)[100]? = some q1) (hl : lv_has ls 4 [(0, .ref b), (1, .ref q0), (2, .ref q1), (3, .int (nI i))]) (kk : ∀ (h2 : List rv_C) (ws2 : va_W) (H2 : Heap) (locs2 : List Loc), lw_J h2 → rv_Wd ρ D cA (lw_A s) s [] h2 ws2 H2 locs2 → (ws2.map Prod.fst)[0]? = some q0 → (ws2.map Prod.fst)[100]? = some q1 → W p l e room_1 s m #[Value.ref b] below meth c H2 locs2 143 52759 (lw_Z below #[Value.ref b] s) (F0 m 1476 ls [])) : W p l e room_1 s m #[Value.ref b] below meth c H locs 143 52759 (lw_Z below #[Value.ref b] s) (F0 m 1054 ls []) := by
  obtain ⟨σ0, hJ, hR⟩ := hJ0
  have hts2 := lw_hts C0
  have hx := C0.1
  have hb := C0.2.1
  have hown := C0.2.2.2.2.1
  refine lv_aload_n hx hb dL_law_1054 rfl (lv_at hl 1 rfl) ?_
  refine lw_arg C0 (i := i) (j := 1) (pc := 1055) (by omega) hL (by decide) dL_law_1055 dL_law_1056 dL_law_1057 dL_law_1058 dL_law_1059 (lv_at hl 0 rfl) (lv_at hl 3 rfl) hw.2.2.2.1 ?_
  refine lw_arg C0 (i := i) (j := 2) (pc := 1060) (by omega) hL (by decide) dL_law_1060 dL_law_1061 dL_law_1062 dL_law_1063 dL_law_1064 (lv_at hl 0 rfl) (lv_at hl 3 rfl) hw.2.2.2.1 ?_
  have hct := lw_use (l := l) (ρ := ρ) (as := [rv_ref 0, .inl (xs (i + 1)), .inl (xs (i + 2))]) hJ (sx_w239 (sx_tc_all _)) (by decide +kernel) (fun σ hσ => ⟨⟨0, List.Mem.head _, rfl⟩, ⟨_, rfl, (hσ 19001 (by decide) (by decide)).symm, (sx_r32 _).1, (sx_r32 _).2⟩, ⟨_, rfl, (hσ 19002 (by decide) (by decide)).symm, (sx_r32 _).1, (sx_r32 _).2⟩, True.intro⟩)
  refine lw_cV C0 hKK (k := 116) (mi := 176) (ci := 11) (d := 3) (ts := [14119, 14120, 14121, 10001]) (by decide +kernel) (by decide) hct (lw_rcv hJ (by decide) (by decide +kernel) (by decide)) rfl (vs := [.ref q0, .int (xs (i + 1)), .int (xs (i + 2))]) (rest := []) ⟨⟨q0, hq0, rfl⟩, rfl, rfl, True.intro⟩ (Nat.le_of_ble_eq_true rfl) hl.1 dL_law_1065 hw ⟨Nat.le_of_ble_eq_true rfl, Nat.le_of_ble_eq_true rfl⟩ rfl (fun o1 ho1 ws2 v1 H1 locs1 hrv1 hw2 hmn => ?_)
  obtain ⟨σ1, hQ1, hJ2⟩ := ho1
  obtain ⟨z1, hz1⟩ := lw_ri_f (by decide +kernel) hQ1
  rw [hz1] at hrv1
  cases v1 with
  | none => exact hrv1.elim
  | some u1 =>
    cases (show u1 = .int z1 from hrv1)
    refine lv_pop hx hb dL_law_1068 rfl ?_
    refine lv_aload_n hx hb dL_law_1069 rfl (lv_at hl 2 rfl) ?_
    refine lw_arg C0 (i := i) (j := 1) (pc := 1070) (by omega) hL (by decide) dL_law_1070 dL_law_1071 dL_law_1072 dL_law_1073 dL_law_1074 (lv_at hl 0 rfl) (lv_at hl 3 rfl) hw2.2.2.2.1 ?_
    refine lw_arg C0 (i := i) (j := 2) (pc := 1075) (by omega) hL (by decide) dL_law_1075 dL_law_1076 dL_law_1077 dL_law_1078 dL_law_1079 (lv_at hl 0 rfl) (lv_at hl 3 rfl) hw2.2.2.2.1 ?_
    have hct2 := lw_use (l := l) (ρ := ρ) (as := [rv_ref 100, .inl (xs (i + 1)), .inl (xs (i + 2))]) hJ2 (sx_w340 (sx_tc_all _)) (by decide +kernel) (fun σ hσ => ⟨⟨100, List.Mem.head _, rfl⟩, ⟨_, rfl, (hσ 19001 (by decide) (by decide)).symm, (sx_r32 _).1, (sx_r32 _).2⟩, ⟨_, rfl, (hσ 19002 (by decide) (by decide)).symm, (sx_r32 _).1, (sx_r32 _).2⟩, True.intro⟩)
    refine lw_cV C0 hKK (k := 119) (mi := 276) (ci := 12) (d := 3) (ts := [17205, 17206, 17207, 10013]) (by decide +kernel) (by decide) hct2 (lw_rcv hJ2 (by decide) (by decide +kernel) (by decide)) rfl (vs := [.ref q1, .int (xs (i + 1)), .int (xs (i + 2))]) (rest := []) ⟨⟨q1, hmn _ _ hq1, rfl⟩, rfl, rfl, True.intro⟩ (Nat.le_of_ble_eq_true rfl) hl.1 dL_law_1080 hw2 ⟨Nat.le_of_ble_eq_true rfl, Nat.le_of_ble_eq_true rfl⟩ rfl (fun o2 ho2 ws3 v2 H2 locs2 hrv2 hw3 hmn2 => ?_)
    obtain ⟨σ2, hQ2, hJ3⟩ := ho2
    obtain ⟨z2, hz2⟩ := lw_ri_f (by decide +kernel) hQ2
    rw [hz2] at hrv2
    cases v2 with
    | none => exact hrv2.elim
    | some u2 =>
      cases (show u2 = .int z2 from hrv2)
      refine lv_pop hx hb dL_law_1083 rfl ?_
      refine lv_goto (tgt := 1476) hx hb dL_law_1084 (by decide) ?_
      exact kk _ _ _ _ ⟨σ2, hJ3, lw_stay (by decide +kernel) (by decide +kernel) hQ1 hQ2 hR⟩ hw3 (hmn2 _ _ (hmn _ _ hq0)) (hmn2 _ _ (hmn _ _ hq1))
set_option maxHeartbeats 2000000 in
/-- together -/
theorem lw_k23 {p : Program} {l : Launch} {e : Env} {s : State} {m : MethodId} {below : List Frame} {meth : Method} {c : Code} {b : Nat} {xs : Nat → Int32} {ρ : rv_ρ} {D : va_G} {cA : Nat → ClassId} {L : Nat} (C0 : lw_At p s m meth c b L xs) (hKK : rv_KK ρ (lw_A s) D cA s) {i : Nat} (hi : i + 6 ≤ L) (hL : L ≤ 3072) {h : List rv_C} (hJ0 : lw_J h) {ws : va_W} {H : Heap} {locs : List Loc} {ls : Array Slot} {q0 q1 : Nat} (hw : rv_Wd ρ D cA (lw_A s) s [] h ws H locs) (hq0 : (ws.map Prod.fst)[0]? = some q0) (hq1 : (ws.map Prod.fst)[100]? = some q1) (hl : lv_has ls 4 [(0, .ref b), (1, .ref q0), (2, .ref q1), (3, .int (nI i))]) (kk : ∀ (h2 : List rv_C) (ws2 : va_W) (H2 : Heap) (locs2 : List Loc), lw_J h2 → rv_Wd ρ D cA (lw_A s) s [] h2 ws2 H2 locs2 → (ws2.map Prod.fst)[0]? = some q0 → (ws2.map Prod.fst)[100]? = some q1 → W p l e room_1 s m #[Value.ref b] below meth c H2 locs2 143 52759 (lw_Z below #[Value.ref b] s) (F0 m 1476 ls [])) : W p l e room_1 s m #[Value.ref b] below meth c H locs 143 52759 (lw_Z below #[Value.ref b] s) (F0 m 1087 ls []) := by
  obtain ⟨σ0, hJ, hR⟩ := hJ0
  have hts2 := lw_hts C0
  have hx := C0.1
  have hb := C0.2.1
  have hown := C0.2.2.2.2.1
  refine lv_aload_n hx hb dL_law_1087 rfl (lv_at hl 1 rfl) ?_
  refine lw_arg C0 (i := i) (j := 1) (pc := 1088) (by omega) hL (by decide) dL_law_1088 dL_law_1089 dL_law_1090 dL_law_1091 dL_law_1092 (lv_at hl 0 rfl) (lv_at hl 3 rfl) hw.2.2.2.1 ?_
  refine lw_arg C0 (i := i) (j := 2) (pc := 1093) (by omega) hL (by decide) dL_law_1093 dL_law_1094 dL_law_1095 dL_law_1096 dL_law_1097 (lv_at hl 0 rfl) (lv_at hl 3 rfl) hw.2.2.2.1 ?_
  refine lw_arg C0 (i := i) (j := 3) (pc := 1098) (by omega) hL (by decide) dL_law_1098 dL_law_1099 dL_law_1100 dL_law_1101 dL_law_1102 (lv_at hl 0 rfl) (lv_at hl 3 rfl) hw.2.2.2.1 ?_
  have hct := lw_use (l := l) (ρ := ρ) (as := [rv_ref 0, .inl (xs (i + 1)), .inl (xs (i + 2)), .inl (xs (i + 3))]) hJ (sx_w240 (sx_tc_all _)) (by decide +kernel) (fun σ hσ => ⟨⟨0, List.Mem.head _, rfl⟩, ⟨_, rfl, (hσ 19001 (by decide) (by decide)).symm, (sx_r32 _).1, (sx_r32 _).2⟩, ⟨_, rfl, (hσ 19002 (by decide) (by decide)).symm, (sx_r32 _).1, (sx_r32 _).2⟩, ⟨_, rfl, (hσ 19003 (by decide) (by decide)).symm, (sx_r32 _).1, (sx_r32 _).2⟩, True.intro⟩)
  refine lw_cV C0 hKK (k := 120) (mi := 178) (ci := 11) (d := 4) (ts := [14123, 14124, 14125, 10001]) (by decide +kernel) (by decide) hct (lw_rcv hJ (by decide) (by decide +kernel) (by decide)) rfl (vs := [.ref q0, .int (xs (i + 1)), .int (xs (i + 2)), .int (xs (i + 3))]) (rest := []) ⟨⟨q0, hq0, rfl⟩, rfl, rfl, rfl, True.intro⟩ (Nat.le_of_ble_eq_true rfl) hl.1 dL_law_1103 hw ⟨Nat.le_of_ble_eq_true rfl, Nat.le_of_ble_eq_true rfl⟩ rfl (fun o1 ho1 ws2 v1 H1 locs1 hrv1 hw2 hmn => ?_)
  obtain ⟨σ1, hQ1, hJ2⟩ := ho1
  obtain ⟨z1, hz1⟩ := lw_ri_f (by decide +kernel) hQ1
  rw [hz1] at hrv1
  cases v1 with
  | none => exact hrv1.elim
  | some u1 =>
    cases (show u1 = .int z1 from hrv1)
    refine lv_pop hx hb dL_law_1106 rfl ?_
    refine lv_aload_n hx hb dL_law_1107 rfl (lv_at hl 2 rfl) ?_
    refine lw_arg C0 (i := i) (j := 1) (pc := 1108) (by omega) hL (by decide) dL_law_1108 dL_law_1109 dL_law_1110 dL_law_1111 dL_law_1112 (lv_at hl 0 rfl) (lv_at hl 3 rfl) hw2.2.2.2.1 ?_
    refine lw_arg C0 (i := i) (j := 2) (pc := 1113) (by omega) hL (by decide) dL_law_1113 dL_law_1114 dL_law_1115 dL_law_1116 dL_law_1117 (lv_at hl 0 rfl) (lv_at hl 3 rfl) hw2.2.2.2.1 ?_
    refine lw_arg C0 (i := i) (j := 3) (pc := 1118) (by omega) hL (by decide) dL_law_1118 dL_law_1119 dL_law_1120 dL_law_1121 dL_law_1122 (lv_at hl 0 rfl) (lv_at hl 3 rfl) hw2.2.2.2.1 ?_
    have hct2 := lw_use (l := l) (ρ := ρ) (as := [rv_ref 100, .inl (xs (i + 1)), .inl (xs (i + 2)), .inl (xs (i + 3))]) hJ2 (sx_w341 (sx_tc_all _)) (by decide +kernel) (fun σ hσ => ⟨⟨100, List.Mem.head _, rfl⟩, ⟨_, rfl, (hσ 19001 (by decide) (by decide)).symm, (sx_r32 _).1, (sx_r32 _).2⟩, ⟨_, rfl, (hσ 19002 (by decide) (by decide)).symm, (sx_r32 _).1, (sx_r32 _).2⟩, ⟨_, rfl, (hσ 19003 (by decide) (by decide)).symm, (sx_r32 _).1, (sx_r32 _).2⟩, True.intro⟩)
    refine lw_cV C0 hKK (k := 123) (mi := 280) (ci := 12) (d := 4) (ts := [17209, 17210, 17211, 10013]) (by decide +kernel) (by decide) hct2 (lw_rcv hJ2 (by decide) (by decide +kernel) (by decide)) rfl (vs := [.ref q1, .int (xs (i + 1)), .int (xs (i + 2)), .int (xs (i + 3))]) (rest := []) ⟨⟨q1, hmn _ _ hq1, rfl⟩, rfl, rfl, rfl, True.intro⟩ (Nat.le_of_ble_eq_true rfl) hl.1 dL_law_1123 hw2 ⟨Nat.le_of_ble_eq_true rfl, Nat.le_of_ble_eq_true rfl⟩ rfl (fun o2 ho2 ws3 v2 H2 locs2 hrv2 hw3 hmn2 => ?_)
    obtain ⟨σ2, hQ2, hJ3⟩ := ho2
    obtain ⟨z2, hz2⟩ := lw_ri_f (by decide +kernel) hQ2
    rw [hz2] at hrv2
    cases v2 with
    | none => exact hrv2.elim
    | some u2 =>
      cases (show u2 = .int z2 from hrv2)
      refine lv_pop hx hb dL_law_1126 rfl ?_
      refine lv_goto (tgt := 1476) hx hb dL_law_1127 (by decide) ?_
      exact kk _ _ _ _ ⟨σ2, hJ3, lw_stay (by decide +kernel) (by decide +kernel) hQ1 hQ2 hR⟩ hw3 (hmn2 _ _ (hmn _ _ hq0)) (hmn2 _ _ (hmn _ _ hq1))
