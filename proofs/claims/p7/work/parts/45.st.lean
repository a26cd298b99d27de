set_option maxRecDepth 1000000 in
theorem rt_1 : rv_ev rv_nw rv_ct rv_tab rv_no 30 153 [rv_ref 0] [.inl (11, rv_nw 11)] = some (99, 21960, [(none, rh_1)]) := rv_eqR_s (by decide +kernel)
set_option maxRecDepth 1000000 in
theorem rt_2 : rv_ev rv_nw rv_ct rv_tab rv_no 30 227 [rv_ref 100] (rh_1 ++ [.inl (12, rv_nw 12)]) = some (42, 30714, [(none, rh_2)]) := rv_eqR_s (by decide +kernel)
theorem lw_sub {L : Nat} (hL : L ≤ 3072) : (nI L - 6).toInt = (L : Int) - 6 := by
  rw [Int32.toInt_sub, nI_toInt (by omega), show (6 : Int32).toInt = 6 from by decide]
  exact sx_bm32 (by omega) (by omega)
set_option maxHeartbeats 8000000 in
set_option maxRecDepth 100000 in
theorem lw_loop {p : Program} {l : Launch} {e : Env} {s : State} {m : MethodId} {below : List Frame} {meth : Method} {c : Code} {b : Nat} {xs : Nat → Int32} {ρ : rv_ρ} {D : va_G} {cA : Nat → ClassId} {L : Nat} (C0 : lw_At p s m meth c b L xs) (hKK : rv_KK ρ (lw_A s) D cA s) (hL : L ≤ 3072) {q0 q1 : Nat} : ∀ (n i : Nat), L < i + 6 * n → i ≤ 3078 → ∀ {h : List rv_C} {ws : va_W} {H : Heap} {locs : List Loc} {ls : Array Slot}, lw_J h → rv_Wd ρ D cA (lw_A s) s [] h ws H locs → (ws.map Prod.fst)[0]? = some q0 → (ws.map Prod.fst)[100]? = some q1 → lv_has ls 4 [(0, .ref b), (1, .ref q0), (2, .ref q1), (3, .int (nI i))] → W p l e room_1 s m #[Value.ref b] below meth c H locs 143 52759 (lw_Z below #[Value.ref b] s) (F0 m 18 ls []) := by
  have C1 := C0
  obtain ⟨hx, hb, hr, hml, hown, hts0, hX, hbl, hlocks, hgv⟩ := C1
  have hbA : ¬ lw_A s b := Nat.not_le.mpr hbl
  intro n
  induction n with
  | zero =>
    intro i hn hi h ws H locs ls hJ hw hq0 hq1 hl
    refine lv_iload_n hx hb dL_law_18 rfl (lv_at hl 3 rfl) ?_
    refine lv_aload_n hx hb dL_law_19 rfl (lv_at hl 0 rfl) ?_
    refine va_slen hx hb hX hbl hbA hw.2.2.2.1 dL_law_20 ?_
    refine lv_bipush (v := 6) hx hb dL_law_21 (by decide) ?_
    refine lv_isub hx hb dL_law_23 ?_
    refine lv_icmp_gt (tgt := 1482) hx hb dL_law_24 (by decide) (fun _ => ?_) (fun q => absurd ?_ q)
    · refine lv_iconst (v := 1) hx hb dL_law_1482 (by decide) ?_
      refine va_forget (fun q hq => hw.2.2.2.1.2.2 q hq) ?_
      refine W.widen (k := 600000) (n := 7302250) (Nat.le_of_ble_eq_true rfl) (Nat.le_of_ble_eq_true rfl) ?_
      exact lw_ret hx hb hr hlocks dL_law_1483
    · show nI L - 6 < nI i
      rw [Int32.lt_iff_toInt_lt, lw_sub hL, nI_toInt (by omega)]
      omega
  | succ n ih =>
    intro i hn hi h ws H locs ls hJ hw hq0 hq1 hl
    refine lv_iload_n hx hb dL_law_18 rfl (lv_at hl 3 rfl) ?_
    refine lv_aload_n hx hb dL_law_19 rfl (lv_at hl 0 rfl) ?_
    refine va_slen hx hb hX hbl hbA hw.2.2.2.1 dL_law_20 ?_
    refine lv_bipush (v := 6) hx hb dL_law_21 (by decide) ?_
    refine lv_isub hx hb dL_law_23 ?_
    refine lv_icmp_gt (tgt := 1482) hx hb dL_law_24 (by decide) (fun _ => ?_) (fun q => ?_)
    · refine lv_iconst (v := 1) hx hb dL_law_1482 (by decide) ?_
      refine va_forget (fun q hq => hw.2.2.2.1.2.2 q hq) ?_
      refine W.widen (k := 600000) (n := 7302250) (Nat.le_of_ble_eq_true rfl) (Nat.le_of_ble_eq_true rfl) ?_
      exact lw_ret hx hb hr hlocks dL_law_1483
    · have hi6 : i + 6 ≤ L := by
        replace q : ¬ (nI L - 6 < nI i) := q
        rw [Int32.lt_iff_toInt_lt, lw_sub hL, nI_toInt (by omega)] at q
        omega
      have kk : ∀ (h2 : List rv_C) (ws2 : va_W) (H2 : Heap) (locs2 : List Loc), lw_J h2 → rv_Wd ρ D cA (lw_A s) s [] h2 ws2 H2 locs2 → (ws2.map Prod.fst)[0]? = some q0 → (ws2.map Prod.fst)[100]? = some q1 → W p l e room_1 s m #[Value.ref b] below meth c H2 locs2 143 52759 (lw_Z below #[Value.ref b] s) (F0 m 1476 ls []) := by
        intro h2 ws2 H2 locs2 hJ2 hw2 a0 a1
        refine lv_iinc (v := nI (i + 6)) (lv' := [(3, .int (nI (i + 6))), (0, .ref b), (1, .ref q0), (2, .ref q1)]) hx hb dL_law_1476 hl (k := 3) rfl (nI_add i 6) (by decide) rfl (fun ls hl => ?_)
        refine lv_goto (tgt := 18) hx hb dL_law_1479 (by decide) ?_
        exact ih (i + 6) (by omega) (by omega) hJ2 hw2 a0 a1 (lv_sub hl [1, 2, 3, 0] rfl)
      refine lv_aload_n hx hb dL_law_27 rfl (lv_at hl 0 rfl) ?_
      refine lv_iload_n hx hb dL_law_28 rfl (lv_at hl 3 rfl) ?_
      refine va_sld hx hb hX hbl hbA hw.2.2.2.1 (vp_in_nI (n := i) (by omega) (by omega)) dL_law_29 ?_
      refine lv_bipush (v := 63) hx hb dL_law_30 (by decide) ?_
      refine lv_iand hx hb dL_law_32 ?_
      obtain ⟨j, hj, ej⟩ := pk_andE (xs (nI i).toNatClampNeg) (m := 63) 6 (by decide)
      rw [ej]
      by_cases h36 : j < 36
      · rcases (show j = 0 ∨ j = 1 ∨ j = 2 ∨ j = 3 ∨ j = 4 ∨ j = 5 ∨ j = 6 ∨ j = 7 ∨ j = 8 ∨ j = 9 ∨ j = 10 ∨ j = 11 ∨ j = 12 ∨ j = 13 ∨ j = 14 ∨ j = 15 ∨ j = 16 ∨ j = 17 ∨ j = 18 ∨ j = 19 ∨ j = 20 ∨ j = 21 ∨ j = 22 ∨ j = 23 ∨ j = 24 ∨ j = 25 ∨ j = 26 ∨ j = 27 ∨ j = 28 ∨ j = 29 ∨ j = 30 ∨ j = 31 ∨ j = 32 ∨ j = 33 ∨ j = 34 ∨ j = 35 by omega) with rfl | rfl | rfl | rfl | rfl | rfl | rfl | rfl | rfl | rfl | rfl | rfl | rfl | rfl | rfl | rfl | rfl | rfl | rfl | rfl | rfl | rfl | rfl | rfl | rfl | rfl | rfl | rfl | rfl | rfl | rfl | rfl | rfl | rfl | rfl | rfl
        · refine lv_tableIn (tgt := 192) (off := 159) hx hb dL_law_33 (by decide) (by decide) rfl (by decide) ?_
          exact lw_k0 C0 hKK hi6 hL hJ hw hq0 hq1 hl kk
        · refine lv_tableIn (tgt := 205) (off := 172) hx hb dL_law_33 (by decide) (by decide) rfl (by decide) ?_
          exact lw_k1 C0 hKK hi6 hL hJ hw hq0 hq1 hl kk
        · refine lv_tableIn (tgt := 248) (off := 215) hx hb dL_law_33 (by decide) (by decide) rfl (by decide) ?_
          exact lw_k2 C0 hKK hi6 hL hJ hw hq0 hq1 hl kk
        · refine lv_tableIn (tgt := 321) (off := 288) hx hb dL_law_33 (by decide) (by decide) rfl (by decide) ?_
          exact lw_k3 C0 hKK hi6 hL hJ hw hq0 hq1 hl kk
        · refine lv_tableIn (tgt := 354) (off := 321) hx hb dL_law_33 (by decide) (by decide) rfl (by decide) ?_
          exact lw_k4 C0 hKK hi6 hL hJ hw hq0 hq1 hl kk
        · refine lv_tableIn (tgt := 417) (off := 384) hx hb dL_law_33 (by decide) (by decide) rfl (by decide) ?_
          exact lw_k5 C0 hKK hi6 hL hJ hw hq0 hq1 hl kk
        · refine lv_tableIn (tgt := 480) (off := 447) hx hb dL_law_33 (by decide) (by decide) rfl (by decide) ?_
          exact lw_k6 C0 hKK hi6 hL hJ hw hq0 hq1 hl kk
        · refine lv_tableIn (tgt := 503) (off := 470) hx hb dL_law_33 (by decide) (by decide) rfl (by decide) ?_
          exact lw_k7 C0 hKK hi6 hL hJ hw hq0 hq1 hl kk
        · refine lv_tableIn (tgt := 562) (off := 529) hx hb dL_law_33 (by decide) (by decide) rfl (by decide) ?_
          exact lw_k8 C0 hKK hi6 hL hJ hw hq0 hq1 hl kk
        · refine lv_tableIn (tgt := 625) (off := 592) hx hb dL_law_33 (by decide) (by decide) rfl (by decide) ?_
          exact lw_k9 C0 hKK hi6 hL hJ hw hq0 hq1 hl kk
        · refine lv_tableIn (tgt := 658) (off := 625) hx hb dL_law_33 (by decide) (by decide) rfl (by decide) ?_
          exact lw_k10 C0 hKK hi6 hL hJ hw hq0 hq1 hl kk
        · refine lv_tableIn (tgt := 681) (off := 648) hx hb dL_law_33 (by decide) (by decide) rfl (by decide) ?_
          exact lw_k11 C0 hKK hi6 hL hJ hw hq0 hq1 hl kk
        · refine lv_tableIn (tgt := 714) (off := 681) hx hb dL_law_33 (by decide) (by decide) rfl (by decide) ?_
          exact lw_k12 C0 hKK hi6 hL hJ hw hq0 hq1 hl kk
        · refine lv_tableIn (tgt := 747) (off := 714) hx hb dL_law_33 (by decide) (by decide) rfl (by decide) ?_
          exact lw_k13 C0 hKK hi6 hL hJ hw hq0 hq1 hl kk
        · refine lv_tableIn (tgt := 790) (off := 757) hx hb dL_law_33 (by decide) (by decide) rfl (by decide) ?_
          exact lw_k14 C0 hKK hi6 hL hJ hw hq0 hq1 hl kk
        · refine lv_tableIn (tgt := 813) (off := 780) hx hb dL_law_33 (by decide) (by decide) rfl (by decide) ?_
          exact lw_k15 C0 hKK hi6 hL hJ hw hq0 hq1 hl kk
        · refine lv_tableIn (tgt := 846) (off := 813) hx hb dL_law_33 (by decide) (by decide) rfl (by decide) ?_
          exact lw_k16 C0 hKK hi6 hL hJ hw hq0 hq1 hl kk
        · refine lv_tableIn (tgt := 889) (off := 856) hx hb dL_law_33 (by decide) (by decide) rfl (by decide) ?_
          exact lw_k17 C0 hKK hi6 hL hJ hw hq0 hq1 hl kk
        · refine lv_tableIn (tgt := 922) (off := 889) hx hb dL_law_33 (by decide) (by decide) rfl (by decide) ?_
          exact lw_k18 C0 hKK hi6 hL hJ hw hq0 hq1 hl kk
        · refine lv_tableIn (tgt := 965) (off := 932) hx hb dL_law_33 (by decide) (by decide) rfl (by decide) ?_
          exact lw_k19 C0 hKK hi6 hL hJ hw hq0 hq1 hl kk
        · refine lv_tableIn (tgt := 988) (off := 955) hx hb dL_law_33 (by decide) (by decide) rfl (by decide) ?_
          exact lw_k20 C0 hKK hi6 hL hJ hw hq0 hq1 hl kk
        · refine lv_tableIn (tgt := 1011) (off := 978) hx hb dL_law_33 (by decide) (by decide) rfl (by decide) ?_
          exact lw_k21 C0 hKK hi6 hL hJ hw hq0 hq1 hl kk
        · refine lv_tableIn (tgt := 1054) (off := 1021) hx hb dL_law_33 (by decide) (by decide) rfl (by decide) ?_
          exact lw_k22 C0 hKK hi6 hL hJ hw hq0 hq1 hl kk
        · refine lv_tableIn (tgt := 1087) (off := 1054) hx hb dL_law_33 (by decide) (by decide) rfl (by decide) ?_
          exact lw_k23 C0 hKK hi6 hL hJ hw hq0 hq1 hl kk
        · refine lv_tableIn (tgt := 1130) (off := 1097) hx hb dL_law_33 (by decide) (by decide) rfl (by decide) ?_
          exact lw_k24 C0 hKK hi6 hL hJ hw hq0 hq1 hl kk
        · refine lv_tableIn (tgt := 1153) (off := 1120) hx hb dL_law_33 (by decide) (by decide) rfl (by decide) ?_
          exact lw_k25 C0 hKK hi6 hL hJ hw hq0 hq1 hl kk
        · refine lv_tableIn (tgt := 1176) (off := 1143) hx hb dL_law_33 (by decide) (by decide) rfl (by decide) ?_
          exact lw_k26 C0 hKK hi6 hL hJ hw hq0 hq1 hl kk
        · refine lv_tableIn (tgt := 1209) (off := 1176) hx hb dL_law_33 (by decide) (by decide) rfl (by decide) ?_
          exact lw_k27 C0 hKK hi6 hL hJ hw hq0 hq1 hl kk
        · refine lv_tableIn (tgt := 1232) (off := 1199) hx hb dL_law_33 (by decide) (by decide) rfl (by decide) ?_
          exact lw_k28 C0 hKK hi6 hL hJ hw hq0 hq1 hl kk
        · refine lv_tableIn (tgt := 1265) (off := 1232) hx hb dL_law_33 (by decide) (by decide) rfl (by decide) ?_
          exact lw_k29 C0 hKK hi6 hL hJ hw hq0 hq1 hl kk
        · refine lv_tableIn (tgt := 1288) (off := 1255) hx hb dL_law_33 (by decide) (by decide) rfl (by decide) ?_
          exact lw_k30 C0 hKK hi6 hL hJ hw hq0 hq1 hl kk
        · refine lv_tableIn (tgt := 1311) (off := 1278) hx hb dL_law_33 (by decide) (by decide) rfl (by decide) ?_
          exact lw_k31 C0 hKK hi6 hL hJ hw hq0 hq1 hl kk
        · refine lv_tableIn (tgt := 1354) (off := 1321) hx hb dL_law_33 (by decide) (by decide) rfl (by decide) ?_
          exact lw_k32 C0 hKK hi6 hL hJ hw hq0 hq1 hl kk
        · refine lv_tableIn (tgt := 1387) (off := 1354) hx hb dL_law_33 (by decide) (by decide) rfl (by decide) ?_
          exact lw_k33 C0 hKK hi6 hL hJ hw hq0 hq1 hl kk
        · refine lv_tableIn (tgt := 1410) (off := 1377) hx hb dL_law_33 (by decide) (by decide) rfl (by decide) ?_
          exact lw_k34 C0 hKK hi6 hL hJ hw hq0 hq1 hl kk
        · refine lv_tableIn (tgt := 1453) (off := 1420) hx hb dL_law_33 (by decide) (by decide) rfl (by decide) ?_
          exact lw_k35 C0 hKK hi6 hL hJ hw hq0 hq1 hl kk
      · refine lv_tableOut (tgt := 1476) hx hb dL_law_33 (Or.inr (by rw [nI_toInt (by omega)]; omega)) (by decide) ?_
        exact kk _ _ _ _ hJ hw hq0 hq1
set_option maxHeartbeats 4000000 in
set_option maxRecDepth 100000 in
/-- THE LAW, from its entry -/
theorem whole_start {p : Program} {e : Env} {s : State} {m : MethodId} {below : List Frame} {meth : Method} {c : Code} (l : Launch) (hflags : l.flags = flags0) {b L : Nat} {xs : Nat → Int32} (hL : L ≤ 3072) (C0 : lw_At p s m meth c b L xs) : W p l e room_1 s m #[Value.ref b] below meth c s.heap [] 0 0 (lw_Z below #[Value.ref b] s) (entryFrame m ([Value.ref b] : List Value).toArray 4) := by
  have hts := lw_hts C0
  obtain ⟨hx, hb, hr, hml, hown, hts0, hX, hbl, hlocks, hgv⟩ := id C0
  obtain ⟨ρ, hSt⟩ := lw_ns C0
  obtain ⟨D, cA, hKK⟩ := rv_start (args := #[Value.ref b]) (s := s) hts0 hSt
  have hA : ∀ q, s.heap.size ≤ q → lw_A s q := fun _ h => h
  have hbA : ¬ lw_A s b := Nat.not_le.mpr hbl
  have hl := lv_entry ([.ref b]) (n := 4) (Nat.le_of_ble_eq_true rfl)
  rw [lg_entry_eq]
  generalize (lg_sl ([.ref b]) ++ List.replicate (4 - (lg_sl ([.ref b])).length) Slot.unset).toArray = ls at hl ⊢
  have hl : lv_has ls 4 [(0, .ref b)] := hl
  obtain ⟨hin11, ty11, hty11, hnm11, fs11, hfs11, hnw11⟩ := rc_11
  obtain ⟨hin12, ty12, hty12, hnm12, fs12, hfs12, hnw12⟩ := rc_12
  refine va_new (ci := 11) (fs := fs11) (C := RX11) (T := TX11) (N := 13) hx hb hts hin11 ty11 hty11 hown (hts _ (rv_w_s (p := 10022) (by decide +kernel))) (hts _ ri_11) (hts _ (rv_w_s (p := 10001) (by decide +kernel))) hKK.1 (ws := []) (fun k q h => by simp at h) ⟨fun i j p q h => by simp at h, fun k q h => by simp at h⟩ va_S.rf hA rfl hfs11 (Nat.le_of_ble_eq_true rfl) (Nat.le_of_ble_eq_true rfl) dL_law_0 (fun a0 H hP hD hS => ?_)
  refine lv_dup hx hb dL_law_3 rfl ?_
  refine lw_cI (ρ := ρ) C0 hKK (k := 9) (mi := 153) (ts := [10024, 10025, 10001]) (by decide +kernel) rt_1 (ws := [(a0, .inr (11, fs11))]) ⟨a0, rfl, rfl⟩ (Nat.le_of_ble_eq_true rfl) hl.1 dL_law_4 ⟨⟨⟨_, rfl, hnw11 _ _⟩, True.intro⟩, hP, hD, hS, [a0], rfl⟩ ⟨Nat.le_of_ble_eq_true rfl, Nat.le_of_ble_eq_true rfl⟩ (fun o ho ws2 v H1 locs1 hrv hw2 hmn => ?_)
  obtain rfl := List.mem_singleton.mp ho
  cases v with
  | some v => exact hrv.elim
  | none =>
  refine lv_astore_n (lv' := [(1, .ref a0), (0, .ref b)]) hx hb dL_law_7 rfl hl (by decide) rfl (fun ls hl => ?_)
  refine va_new (ci := 12) (fs := fs12) (C := RX12) (T := TX12) (N := 72) hx hb hts hin12 ty12 hty12 hown (hts _ (rv_w_s (p := 15069) (by decide +kernel))) (hts _ ri_12) (hts _ (rv_w_s (p := 10013) (by decide +kernel))) hKK.1 hw2.2.1 hw2.2.2.1 hw2.2.2.2.1 hA rfl hfs12 (Nat.le_of_ble_eq_true rfl) (Nat.le_of_ble_eq_true rfl) dL_law_8 (fun a1 H2 hP2 hD2 hS2 => ?_)
  refine lv_dup hx hb dL_law_11 rfl ?_
  have hm : (ws2 ++ [(a1, (.inr (12, fs12) : va_E))]).map Prod.fst = ws2.map Prod.fst ++ [a1] := by rw [List.map_append]; rfl
  have hlen : (ws2.map Prod.fst).length = 100 := by
    rw [List.length_map, ← rv_Ws_len hw2.1]
    decide +kernel
  have h100 : (ws2.map Prod.fst ++ [a1])[100]? = some a1 := by
    rw [List.getElem?_append_right (by omega), hlen]
    rfl
  refine lw_cI (ρ := ρ) C0 hKK (k := 12) (mi := 227) (ts := [15071, 15072, 10013]) (by decide +kernel) rt_2 (ws := ws2 ++ [(a1, .inr (12, fs12))]) ⟨a1, by rw [hm]; exact h100, rfl⟩ (Nat.le_of_ble_eq_true rfl) hl.1 dL_law_12 ⟨by rw [hm]; exact rv_Ws_app (show rv_E ρ (ws2.map Prod.fst ++ [a1]) cA (.inl (12, rv_nw 12)) (.inr (12, fs12)) from ⟨_, rfl, hnw12 _ _⟩) (rv_Ws_mono rv_pfx hw2.1), hP2, hD2, hS2, _, rfl⟩ ⟨Nat.le_of_ble_eq_true rfl, Nat.le_of_ble_eq_true rfl⟩ (fun o3 ho3 ws3 v3 H3 locs3 hrv3 hw3 hmn3 => ?_)
  obtain rfl := List.mem_singleton.mp ho3
  cases v3 with
  | some v => exact hrv3.elim
  | none =>
  refine lv_astore_n (lv' := [(2, .ref a1), (1, .ref a0), (0, .ref b)]) hx hb dL_law_15 rfl hl (by decide) rfl (fun ls hl => ?_)
  refine lv_iconst (v := 0) hx hb dL_law_16 (by decide) ?_
  refine lv_istore_n (lv' := [(3, .int 0), (2, .ref a1), (1, .ref a0), (0, .ref b)]) hx hb dL_law_17 rfl hl (by decide) rfl (fun ls hl => ?_)
  have hl : lv_has ls 4 [(0, .ref b), (1, .ref a0), (2, .ref a1), (3, .int 0)] := lv_sub hl [3, 2, 1, 0] rfl
  have hq0 : (ws3.map Prod.fst)[0]? = some a0 := hmn3 0 a0 (by rw [hm]; exact rv_pfx 0 a0 (hmn 0 a0 rfl))
  have hq1 : (ws3.map Prod.fst)[100]? = some a1 := hmn3 100 a1 (by rw [hm]; exact h100)
  have hS3 := hw3.2.2.2.1
  refine W.cs (cells' := 143) (slots' := 52759) rfl rfl ?_
  exact lw_loop C0 hKK hL 513 0 (by omega) (by omega) lw_J0 hw3 hq0 hq1 hl
