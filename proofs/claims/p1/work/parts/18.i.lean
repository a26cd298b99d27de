set_option maxHeartbeats 1000000 in
theorem lw_cM {p : Program} {l : Launch} {e : Env} {s : State} {m : MethodId} {below : List Frame} {meth : Method} {c : Code} {b : Nat} {xs : Nat → Int32} {ρ : Nat → Int64} {D : va_G} {cA : Nat → ClassId} {L : Nat} (C0 : lw_At p s m meth c b L xs) (hKK : rv_KK D cA s) {k mi ci d : Nat} {ts : List Nat} (hchk : rv_civ rv_inf R_law k mi ci d ts = true) {as : List rv_A} {h : List rv_C} {res : rv_R} (hMt0 : rv_Mt l ρ 30 mi as h res) (hinf0 : ∃ i, rv_inf[mi]? = some i) (hok : rv_rcv ci h as = true) (hlen : as.length = d) {ws : va_W} {H : Heap} {locs : List Loc} {vs rest stk : List Value} (hvs : rv_Vs ρ (ws.map Prod.fst) as vs) (hrest : (rest.map fun v => v.category).sum ≤ 8) {pc : Nat} {ls : Array Slot} (hls : ls.size = 4) (hdec : decode code pc = .ok (.invokevirtual k, 3)) (hw : rv_Wd ρ D cA (lw_A s) s [] h ws H locs) {cells slots : Nat} (hroom : cells + res.1 ≤ 600000 ∧ slots + res.2.1 ≤ 7302250) (hstk : stk = vs.reverse ++ rest) {Q : State → Prop}
    (kk : ∀ o ∈ res.2.2, ∀ (ws2 : va_W) (v : Option Value) (H1 : Heap) (locs1 : List Loc), rv_rv ρ (ws2.map Prod.fst) o.1 v → rv_Wd ρ D cA (lw_A s) s [] o.2 ws2 H1 locs1 → (∀ (k q : Nat), (ws.map Prod.fst)[k]? = some q → (ws2.map Prod.fst)[k]? = some q) → W p l e room_1 s m #[Value.ref b] below meth c H1 locs1 (cells + res.1) (slots + res.2.1) Q (F0 m (pc + 3) ls (v.toList ++ rest))) : W p l e room_1 s m #[Value.ref b] below meth c H locs cells slots Q (F0 m pc ls stk) := by
  have hts := lw_hts C0
  obtain ⟨hx, hb, hr, hml, hown, -, hX, hbl, hlocks, hgv⟩ := C0
  have hMt := hMt0
  obtain ⟨⟨y2, bytes2, nL2, ret2⟩, hinf⟩ := hinf0
  obtain ⟨hcw, hnL2⟩ := rv_hcode _ _ _ _ _ hinf
  obtain ⟨hw1, hw2, hw3, hw4, hnh, hnp, hd1, T, N, hclb⟩ := rv_civ_s hinf hchk
  have hM := hMt y2 bytes2 nL2 ret2 hinf D cA H.size ws vs hvs hw.1
  have hA : ∀ q, s.heap.size ≤ q → lw_A s q := fun _ h => h
  have hfree := rv_free hw.2.2.1 hw.2.2.2.1 hA
  have hRR : (rv_rm 30 res.1 res.2.1).frames + 1 ≤ room_1.frames ∧ 8 + (nL2 + 11) + (rv_rm 30 res.1 res.2.1).locals ≤ room_1.locals := ⟨Nat.le_of_ble_eq_true rfl, by show 8 + (nL2 + 11) + 60 * 30 ≤ 84000; omega⟩
  obtain ⟨q, as', fs0, rfl, hq⟩ := rv_rcv_i hok
  obtain ⟨vb, As, rfl, hvb, hvAs⟩ := rv_Vs_c hvs
  obtain ⟨ad, e0, rfl, hat, he0⟩ := rv_ref_at hvb hw.1 hq
  obtain ⟨fsC, rfl, -⟩ := he0
  have hlA : As.length = d - 1 := by
    rw [← rv_Vs_len hvAs]
    have := hlen
    rw [List.length_cons] at this
    omega
  refine rv_call (va_runV (As := As) (rest := rest) ⟨hx, hb, hml, hown, hts⟩ hM ⟨callB_of (d - 1) hts (rv_gin hcw) rfl rfl rfl (hts _ hw4) (hts _ hw1) ⟨hnh.1, hnh.2, hnp⟩ hRR, hts _ hw2, hts _ hw3⟩ ⟨fun a U g mk q => by obtain ⟨q0, q1, qP, qK, qD⟩ := q; exact ⟨q0, q1, qP, qK.blind, qD⟩, va_recv hKK.1 hw.2.1 hclb hat, fun U hU hW => ⟨rfl, by rw [hU], by rw [hU]; exact hw.2.1, hKK.warm hW, hw.2.2.1.weaken (fun _ _ _ _ => trivial)⟩⟩ rfl hlA hls (by show stk = _; rw [hstk, List.reverse_cons, List.append_assoc]; rfl) (lv_room hrest) hdec hroom) hw.2.2.2.1 (fun q _ h => hfree q h) hfree (fun o ho ws2 v H1 locs1 hrv hW2 hext hP1 hD1 hS1 => ?_)
  obtain ⟨ext, hext⟩ := hext
  exact kk o ho ws2 v H1 locs1 hrv ⟨hW2, hP1, hD1.weaken (fun _ _ _ h => hfree _ h), hS1, ws2.map Prod.fst, rfl⟩ (by rw [hext]; exact rv_pfx)
set_option maxHeartbeats 1000000 in
theorem lw_cP {p : Program} {l : Launch} {e : Env} {s : State} {m : MethodId} {below : List Frame} {meth : Method} {c : Code} {b : Nat} {xs : Nat → Int32} {ρ : Nat → Int64} {D : va_G} {cA : Nat → ClassId} {L : Nat} (C0 : lw_At p s m meth c b L xs) (hKK : rv_KK D cA s) {k : Nat} {ts : List Nat} (hchk : rv_civ rv_inf R_law k 151 12 3 ts = true) {kin : rv_A} {h : List rv_C} {os : List rv_O} {kS vS ix : Nat} {st : List rv_A} {q1 : Nat} {z : Int32} (hcase : (ix = 11 ∧ st = [] ∧ ¬ nk_vn (ρ 0)) ∨ (ix = 5 ∧ nk_vn (ρ 0) ∧ st = [.inl (ik_r 31 1 0 (ρ 0))])) (hrun : np_m ix st kin h = some (0, 0, os)) (hok : rv_rcv 12 h [rv_ref 100] = true) {ws : va_W} {H : Heap} {locs : List Loc} {rest stk : List Value} (hvs : rv_Vs ρ (ws.map Prod.fst) [rv_ref 100, rv_sym 1, kin] [.ref q1, .long (ρ 0), .int z]) (hrest : (rest.map fun v => v.category).sum ≤ 8) {pc : Nat} {ls : Array Slot} (hls : ls.size = 4) (hdec : decode code pc = .ok (.invokevirtual k, 3)) (hw : rv_Wd ρ D cA (lw_A s) s [] h ws H locs) (hS : ns_S kS vS s H) {cells slots : Nat} (hroom : cells + 0 ≤ 600000 ∧ slots + 0 ≤ 7302250) (hstk : stk = [.int z, .long (ρ 0), .ref q1] ++ rest) {Q : State → Prop}
    (kk : ∀ o ∈ os, ∀ (ws2 : va_W) (v : Option Value) (H1 : Heap) (locs1 : List Loc), rv_rv ρ (ws2.map Prod.fst) o.1 v → rv_Wd ρ D cA (lw_A s) s [] o.2 ws2 H1 locs1 → (∀ (k q : Nat), (ws.map Prod.fst)[k]? = some q → (ws2.map Prod.fst)[k]? = some q) → W p l e room_1 s m #[Value.ref b] below meth c H1 locs1 (cells + 0) (slots + 0) Q (F0 m (pc + 3) ls (v.toList ++ rest))) : W p l e room_1 s m #[Value.ref b] below meth c H locs cells slots Q (F0 m pc ls stk) := by
  have hts := lw_hts C0
  obtain ⟨hx, hb, hr, hml, hown, -, hX, hbl, hlocks, hgv⟩ := C0
  have hinf : rv_inf[151]? = some (yX12_person, cX12_person, 4, some .int) := rfl
  obtain ⟨hcw, hnL2⟩ := rv_hcode _ _ _ _ _ hinf
  obtain ⟨hw1, hw2, hw3, hw4, hnh, hnp, hd1, T, N, hclb⟩ := rv_civ_s hinf hchk
  have hM := np_mod (l := l) (kS := kS) (vS := vS) hcase hrun D cA H.size ws q1 z hvs hw.1
  have hA : ∀ q, s.heap.size ≤ q → lw_A s q := fun _ h => h
  have hfree := rv_free hw.2.2.1 hw.2.2.2.1 hA
  have hRR : (rv_rm 30 0 0).frames + 1 ≤ room_1.frames ∧ 8 + (4 + 11) + (rv_rm 30 0 0).locals ≤ room_1.locals := ⟨Nat.le_of_ble_eq_true rfl, Nat.le_of_ble_eq_true rfl⟩
  obtain ⟨q, as', fs0, hqq, hq⟩ := rv_rcv_i hok
  cases hqq
  obtain ⟨ad, e0, hade, hat, he0⟩ := rv_ref_at hvs.1 hw.1 hq
  cases hade
  obtain ⟨fsC, rfl, -⟩ := he0
  refine rv_call (va_runV (As := [.long (ρ 0), .int z]) (rest := rest) ⟨hx, hb, hml, hown, hts⟩ hM ⟨callB_of (3 - 1) hts (rv_gin hcw) rfl rfl rfl (hts _ hw4) (hts _ hw1) ⟨hnh.1, hnh.2, hnp⟩ hRR, hts _ hw2, hts _ hw3⟩ ⟨fun a U g mk q => by obtain ⟨q0, ⟨q1, qP, qK, qD⟩, qS⟩ := q; exact ⟨q0, ⟨q1, qP, qK.blind, qD⟩, qS.blind⟩, va_recv hKK.1 hw.2.1 hclb hat, fun U hU hW => ⟨rfl, ⟨by rw [hU], by rw [hU]; exact hw.2.1, hKK.warm hW, hw.2.2.1.weaken (fun _ _ _ _ => trivial)⟩, by show ns_S kS vS U U.heap; rw [hU]; exact hS.warm hW⟩⟩ rfl rfl hls hstk (lv_room hrest) hdec hroom) hw.2.2.2.1 (fun q _ h => hfree q h) hfree (fun o ho ws2 v H1 locs1 hrv hW2 hext hP1 hD1 hS1 => ?_)
  obtain ⟨ext, hext⟩ := hext
  exact kk o ho ws2 v H1 locs1 hrv ⟨hW2, hP1, hD1.weaken (fun _ _ _ h => hfree _ h), hS1, ws2.map Prod.fst, rfl⟩ (by rw [hext]; exact rv_pfx)
set_option maxHeartbeats 4000000 in
set_option maxRecDepth 100000 in
theorem ns_elm {b : Nat} {s : State} (hgv : (Jvm.Cond.and given_1 narrow_1).before #[Value.ref b] s = true) : ∀ j : Nat, j < 32 → (Cond.eq (.elem (.field (.string "CabinPeaceModel" 187) "java/lang/String" "value" "[B") (.int (Int32.ofNat j))) (.int (ns_b.getD j 0))).before #[Value.ref b] s = true := by
  intro j hj
  have hs := flat_of_before _ hgv
  rcases (show j = 0 ∨ j = 1 ∨ j = 2 ∨ j = 3 ∨ j = 4 ∨ j = 5 ∨ j = 6 ∨ j = 7 ∨ j = 8 ∨ j = 9 ∨ j = 10 ∨ j = 11 ∨ j = 12 ∨ j = 13 ∨ j = 14 ∨ j = 15 ∨ j = 16 ∨ j = 17 ∨ j = 18 ∨ j = 19 ∨ j = 20 ∨ j = 21 ∨ j = 22 ∨ j = 23 ∨ j = 24 ∨ j = 25 ∨ j = 26 ∨ j = 27 ∨ j = 28 ∨ j = 29 ∨ j = 30 ∨ j = 31 by omega) with rfl | rfl | rfl | rfl | rfl | rfl | rfl | rfl | rfl | rfl | rfl | rfl | rfl | rfl | rfl | rfl | rfl | rfl | rfl | rfl | rfl | rfl | rfl | rfl | rfl | rfl | rfl | rfl | rfl | rfl | rfl | rfl
  · exact hs _ (by decide +kernel)
  · exact hs _ (by decide +kernel)
  · exact hs _ (by decide +kernel)
  · exact hs _ (by decide +kernel)
  · exact hs _ (by decide +kernel)
  · exact hs _ (by decide +kernel)
  · exact hs _ (by decide +kernel)
  · exact hs _ (by decide +kernel)
  · exact hs _ (by decide +kernel)
  · exact hs _ (by decide +kernel)
  · exact hs _ (by decide +kernel)
  · exact hs _ (by decide +kernel)
  · exact hs _ (by decide +kernel)
  · exact hs _ (by decide +kernel)
  · exact hs _ (by decide +kernel)
  · exact hs _ (by decide +kernel)
  · exact hs _ (by decide +kernel)
  · exact hs _ (by decide +kernel)
  · exact hs _ (by decide +kernel)
  · exact hs _ (by decide +kernel)
  · exact hs _ (by decide +kernel)
  · exact hs _ (by decide +kernel)
  · exact hs _ (by decide +kernel)
  · exact hs _ (by decide +kernel)
  · exact hs _ (by decide +kernel)
  · exact hs _ (by decide +kernel)
  · exact hs _ (by decide +kernel)
  · exact hs _ (by decide +kernel)
  · exact hs _ (by decide +kernel)
  · exact hs _ (by decide +kernel)
  · exact hs _ (by decide +kernel)
  · exact hs _ (by decide +kernel)
theorem lw_ns {p : Program} {s : State} {m : MethodId} {meth : Method} {c : Code} {b L : Nat} {xs : Nat → Int32} (C0 : lw_At p s m meth c b L xs) : ∃ kS vS : Nat, ∀ (H : Heap) (locs : List Loc), va_S (lw_A s) s.heap H locs → ns_S kS vS s H := by
  obtain ⟨hx, hb, hr, hml, hown, hts0, hX, hbl, hlocks, hgv⟩ := C0
  have hs := flat_of_before _ hgv
  have hA : ∀ a : Nat, a < s.heap.size → ¬ lw_A s a := fun a h => Nat.not_le.mpr h
  have hne : ∀ {i : Nat}, i < 1 → i = 0 := fun h => by omega
  obtain ⟨adK, adV, hV, hE⟩ := vk_Sof (args := #[Value.ref b]) (s := s) (N := 1) (tm := fun _ => .string "CabinPeaceModel" 187) (len := [32]) (byt := [ns_b]) (A := lw_A s) (fun i hi => by rw [hne hi]; decide) (fun i _ => hs _ (by decide +kernel)) (fun i _ => hs _ (by decide +kernel)) (fun i _ => hs _ (by decide +kernel)) (fun i hi => by rw [hne hi]; exact hs _ (by decide +kernel)) (fun i hi j hj => by rw [hne hi] at hj ⊢; exact ns_elm hgv j hj) (fun i j hi hj h => absurd ((hne hi).trans (hne hj).symm) h) hA
  have hZ := va_Zof (v := .int 1) (A := lw_A s) (hts0 (.laysStatic "java/lang/String" "COMPACT_STRINGS" "Z") (rv_chn_s 16 _ (List.mem_of_getElem? (i := 110) (by decide +kernel)))) (hts0 (.initialized "java/lang/String") (rv_chn_s 10 _ (List.mem_of_getElem? (i := 17) (by decide +kernel)))) (va_eqt (hs (Cond.eq (.static "java/lang/String" "COMPACT_STRINGS" "Z") (.int 1)) (by decide +kernel))) hA
  have hF := va_Zqof (A := lw_A s) (hts0 (.laysStatic "jdk/internal/util/Preconditions" "SIOOBE_FORMATTER" "Ljava/util/function/BiFunction;") (rv_chn_s 16 _ (List.mem_of_getElem? (i := 126) (by decide +kernel)))) (hts0 (.initialized "jdk/internal/util/Preconditions") (rv_chn_s 10 _ (List.mem_of_getElem? (i := 19) (by decide +kernel)))) (hs (Cond.isRef (.static "jdk/internal/util/Preconditions" "SIOOBE_FORMATTER" "Ljava/util/function/BiFunction;")) (by decide +kernel)) hA
  have hRf := vk_R.of (hts0 (.stringRef "CabinPeaceModel" 187 " add bar if or and not size kin ") (rv_chn_s 16 _ (List.mem_of_getElem? (i := 100) (by decide +kernel)))) (hE 0 (by decide))
  refine ⟨adK 0, adV 0, fun H locs hS => ⟨?_, (hZ.kept hS.2.1).narrow (fun _ h => h.elim), (hF.kept hS.2.1).narrow (fun _ h => h.elim), hRf⟩⟩
  have h1 := (hV.kept hS.2.1).narrow (B := fun _ => False) (fun _ h => h.elim)
  exact ⟨fun i hi => by have := h1.1 i hi; rw [hne hi] at this ⊢; exact this, fun i j hi hj _ => (hne hi).trans (hne hj).symm⟩
def lw_rho (xs : Nat → Int32) : Nat → Int64 := fun _ => ((xs 1).toInt64 <<< ((32 : Int32).toInt64 &&& 63)) ||| ((xs 2).toInt64 &&& 4294967295)
set_option maxHeartbeats 1000000 in
/-- person -/
theorem lw_k5 {p : Program} {l : Launch} {e : Env} {s : State} {m : MethodId} {below : List Frame} {meth : Method} {c : Code} {b : Nat} {xs : Nat → Int32} {ρ : Nat → Int64} {D : va_G} {cA : Nat → ClassId} (C : lw_X p s m meth c b xs D cA) {ws : va_W} {H : Heap} {locs : List Loc} {ls : Array Slot} {q0 q1 : Nat} (hw : rv_Wd ρ D cA (lw_A s) s [] rh_2 ws H locs) (hq0 : (ws.map Prod.fst)[0]? = some q0) (hq1 : (ws.map Prod.fst)[100]? = some q1) (hl : lv_has ls 4 [(0, .ref b), (1, .ref q0), (2, .ref q1), (3, .int 0)]) (hρ : ρ = lw_rho xs) : W p l e room_1 s m #[Value.ref b] below meth c H locs 143 52759 (lw_Z below #[Value.ref b] s) (F0 m 418 ls []) := by
  obtain ⟨C0, hKK⟩ := C
  have hts2 := lw_hts C0
  have hx := C0.1
  have hb := C0.2.1
  have hown := C0.2.2.2.2.1
  obtain ⟨kS, vS, hns⟩ := lw_ns C0
  have hρ0 : ρ 0 = (((xs 1).toInt64 <<< ((32 : Int32).toInt64 &&& 63)) ||| ((xs 2).toInt64 &&& 4294967295)) := by rw [hρ]; rfl
  obtain ⟨qk, hqk, hk1, hk2⟩ := rv_cov_s np_kc (xs 3) (xs 3).le_toInt
  have hkin : rv_V ρ (ws.map Prod.fst) (rv_mk qk) (.int (xs 3)) := rv_mk_s hk1 hk2
  have hkL : rv_isL (rv_mk qk) = false := by
    unfold rv_mk
    split <;> rfl
  obtain ⟨kv, ix, st, hkv, hcase, hchk⟩ : ∃ (kv : Int32) (ix : Nat) (st : List rv_A), (((nk_vn (ρ 0) ∧ ¬ nk_kw (ρ 0)) ∧ kv = Int32.ofNat 1) ∨ (¬ (nk_vn (ρ 0) ∧ ¬ nk_kw (ρ 0)) ∧ kv = Int32.ofNat 0)) ∧ ((ix = 11 ∧ st = [] ∧ ¬ nk_vn (ρ 0)) ∨ (ix = 5 ∧ nk_vn (ρ 0) ∧ st = [.inl (ik_r 31 1 0 (ρ 0))])) ∧ np_chk kv ix st (rv_mk qk) = true := by
    by_cases hvn : nk_vn (ρ 0)
    · rcases ik_kw (ρ 0) with ⟨hkw, he⟩ | ⟨hkw, he⟩
      · exact ⟨_, 5, _, Or.inr ⟨fun q => q.2 hkw, rfl⟩, Or.inr ⟨rfl, hvn, rfl⟩, by rw [he]; exact np_C qk hqk⟩
      · exact ⟨_, 5, _, Or.inl ⟨⟨hvn, hkw⟩, rfl⟩, Or.inr ⟨rfl, hvn, rfl⟩, by rw [he]; exact np_A qk hqk⟩
    · exact ⟨_, 11, [], Or.inr ⟨fun q => hvn q.1, rfl⟩, Or.inl ⟨rfl, rfl, hvn⟩, np_B qk hqk⟩
  obtain ⟨os, hev, hos⟩ := np_chk_s hchk
  refine lv_aload_n hx hb dL_law_418 rfl (lv_at hl 1 rfl) ?_
  refine lw_arg C0 (j := 1) (pc := 419) (by decide) (by decide) dL_law_419 dL_law_420 dL_law_421 dL_law_422 dL_law_423 hl (lv_at hl 0 rfl) (lv_at hl 3 rfl) hw.2.2.2.1 ?_
  refine lv_i2l hx hb dL_law_424 rfl ?_
  refine lv_bipush (v := 32) hx hb dL_law_425 (by decide) ?_
  refine lv_lshl hx hb dL_law_427 rfl ?_
  refine lw_arg C0 (j := 2) (pc := 428) (by decide) (by decide) dL_law_428 dL_law_429 dL_law_430 dL_law_431 dL_law_432 hl (lv_at hl 0 rfl) (lv_at hl 3 rfl) hw.2.2.2.1 ?_
  refine lv_i2l hx hb dL_law_433 rfl ?_
  refine lv_ldc2 (v := 4294967295) hx hb hown (hts2 _ (rv_w_s (p := 18061) (by decide +kernel))) dL_law_434 ?_
  refine lv_land hx hb dL_law_437 ?_
  refine lv_lor hx hb dL_law_438 ?_
  refine lw_arg C0 (j := 3) (pc := 439) (by decide) (by decide) dL_law_439 dL_law_440 dL_law_441 dL_law_442 dL_law_443 hl (lv_at hl 0 rfl) (lv_at hl 3 rfl) hw.2.2.2.1 ?_
  refine lw_cM C0 hKK (k := 40) (mi := 84) (ci := 11) (d := 3) (ts := [12104, 12105, 12106, 10001]) (by decide +kernel) (np_cls hkL hkv hev) ⟨_, rfl⟩ rfl rfl (vs := [.ref q0, .long (ρ 0), .int (xs 3)]) (rest := []) ⟨⟨q0, hq0, rfl⟩, ⟨_, rfl, fun k hk => by cases hk; rfl⟩, hkin, True.intro⟩ (Nat.le_of_ble_eq_true rfl) hl.1 dL_law_444 hw ⟨Nat.le_of_ble_eq_true rfl, Nat.le_of_ble_eq_true rfl⟩ (by rw [hρ0]; rfl) (fun o ho ws2 v H1 locs1 hrv hw2 hmn => ?_)
  obtain ⟨v1, os2, ho1, hC, hrc, hev2, h2⟩ := np_b2_s (hos o ho)
  rw [ho1] at hrv
  cases v with
  | none => exact hrv.elim
  | some w =>
    obtain ⟨z, rfl, rfl⟩ := rv_isC_f hC (show rv_V ρ (ws2.map Prod.fst) v1 w from hrv)
    refine lv_aload_n hx hb dL_law_447 rfl (lv_at hl 2 rfl) ?_
    refine lw_arg C0 (j := 1) (pc := 448) (by decide) (by decide) dL_law_448 dL_law_449 dL_law_450 dL_law_451 dL_law_452 hl (lv_at hl 0 rfl) (lv_at hl 3 rfl) hw2.2.2.2.1 ?_
    refine lv_i2l hx hb dL_law_453 rfl ?_
    refine lv_bipush (v := 32) hx hb dL_law_454 (by decide) ?_
    refine lv_lshl hx hb dL_law_456 rfl ?_
    refine lw_arg C0 (j := 2) (pc := 457) (by decide) (by decide) dL_law_457 dL_law_458 dL_law_459 dL_law_460 dL_law_461 hl (lv_at hl 0 rfl) (lv_at hl 3 rfl) hw2.2.2.2.1 ?_
    refine lv_i2l hx hb dL_law_462 rfl ?_
    refine lv_ldc2 (v := 4294967295) hx hb hown (hts2 _ (rv_w_s (p := 18061) (by decide +kernel))) dL_law_463 ?_
    refine lv_land hx hb dL_law_466 ?_
    refine lv_lor hx hb dL_law_467 ?_
    refine lw_arg C0 (j := 3) (pc := 468) (by decide) (by decide) dL_law_468 dL_law_469 dL_law_470 dL_law_471 dL_law_472 hl (lv_at hl 0 rfl) (lv_at hl 3 rfl) hw2.2.2.2.1 ?_
    refine lw_cP C0 hKK (k := 44) (ts := [16087, 16088, 16089, 10013]) (by decide +kernel) hcase hev2 hrc (q1 := q1) (z := xs 3) ⟨⟨q1, hmn _ _ hq1, rfl⟩, ⟨_, rfl, fun k hk => by cases hk; rfl⟩, rv_V_mono hmn hkin, True.intro⟩ (rest := [.int z]) (Nat.le_of_ble_eq_true rfl) hl.1 dL_law_473 hw2 (hns _ _ hw2.2.2.2.1) ⟨Nat.le_of_ble_eq_true rfl, Nat.le_of_ble_eq_true rfl⟩ (by rw [hρ0]; rfl) (fun o2 ho2 ws3 v3 H2 locs2 hrv2 hw3 hmn2 => ?_)
    rw [h2 o2 ho2] at hrv2
    cases v3 with
    | none => exact hrv2.elim
    | some w2 =>
      cases (show w2 = .int z from hrv2)
      refine lv_icmp_eq (tgt := 1477) hx hb dL_law_476 (by decide) (fun _ => ?_) (fun q => absurd rfl q)
      exact lw_end C0 hl hw3.2.2.2.1 (Nat.le_of_ble_eq_true rfl) (Nat.le_of_ble_eq_true rfl)
