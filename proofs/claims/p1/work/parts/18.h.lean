theorem nq_mp_0 : decode cX12_person 0 = .ok (.lload_n 1, 1) := by decide +kernel
theorem nq_mp_1 : decode cX12_person 1 = .ok (.invokestatic 199, 3) := by decide +kernel
theorem nq_mp_4 : decode cX12_person 4 = .ok (.ifCond .eq 20, 3) := by decide +kernel
theorem nq_mp_7 : decode cX12_person 7 = .ok (.lload_n 1, 1) := by decide +kernel
theorem nq_mp_8 : decode cX12_person 8 = .ok (.invokestatic 203, 3) := by decide +kernel
theorem nq_mp_11 : decode cX12_person 11 = .ok (.ifCond .ne 13, 3) := by decide +kernel
set_option maxHeartbeats 1000000 in
/-- a method out of one run of the evaluator, the calls' contracts given -/
theorem rv_meth_ok {l : Launch} {ρ : Nat → Int64} {d : Nat} {call : Nat → List rv_A → List rv_C → Option rv_R} (hcall : ∀ mi as h res, call mi as h = some res → rv_Mt l ρ d mi as h res ∧ ∃ i, rv_inf[mi]? = some i) {mi n : Nat} {as : List rv_A} {h : List rv_C} {res : rv_R} {body : List rv_I} {nL rt : Nat} (htab : rv_tab[mi]? = some (body, nL, rt)) (hwd : rv_wd as ≤ nL) (hh : rv_run call rv_nw rv_ct body nL rt n body (rv_loc as 0) [] h 0 0 = some res) : rv_Mt l ρ (d + 1) mi as h res := by
  intro y bytes nL2 ret hinf D cA sz ws vs hvs hws
  obtain ⟨e1, f2, f3, f4, f5, f6, f7, f8, f9⟩ := rv_fct hinf htab
  subst e1
  refine rv_ofW (cc := bytes) (maxL := nL2) (ret := ret) f3 rfl ?_
  intro p e s m args below meth c s₁ B hml hv
  obtain ⟨rfl, hsz, hP, hKK, hD0⟩ := hv
  subst hsz
  have hts := atoms_spec (ws := rv_ws y bytes nL2 ret) B.pre
  have hD := hD0.self (sz := s.heap.size)
  cases hbd : body with
  | nil => rw [hbd] at hh; exact (rv_run_nil hh).elim
  | cons e0 t0 =>
    have h0 := f6 e0 t0 hbd
    have hG := rv_run_ok (p := p) (l := l) (e := e) (R := (headSpec (rv_ws y bytes nL2 ret) (rv_rm (d + 1) res.1 res.2.1)).room) (s := s) (m := m) (args := vs.toArray) (below := below) (meth := meth) (c := c) (ρ := ρ) (D := D) (cA := cA) (A := va_A ws s.heap.size) (L0 := ws.map Prod.fst) hcall rv_hcode rv_cf rv_hini (y := y) (bytes := bytes) (nL := nL2) (rt := rt) (ret := ret) (body := body) ⟨B.exec, B.bytes, hml, findClass_of_methodNamed B.named, fun w hw => hts w (List.mem_cons_of_mem _ hw), B.returns, B.notSynchronized, fun hy => by rw [(name_of_methodNamed B.named B.method).1]; exact hy, hKK, fun q hq => Or.inr hq⟩ f2 f9 f8 f5 ⟨rfl, rfl⟩ n body (rv_loc as 0) [] h 0 0 res hh ⟨[], rfl⟩ e0 t0 hbd
    have hl := lv_entry vs (n := nL2) (by rw [rv_slen hvs]; exact hwd)
    rw [lg_entry_eq]
    rw [h0] at hG
    exact hG.2 res rv_sub.rf rfl rfl _ _ [] ws s.heap [] hl (rv_loc_ok 0 hvs) True.intro ⟨hws, hP, hD, va_S.rf, [], (List.append_nil _).symm⟩
noncomputable def np_call (kv : Int32) : Nat → List rv_A → List rv_C → Option rv_R := fun mi as h => match nk_call 27 kv mi as h with
  | some r => some r
  | none => rv_ev rv_nw rv_ct rv_tab rv_no 29 mi as h
noncomputable def np_ev : Nat → List rv_A → List rv_C → Option rv_R := rv_ev rv_nw rv_ct rv_tab rv_no 29
noncomputable def np_c (kv : Int32) (kin : rv_A) : Option rv_R := rv_run (np_call kv) rv_nw rv_ct rb_84 4 0 1000 rb_84 (rv_loc [rv_ref 0, rv_sym 1, kin] 0) [] rh_2 0 0
noncomputable def np_m (ix : Nat) (st : List rv_A) (kin : rv_A) (h : List rv_C) : Option rv_R := rv_run np_ev rv_nw rv_ct rb_151 4 0 1000 (rv_drop ix rb_151) (rv_loc [rv_ref 100, rv_sym 1, kin] 0) st h 0 0
noncomputable def np_b2 (ix : Nat) (st : List rv_A) (kin : rv_A) (o : rv_O) : Bool := match o.1 with
  | some v => rv_isC false v && rv_rcv 12 o.2 [rv_ref 100] && (match np_m ix st kin o.2 with
    | some (mc, ms, os) => mc.beq 0 && ms.beq 0 && os.all (fun o2 => match o2.1 with
      | some v2 => rv_eqA v v2
      | none => false)
    | none => false)
  | none => false
noncomputable def np_chk (kv : Int32) (ix : Nat) (st : List rv_A) (kin : rv_A) : Bool := match np_c kv kin with
  | some (mc, ms, os) => mc.beq 0 && ms.beq 0 && os.all (np_b2 ix st kin)
  | none => false
theorem np_b2_s {ix : Nat} {st : List rv_A} {kin : rv_A} {o : rv_O} (h : np_b2 ix st kin o = true) : ∃ v os, o.1 = some v ∧ rv_isC false v = true ∧ rv_rcv 12 o.2 [rv_ref 100] = true ∧ np_m ix st kin o.2 = some (0, 0, os) ∧ ∀ o2 ∈ os, o2.1 = some v := by
  unfold np_b2 at h
  split at h
  · rename_i v hv
    simp only [Bool.and_eq_true] at h
    obtain ⟨⟨h1, h1b⟩, h2⟩ := h
    split at h2
    · rename_i mc ms os he
      simp only [Bool.and_eq_true] at h2
      obtain ⟨⟨e1, e2⟩, e3⟩ := h2
      have e1 := Nat.eq_of_beq_eq_true e1
      have e2 := Nat.eq_of_beq_eq_true e2
      subst e1 e2
      refine ⟨v, os, hv, h1, h1b, he, fun o2 ho2 => ?_⟩
      have h4 := List.all_eq_true.mp e3 o2 ho2
      split at h4
      · rename_i v2 hv2
        rw [hv2, rv_eqA_s h4]
      · cases h4
    · cases h2
  · cases h
theorem np_chk_s {kv : Int32} {ix : Nat} {st : List rv_A} {kin : rv_A} (h : np_chk kv ix st kin = true) : ∃ os, np_c kv kin = some (0, 0, os) ∧ ∀ o ∈ os, np_b2 ix st kin o = true := by
  unfold np_chk at h
  split at h
  · rename_i mc ms os he
    simp only [Bool.and_eq_true] at h
    obtain ⟨⟨e1, e2⟩, e3⟩ := h
    have e1 := Nat.eq_of_beq_eq_true e1
    have e2 := Nat.eq_of_beq_eq_true e2
    subst e1 e2
    exact ⟨os, he, List.all_eq_true.mp e3⟩
  · cases h
def np_k : List (Int32 × Int32) := [(-2147483648, -1), (0, 9), (10, 2147483647)]
theorem np_kc : rv_cov (-2147483648) np_k = true := by decide +kernel
set_option maxRecDepth 1000000 in
theorem np_A : ∀ q ∈ np_k, np_chk (Int32.ofNat 1) 5 [.inl 0] (rv_mk q) = true := List.all_eq_true.mp (show np_k.all (fun q => np_chk (Int32.ofNat 1) 5 [.inl 0] (rv_mk q)) = true by decide +kernel)
set_option maxRecDepth 1000000 in
theorem np_B : ∀ q ∈ np_k, np_chk (Int32.ofNat 0) 11 [] (rv_mk q) = true := List.all_eq_true.mp (show np_k.all (fun q => np_chk (Int32.ofNat 0) 11 [] (rv_mk q)) = true by decide +kernel)
set_option maxRecDepth 1000000 in
theorem np_C : ∀ q ∈ np_k, np_chk (Int32.ofNat 0) 5 [.inl 1] (rv_mk q) = true := List.all_eq_true.mp (show np_k.all (fun q => np_chk (Int32.ofNat 0) 5 [.inl 1] (rv_mk q)) = true by decide +kernel)
/-- the class's person -/
theorem np_cls {l : Launch} {ρ : Nat → Int64} {kv : Int32} {kin : rv_A} {res : rv_R} (hkin : rv_isL kin = false) (hkv : ((nk_vn (ρ 0) ∧ ¬ nk_kw (ρ 0)) ∧ kv = Int32.ofNat 1) ∨ (¬ (nk_vn (ρ 0) ∧ ¬ nk_kw (ρ 0)) ∧ kv = Int32.ofNat 0)) (h : np_c kv kin = some res) : rv_Mt l ρ 30 84 [rv_ref 0, rv_sym 1, kin] rh_2 res := by
  refine rv_meth_ok (d := 29) (call := np_call kv) (fun mi as h res hc => ?_) (n := 1000) (body := rb_84) (nL := 4) (rt := 0) rfl ?_ h
  · unfold np_call at hc
    split at hc
    · rename_i r hr
      cases hc
      obtain ⟨rfl, rfl, rfl⟩ := nk_call_s hr
      exact ⟨nk_can (d := 27) hkv, _, rfl⟩
    · exact rv_ev_ok lw_no 29 mi as h res hc
  · show 1 + (2 + (rv_cat kin + 0)) ≤ 4
    unfold rv_cat
    rw [hkin]
    decide
/-- the reference's person -/
theorem np_mod {l : Launch} {ρ : Nat → Int64} {kin : rv_A} {h : List rv_C} {os : List rv_O} {kS vS ix : Nat} {st : List rv_A} (hcase : (ix = 11 ∧ st = [] ∧ ¬ nk_vn (ρ 0)) ∨ (ix = 5 ∧ nk_vn (ρ 0) ∧ st = [.inl (ik_r 31 1 0 (ρ 0))])) (hrun : np_m ix st kin h = some (0, 0, os)) (D : va_G) (cA : Nat → ClassId) (sz : Nat) (ws : va_W) (q1 : Nat) (z : Int32) (hvs : rv_Vs ρ (ws.map Prod.fst) [rv_ref 100, rv_sym 1, kin] [.ref q1, .long (ρ 0), .int z]) (hws : rv_Ws ρ (ws.map Prod.fst) cA h ws) :
    Met l yX12_person (rv_ws yX12_person cX12_person 4 (some .int)) (rv_rm 30 0 0) (va_Pc [.ref q1, .long (ρ 0), .int z] (fun U => (U.heap.size = sz ∧ va_P D rv_cl ws U.heap ∧ rv_KK D cA U ∧ va_D (fun _ => True) ws) ∧ ns_S kS vS U U.heap)) (rv_Q ρ D cA (ws.map Prod.fst) (va_A ws sz) os) 0 0 (va_A ws sz) := by
  obtain ⟨-, f2, f3, f4, f5, f6, f7, f8, f9⟩ := rv_fct (mi := 151) rfl rfl
  refine rv_ofW (cc := cX12_person) (maxL := 4) (ret := some .int) f3 rfl ?_
  intro p e s m args below meth c s₁ B hml hv
  obtain ⟨rfl, ⟨hsz, hP, hKK, hD0⟩, hS⟩ := hv
  subst hsz
  have hts0 := atoms_spec (ws := rv_ws yX12_person cX12_person 4 (some .int)) B.pre
  have hts : ∀ w ∈ rv_T2, w.before ([Value.ref q1, .long (ρ 0), .int z] : List Value).toArray s = true := fun w hw => hts0 w (List.mem_cons_of_mem _ hw)
  have hD := hD0.self (sz := s.heap.size)
  have hx := B.exec
  have hb := B.bytes
  have hown : s.vm.findClass RX12 = some m.cls := findClass_of_methodNamed B.named
  have hl := lv_entry [.ref q1, .long (ρ 0), .int z] (n := 4) (Nat.le_of_ble_eq_true rfl)
  rw [lg_entry_eq]
  generalize (lg_sl [.ref q1, .long (ρ 0), .int z] ++ List.replicate (4 - (lg_sl [.ref q1, .long (ρ 0), .int z]).length) Slot.unset).toArray = ls at hl ⊢
  have G : ∀ (e0 : rv_I) (t0 : List rv_I) (stk : List Value), rb_151.drop ix = e0 :: t0 → rv_Vs ρ (ws.map Prod.fst) st stk → W p l e (rv_rm 30 0 0) s m ([Value.ref q1, .long (ρ 0), .int z] : List Value).toArray below meth c s.heap [] 0 0 (MQ below (rv_Q ρ D cA (ws.map Prod.fst) (va_A ws s.heap.size) os) ([Value.ref q1, .long (ρ 0), .int z] : List Value).toArray s 0 0 (va_A ws s.heap.size)) (F0 m e0.1 ls stk) := fun e0 t0 stk hd hst => by
    have hrun2 : rv_run np_ev rv_nw rv_ct rb_151 4 0 1000 (rv_drop ix rb_151) (rv_loc [rv_ref 100, rv_sym 1, kin] 0) st h 0 0 = some (0, 0, os) := hrun
    rw [rv_drop_eq, hd] at hrun2
    have hG := rv_run_ok (p := p) (l := l) (e := e) (R := rv_rm 30 0 0) (s := s) (m := m) (args := ([Value.ref q1, .long (ρ 0), .int z] : List Value).toArray) (below := below) (meth := meth) (c := c) (ρ := ρ) (D := D) (cA := cA) (A := va_A ws s.heap.size) (L0 := ws.map Prod.fst) (d := 29) (call := np_ev) (fun mi as h res hc => rv_ev_ok lw_no 29 mi as h res hc) rv_hcode rv_cf rv_hini (y := yX12_person) (bytes := cX12_person) (nL := 4) (rt := 0) (ret := some .int) (body := rb_151) ⟨hx, hb, hml, hown, hts, B.returns, B.notSynchronized, fun hy => by rw [(name_of_methodNamed B.named B.method).1]; exact hy, hKK, fun q hq => Or.inr hq⟩ f2 f9 f8 f5 ⟨rfl, rfl⟩ 1000 (e0 :: t0) _ st h 0 0 (0, 0, os) hrun2 ⟨rb_151.take ix, by rw [← hd]; exact (List.take_append_drop ix _).symm⟩ e0 t0 rfl
    exact hG.2 (0, 0, os) rv_sub.rf rfl rfl ls _ stk ws s.heap [] hl (rv_loc_ok 0 hvs) hst ⟨hws, hP, hD, va_S.rf, [], (List.append_nil _).symm⟩
  have hl2 : lv_has ls 4 [(0, .ref q1), (1, .long (ρ 0)), (3, .int z)] := hl
  refine lv_lload_n hx hb nq_mp_0 rfl (lv_at hl2 1 rfl) ?_
  rcases hcase with ⟨rfl, rfl, hn⟩ | ⟨rfl, hn, rfl⟩
  · refine ns_cS (n := 1) hx hb hml hown hts hS ⟨rfl, rfl⟩ (nm_nam (d := 29) (r := 0) (Or.inr ⟨hn, rfl⟩)) nw_nam (rv_w_s (p := 16091) (by decide +kernel)) (rv_w_s (p := 16092) (by decide +kernel)) (rv_w_s (p := 10013) (by decide +kernel)) (by decide +kernel) rfl (by decide) hl2.1 (rest := []) (Nat.le_of_ble_eq_true rfl) nq_mp_1 rfl ?_
    refine lv_if_eq (tgt := 24) hx hb nq_mp_4 (by decide) (fun _ => ?_) (fun q => absurd rfl q)
    exact G _ _ [] rfl True.intro
  · refine ns_cS (n := 1) hx hb hml hown hts hS ⟨rfl, rfl⟩ (nm_nam (d := 29) (r := 1) (Or.inl ⟨hn, rfl⟩)) nw_nam (rv_w_s (p := 16091) (by decide +kernel)) (rv_w_s (p := 16092) (by decide +kernel)) (rv_w_s (p := 10013) (by decide +kernel)) (by decide +kernel) rfl (by decide) hl2.1 (rest := []) (Nat.le_of_ble_eq_true rfl) nq_mp_1 rfl ?_
    refine lv_if_eq (tgt := 24) hx hb nq_mp_4 (by decide) (fun q => absurd q (by decide)) (fun _ => ?_)
    refine lv_lload_n hx hb nq_mp_7 rfl (lv_at hl2 1 rfl) ?_
    refine ns_cS (n := 1) hx hb hml hown hts hS ⟨rfl, rfl⟩ (ns_key (d := 25) rfl (by rcases ik_kw (ρ 0) with ⟨-, w⟩ | ⟨-, w⟩ <;> simp [w])) nw_key (rv_w_s (p := 16097) (by decide +kernel)) (rv_w_s (p := 16098) (by decide +kernel)) (rv_w_s (p := 10013) (by decide +kernel)) (by decide +kernel) rfl (by decide) hl2.1 (rest := []) (Nat.le_of_ble_eq_true rfl) nq_mp_8 rfl ?_
    exact G _ _ [.int (ik_r 31 1 0 (ρ 0))] rfl ⟨rfl, True.intro⟩
