/-! STRINGS -/
theorem nq_coder_0 : decode cJ0_coder_7d493 0 = .ok (.getstatic 38, 3) := by decide +kernel
theorem nq_coder_3 : decode cJ0_coder_7d493 3 = .ok (.ifCond .eq 10, 3) := by decide +kernel
theorem nq_coder_6 : decode cJ0_coder_7d493 6 = .ok (.aload_n 0, 1) := by decide +kernel
theorem nq_coder_7 : decode cJ0_coder_7d493 7 = .ok (.getfield 15, 3) := by decide +kernel
theorem nq_coder_10 : decode cJ0_coder_7d493 10 = .ok (.goto 4, 3) := by decide +kernel
theorem nq_coder_13 : decode cJ0_coder_7d493 13 = .ok (.iconst 1, 1) := by decide +kernel
theorem nq_coder_14 : decode cJ0_coder_7d493 14 = .ok (.ireturn, 1) := by decide +kernel
theorem nw_coder : Cond.code yJ0_coder_7d493 cJ0_coder_7d493 1 (some .byte) ∈ rv_T2 := (rv_w_s (p := 16108) (by decide +kernel))
theorem np_coder : plainFor yJ0_coder_7d493 = true := by decide +kernel
theorem nq_len_0 : decode cJ0_length_8abf5 0 = .ok (.aload_n 0, 1) := by decide +kernel
theorem nq_len_1 : decode cJ0_length_8abf5 1 = .ok (.getfield 9, 3) := by decide +kernel
theorem nq_len_4 : decode cJ0_length_8abf5 4 = .ok (.arraylength, 1) := by decide +kernel
theorem nq_len_5 : decode cJ0_length_8abf5 5 = .ok (.aload_n 0, 1) := by decide +kernel
theorem nq_len_6 : decode cJ0_length_8abf5 6 = .ok (.invokevirtual 335, 3) := by decide +kernel
theorem nq_len_9 : decode cJ0_length_8abf5 9 = .ok (.ishr, 1) := by decide +kernel
theorem nq_len_10 : decode cJ0_length_8abf5 10 = .ok (.ireturn, 1) := by decide +kernel
theorem nw_len : Cond.code yJ0_length_8abf5 cJ0_length_8abf5 1 (some .int) ∈ rv_T2 := (rv_w_s (p := 16104) (by decide +kernel))
theorem np_len : plainFor yJ0_length_8abf5 = true := by decide +kernel
theorem nq_lat_0 : decode cJ0_isLatin1_aae02 0 = .ok (.getstatic 38, 3) := by decide +kernel
theorem nq_lat_3 : decode cJ0_isLatin1_aae02 3 = .ok (.ifCond .eq 14, 3) := by decide +kernel
theorem nq_lat_6 : decode cJ0_isLatin1_aae02 6 = .ok (.aload_n 0, 1) := by decide +kernel
theorem nq_lat_7 : decode cJ0_isLatin1_aae02 7 = .ok (.getfield 15, 3) := by decide +kernel
theorem nq_lat_10 : decode cJ0_isLatin1_aae02 10 = .ok (.ifCond .ne 7, 3) := by decide +kernel
theorem nq_lat_13 : decode cJ0_isLatin1_aae02 13 = .ok (.iconst 1, 1) := by decide +kernel
theorem nq_lat_14 : decode cJ0_isLatin1_aae02 14 = .ok (.goto 4, 3) := by decide +kernel
theorem nq_lat_17 : decode cJ0_isLatin1_aae02 17 = .ok (.iconst 0, 1) := by decide +kernel
theorem nq_lat_18 : decode cJ0_isLatin1_aae02 18 = .ok (.ireturn, 1) := by decide +kernel
theorem nw_lat : Cond.code yJ0_isLatin1_aae02 cJ0_isLatin1_aae02 1 (some .boolean) ∈ rv_T2 := (rv_w_s (p := 16118) (by decide +kernel))
theorem np_lat : plainFor yJ0_isLatin1_aae02 = true := by decide +kernel
theorem nq_pci_0 : decode cJ3_checkIndex_8e157 0 = .ok (.iload_n 0, 1) := by decide +kernel
theorem nq_pci_1 : decode cJ3_checkIndex_8e157 1 = .ok (.ifCond .lt 8, 3) := by decide +kernel
theorem nq_pci_4 : decode cJ3_checkIndex_8e157 4 = .ok (.iload_n 0, 1) := by decide +kernel
theorem nq_pci_5 : decode cJ3_checkIndex_8e157 5 = .ok (.iload_n 1, 1) := by decide +kernel
theorem nq_pci_6 : decode cJ3_checkIndex_8e157 6 = .ok (.if_icmp .lt 10, 3) := by decide +kernel
theorem nq_pci_16 : decode cJ3_checkIndex_8e157 16 = .ok (.iload_n 0, 1) := by decide +kernel
theorem nq_pci_17 : decode cJ3_checkIndex_8e157 17 = .ok (.ireturn, 1) := by decide +kernel
theorem nw_pci : Cond.code yJ3_checkIndex_8e157 cJ3_checkIndex_8e157 3 (some .int) ∈ rv_T2 := (rv_w_s (p := 16129) (by decide +kernel))
theorem np_pci : plainFor yJ3_checkIndex_8e157 = true := by decide +kernel
theorem nq_sci_0 : decode cJ0_checkIndex_df160 0 = .ok (.iload_n 0, 1) := by decide +kernel
theorem nq_sci_1 : decode cJ0_checkIndex_df160 1 = .ok (.iload_n 1, 1) := by decide +kernel
theorem nq_sci_2 : decode cJ0_checkIndex_df160 2 = .ok (.getstatic 1053, 3) := by decide +kernel
theorem nq_sci_5 : decode cJ0_checkIndex_df160 5 = .ok (.invokestatic 1059, 3) := by decide +kernel
theorem nq_sci_8 : decode cJ0_checkIndex_df160 8 = .ok (.pop, 1) := by decide +kernel
theorem nq_sci_9 : decode cJ0_checkIndex_df160 9 = .ok (.return_, 1) := by decide +kernel
theorem nw_sci : Cond.code yJ0_checkIndex_df160 cJ0_checkIndex_df160 2 none ∈ rv_T2 := (rv_w_s (p := 16124) (by decide +kernel))
theorem np_sci : plainFor yJ0_checkIndex_df160 = true := by decide +kernel
theorem nq_lch_0 : decode cJ1_charAt_3b067 0 = .ok (.iload_n 1, 1) := by decide +kernel
theorem nq_lch_1 : decode cJ1_charAt_3b067 1 = .ok (.aload_n 0, 1) := by decide +kernel
theorem nq_lch_2 : decode cJ1_charAt_3b067 2 = .ok (.arraylength, 1) := by decide +kernel
theorem nq_lch_3 : decode cJ1_charAt_3b067 3 = .ok (.invokestatic 9, 3) := by decide +kernel
theorem nq_lch_6 : decode cJ1_charAt_3b067 6 = .ok (.aload_n 0, 1) := by decide +kernel
theorem nq_lch_7 : decode cJ1_charAt_3b067 7 = .ok (.iload_n 1, 1) := by decide +kernel
theorem nq_lch_8 : decode cJ1_charAt_3b067 8 = .ok (.baload, 1) := by decide +kernel
theorem nq_lch_9 : decode cJ1_charAt_3b067 9 = .ok (.sipush 255, 3) := by decide +kernel
theorem nq_lch_12 : decode cJ1_charAt_3b067 12 = .ok (.iand, 1) := by decide +kernel
theorem nq_lch_13 : decode cJ1_charAt_3b067 13 = .ok (.i2c, 1) := by decide +kernel
theorem nq_lch_14 : decode cJ1_charAt_3b067 14 = .ok (.ireturn, 1) := by decide +kernel
theorem nw_lch : Cond.code yJ1_charAt_3b067 cJ1_charAt_3b067 2 (some .char) ∈ rv_T2 := (rv_w_s (p := 16121) (by decide +kernel))
theorem np_lch : plainFor yJ1_charAt_3b067 = true := by decide +kernel
theorem nq_cha_0 : decode cJ0_charAt_5068e 0 = .ok (.aload_n 0, 1) := by decide +kernel
theorem nq_cha_1 : decode cJ0_charAt_5068e 1 = .ok (.invokevirtual 492, 3) := by decide +kernel
theorem nq_cha_4 : decode cJ0_charAt_5068e 4 = .ok (.ifCond .eq 12, 3) := by decide +kernel
theorem nq_cha_7 : decode cJ0_charAt_5068e 7 = .ok (.aload_n 0, 1) := by decide +kernel
theorem nq_cha_8 : decode cJ0_charAt_5068e 8 = .ok (.getfield 9, 3) := by decide +kernel
theorem nq_cha_11 : decode cJ0_charAt_5068e 11 = .ok (.iload_n 1, 1) := by decide +kernel
theorem nq_cha_12 : decode cJ0_charAt_5068e 12 = .ok (.invokestatic 495, 3) := by decide +kernel
theorem nq_cha_15 : decode cJ0_charAt_5068e 15 = .ok (.ireturn, 1) := by decide +kernel
theorem nw_cha : Cond.code yJ0_charAt_5068e cJ0_charAt_5068e 2 (some .char) ∈ rv_T2 := (rv_w_s (p := 16114) (by decide +kernel))
theorem np_cha : plainFor yJ0_charAt_5068e = true := by decide +kernel
/-- the string constants, nothing being free -/
def ns_S (ρ : rv_ρ) (U : State) (H : Heap) : Prop := rs_S ρ (fun _ => False) U H
theorem ns_S.warm {ρ : rv_ρ} {s U : State} {H : Heap} (hW : s.WarmedH U.vm) (h : ns_S ρ s H) : ns_S ρ U H := ⟨vk_S.moved hW.alike h.1, va_Z.moved hW.alike h.2.1, va_Zq.moved hW.alike h.2.2.1, fun i k tx hi => vk_R.warm hW (h.2.2.2 i k tx hi)⟩
theorem ns_S.blind {ρ : rv_ρ} {U : State} {g : JFrame} {mk : MethodId} {a : Array Value} (h : ns_S ρ U U.heap) : ns_S ρ (U.calling g mk a) (U.calling g mk a).heap := rs_S.blind h
def ns_n (a : Nat) : Nat := rs_len.getD a 0
def ns_c (a i : Nat) : Int32 := (rs_byt.getD a []).getD i 0
theorem ns_cc : ∀ a : Fin 9, ∀ i : Fin 32, ((ns_c a.val i.val &&& 255).toUInt32 % 65536).toInt32 = ns_c a.val i.val ∧ narrow .char (.int (ns_c a.val i.val)) = .int (ns_c a.val i.val) := by decide +kernel
theorem ns_shr : ∀ a : Nat, a < 9 → nI (ns_n a) >>> ((0 : Int32) &&& 31) = nI (ns_n a) := by decide
theorem ns_n32 : ∀ a : Nat, a < 9 → ns_n a ≤ 32 := by decide
def ns_P (ρ : rv_ρ) (vs : List Value) : Array Value → State → Prop := va_Pc vs (fun U => ns_S ρ U U.heap)
def ns_M (l : Launch) (d : Nat) (ρ : rv_ρ) (y : MethodName) (bytes : ByteArray) (nL : Nat) (ret : Option FieldType) (vs : List Value) (r : Int32) : Prop := Met l y (rv_ws y bytes nL ret) (rv_rm d 0 0) (ns_P ρ vs) (QcRead r) 0 0 (fun _ => False)
def ns_N (l : Launch) (d : Nat) (ρ : rv_ρ) (y : MethodName) (bytes : ByteArray) (nL : Nat) (vs : List Value) : Prop := Met l y (rv_ws y bytes nL none) (rv_rm d 0 0) (ns_P ρ vs) (fun _ st o t => o = .returned none ∧ t.heap = st.heap) 0 0 (fun _ => False)
theorem ns_wrap {l : Launch} {d : Nat} {ρ : rv_ρ} {y : MethodName} {bytes : ByteArray} {nL : Nat} {ty : FieldType} {vs : List Value} {r : Int32} (hpl : plainFor y = true) (hlen : (lg_sl vs).length ≤ nL) (hn : narrow ty (.int r) = .int r)
    (walk : ∀ {p : Program} {e : Env} {s : State} {m : MethodId} {args : Array Value} {below : List Frame} {meth : Method} {c : Code} {Q : State → Prop}, p.tables.exec = Jvm.exec → c.code = bytes → c.maxLocals = nL → s.vm.findClass y.cls = some m.cls → (∀ w ∈ rv_T2, w.before args s = true) → ns_S ρ s s.heap → (∀ (pc : Nat) (ls : Array Slot), decode bytes pc = .ok (.ireturn, 1) → W p l e (rv_rm d 0 0) s m args below meth c s.heap [] 0 0 Q (F0 m pc ls [.int r])) → ∀ ls : Array Slot, lv_has ls nL (lv_args 0 vs) → W p l e (rv_rm d 0 0) s m args below meth c s.heap [] 0 0 Q (F0 m 0 ls [])) : ns_M l d ρ y bytes nL (some ty) vs r := by
  refine rv_ofW (cc := bytes) (maxL := nL) (ret := some ty) hpl rfl ?_
  intro p e s m args below meth c s₁ B hml hv
  obtain ⟨rfl, hS⟩ := hv
  have hts := atoms_spec (ws := rv_ws y bytes nL (some ty)) B.pre
  have hl := lv_entry vs (n := nL) hlen
  rw [lg_entry_eq]
  exact walk (Q := MQ below (QcRead r) vs.toArray s 0 0 (fun _ => False)) B.exec B.bytes hml (findClass_of_methodNamed B.named) (fun w hw => hts w (List.mem_cons_of_mem _ hw)) hS (fun pc ls hd => W.zret B.exec B.bytes B.returns hn (fun t ht _ => ⟨rfl, ht⟩) (fun q h => by cases h) hd B.notSynchronized) _ hl
theorem ns_wrapN {l : Launch} {d : Nat} {ρ : rv_ρ} {y : MethodName} {bytes : ByteArray} {nL : Nat} {vs : List Value} (hpl : plainFor y = true) (hlen : (lg_sl vs).length ≤ nL)
    (walk : ∀ {p : Program} {e : Env} {s : State} {m : MethodId} {args : Array Value} {below : List Frame} {meth : Method} {c : Code} {Q : State → Prop}, p.tables.exec = Jvm.exec → c.code = bytes → c.maxLocals = nL → s.vm.findClass y.cls = some m.cls → (∀ w ∈ rv_T2, w.before args s = true) → ns_S ρ s s.heap → (∀ (pc : Nat) (ls : Array Slot), decode bytes pc = .ok (.return_, 1) → W p l e (rv_rm d 0 0) s m args below meth c s.heap [] 0 0 Q (F0 m pc ls [])) → ∀ ls : Array Slot, lv_has ls nL (lv_args 0 vs) → W p l e (rv_rm d 0 0) s m args below meth c s.heap [] 0 0 Q (F0 m 0 ls [])) : ns_N l d ρ y bytes nL vs := by
  refine rv_ofW (cc := bytes) (maxL := nL) (ret := none) hpl rfl ?_
  intro p e s m args below meth c s₁ B hml hv
  obtain ⟨rfl, hS⟩ := hv
  have hts := atoms_spec (ws := rv_ws y bytes nL none) B.pre
  have hl := lv_entry vs (n := nL) hlen
  rw [lg_entry_eq]
  exact walk (Q := MQ below (fun _ st o t => o = .returned none ∧ t.heap = st.heap) vs.toArray s 0 0 (fun _ => False)) B.exec B.bytes hml (findClass_of_methodNamed B.named) (fun w hw => hts w (List.mem_cons_of_mem _ hw)) hS (fun pc ls hd => W.vret B.exec B.bytes B.returns (fun t ht _ => ⟨rfl, ht⟩) (fun q h => by cases h) hd B.notSynchronized) _ hl
section NSC
variable {p : Program} {l : Launch} {e : Env} {R : Room} {s : State} {m : MethodId} {args : Array Value} {below : List Frame} {meth : Method} {c : Code} {Q : State → Prop} {ρ : rv_ρ}
theorem ns_pre {vs : List Value} (hS : ns_S ρ s s.heap) : FrameBlind (ns_P ρ vs) ∧ ∀ U : State, U.heap = s.heap → s.WarmedH U.vm → ns_P ρ vs vs.toArray U := ⟨fun a U g mk q => ⟨q.1, q.2.blind⟩, fun U hU hW => ⟨rfl, by show ns_S ρ U U.heap; rw [hU]; exact hS.warm hW⟩⟩
theorem ns_rm {d nL : Nat} (hR : R.frames = d + 1 ∧ R.locals = 60 * (d + 1)) (hnL : nL ≤ 40) : (rv_rm d 0 0).frames + 1 ≤ R.frames ∧ 8 + (nL + 11) + (rv_rm d 0 0).locals ≤ R.locals := by
  rw [hR.1, hR.2]
  exact ⟨Nat.le_refl _, by show 8 + (nL + 11) + 60 * d ≤ 60 * (d + 1); omega⟩
theorem ns_cS {cc bytes : ByteArray} {nL0 nL d n idx pc : Nat} {own : String} {y : MethodName} {ret : Option FieldType} {r : Int32} {As rest : List Value} {ls : Array Slot} (hx : p.tables.exec = Jvm.exec) (hb : c.code = cc) (hml : c.maxLocals = nL0) (hown : s.vm.findClass own = some m.cls) (hts : ∀ w ∈ rv_T2, w.before args s = true) (hS : ns_S ρ s s.heap) (hR : R.frames = d + 1 ∧ R.locals = 60 * (d + 1)) (hM : ns_M l d ρ y bytes nL ret As r) (hc : Cond.code y bytes nL ret ∈ rv_T2) (hw1 : Cond.methodLink own idx y ∈ rv_T2) (hw2 : Cond.static y ∈ rv_T2) (hw3 : Cond.initialized y.cls ∈ rv_T2) (hd : y.cls ≠ "java/lang/invoke/MethodHandle" ∧ y.cls ≠ "java/lang/invoke/VarHandle" ∧ (parseMethodDescriptor y.desc).map (fun d => d.parameters.length) = some n) (hlen : As.length = n) (hnL : nL ≤ 40) (hls : ls.size = nL0) (hrest : (rest.map fun v => v.category).sum ≤ 8) (hdec : decode cc pc = .ok (.invokestatic idx, 3)) {stk : List Value} (hstk : stk = As.reverse ++ rest) (kk : W p l e R s m args below meth c s.heap [] 0 0 Q (F0 m (pc + 3) ls (.int r :: rest))) : W p l e R s m args below meth c s.heap [] 0 0 Q (F0 m pc ls stk) :=
  W.callR (W.runS (As := As) (rest := rest) ⟨hx, hb, hml, hown, hts⟩ hM ⟨callB_of n hts (rv_gin hc) rfl rfl rfl (hts _ hw3) (hts _ hw1) hd (ns_rm hR hnL), hts _ hw2⟩ (ns_pre hS) rfl hlen hls hstk (lv_room hrest) hdec ⟨Nat.zero_le _, Nat.zero_le _⟩) kk
theorem ns_cN {cc bytes : ByteArray} {nL0 nL d n idx pc : Nat} {own : String} {y : MethodName} {As rest : List Value} {ls : Array Slot} (hx : p.tables.exec = Jvm.exec) (hb : c.code = cc) (hml : c.maxLocals = nL0) (hown : s.vm.findClass own = some m.cls) (hts : ∀ w ∈ rv_T2, w.before args s = true) (hS : ns_S ρ s s.heap) (hR : R.frames = d + 1 ∧ R.locals = 60 * (d + 1)) (hM : ns_N l d ρ y bytes nL As) (hc : Cond.code y bytes nL none ∈ rv_T2) (hw1 : Cond.methodLink own idx y ∈ rv_T2) (hw2 : Cond.static y ∈ rv_T2) (hw3 : Cond.initialized y.cls ∈ rv_T2) (hd : y.cls ≠ "java/lang/invoke/MethodHandle" ∧ y.cls ≠ "java/lang/invoke/VarHandle" ∧ (parseMethodDescriptor y.desc).map (fun d => d.parameters.length) = some n) (hlen : As.length = n) (hnL : nL ≤ 40) (hls : ls.size = nL0) (hrest : (rest.map fun v => v.category).sum ≤ 8) (hdec : decode cc pc = .ok (.invokestatic idx, 3)) {stk : List Value} (hstk : stk = As.reverse ++ rest) (kk : W p l e R s m args below meth c s.heap [] 0 0 Q (F0 m (pc + 3) ls rest)) : W p l e R s m args below meth c s.heap [] 0 0 Q (F0 m pc ls stk) := by
  have hr := W.runS (cells := 0) (slots := 0) (H := s.heap) (locs := []) (l := l) (e := e) (R := R) (below := below) (meth := meth) (As := As) (rest := rest) (g := F0 m pc ls stk) ⟨hx, hb, hml, hown, hts⟩ hM ⟨callB_of n hts (rv_gin hc) rfl rfl rfl (hts _ hw3) (hts _ hw1) hd (ns_rm hR hnL), hts _ hw2⟩ (ns_pre hS) rfl hlen hls hstk (lv_room hrest) hdec ⟨Nat.zero_le _, Nat.zero_le _⟩
  intro T hT X
  obtain ⟨v, st₀, t, T', L, h0, X', hL, e1, ⟨hv, hh⟩, st⟩ := hr T hT X
  cases hv
  obtain ⟨t2, a1, b1⟩ := kk T' (by rw [e1, hh, h0]) (Stand.forget X' (fun q h => (hL q h).elim))
  exact ⟨t2, st t2 a1, b1⟩
theorem ns_cV {a : Nat} (ha : a < 9) {cc bytes : ByteArray} {nL0 nL d n idx pc : Nat} {own : String} {y : MethodName} {ret : Option FieldType} {r : Int32} {As rest : List Value} {ls : Array Slot} (hx : p.tables.exec = Jvm.exec) (hb : c.code = cc) (hml : c.maxLocals = nL0) (hown : s.vm.findClass own = some m.cls) (hts : ∀ w ∈ rv_T2, w.before args s = true) (hS : ns_S ρ s s.heap) (hR : R.frames = d + 1 ∧ R.locals = 60 * (d + 1)) (hM : ns_M l d ρ y bytes nL ret (.ref (ρ.2.1 a) :: As) r) (hc : Cond.code y bytes nL ret ∈ rv_T2) (hw1 : Cond.methodLink own idx y ∈ rv_T2) (hw2 : Cond.instanceMethod y ∈ rv_T2) (hw4 : Cond.selects "java/lang/String" y y ∈ rv_T2) (hw3 : Cond.initialized y.cls ∈ rv_T2) (hd : y.cls ≠ "java/lang/invoke/MethodHandle" ∧ y.cls ≠ "java/lang/invoke/VarHandle" ∧ (parseMethodDescriptor y.desc).map (fun d => d.parameters.length) = some n) (hlen : As.length = n) (hnL : nL ≤ 40) (hls : ls.size = nL0) (hrest : (rest.map fun v => v.category).sum ≤ 8) (hdec : decode cc pc = .ok (.invokevirtual idx, 3)) {stk : List Value} (hstk : stk = As.reverse ++ .ref (ρ.2.1 a) :: rest) (kk : W p l e R s m args below meth c s.heap [] 0 0 Q (F0 m (pc + 3) ls (.int r :: rest))) : W p l e R s m args below meth c s.heap [] 0 0 Q (F0 m pc ls stk) :=
  W.callR (W.runV (C := "java/lang/String") (b := ρ.2.1 a) (As := As) (rest := rest) ⟨hx, hb, hml, hown, hts⟩ hM ⟨callB_of n hts (rv_gin hc) rfl rfl rfl (hts _ hw3) (hts _ hw1) hd (ns_rm hR hnL), hts _ hw2, hts _ hw4⟩ ⟨(ns_pre hS).1, vk_recv (i := a) hS.1 ha va_S.rf, (ns_pre hS).2⟩ rfl hlen hls hstk (lv_room hrest) hdec ⟨Nat.zero_le _, Nat.zero_le _⟩) kk
end NSC
theorem ns_coder {l : Launch} {d : Nat} {ρ : rv_ρ} {a : Nat} (ha : a < 9) : ns_M l d ρ yJ0_coder_7d493 cJ0_coder_7d493 1 (some .byte) [.ref (ρ.2.1 a)] 0 := by
  refine ns_wrap np_coder (Nat.le_of_ble_eq_true rfl) rfl ?_
  intro p e s m args below meth c Q hx hb hml hown hts hS K ls hl
  have hl : lv_has ls 1 [(0, .ref (ρ.2.1 a))] := hl
  refine va_gets hx hb hS.2.1 va_S.rf hown (hts _ (rv_w_s (p := 16109) (by decide +kernel))) (fun _ h => h) nq_coder_0 ?_
  refine lv_if_eq (tgt := 13) hx hb nq_coder_3 (by decide) (fun q => absurd q (by decide)) (fun _ => ?_)
  refine lv_aload_n hx hb nq_coder_6 rfl (lv_at hl 0 rfl) ?_
  refine vk_getf hx hb (hS.1.1 a ha).2.1 va_S.rf hown (hts _ (rv_w_s (p := 18063) (by decide +kernel))) (fun _ h => h) nq_coder_7 ?_
  refine lv_goto (tgt := 14) hx hb nq_coder_10 (by decide) ?_
  exact K 14 ls nq_coder_14
theorem ns_lat {l : Launch} {d : Nat} {ρ : rv_ρ} {a : Nat} (ha : a < 9) : ns_M l d ρ yJ0_isLatin1_aae02 cJ0_isLatin1_aae02 1 (some .boolean) [.ref (ρ.2.1 a)] 1 := by
  refine ns_wrap np_lat (Nat.le_of_ble_eq_true rfl) rfl ?_
  intro p e s m args below meth c Q hx hb hml hown hts hS K ls hl
  have hl : lv_has ls 1 [(0, .ref (ρ.2.1 a))] := hl
  refine va_gets hx hb hS.2.1 va_S.rf hown (hts _ (rv_w_s (p := 16109) (by decide +kernel))) (fun _ h => h) nq_lat_0 ?_
  refine lv_if_eq (tgt := 17) hx hb nq_lat_3 (by decide) (fun q => absurd q (by decide)) (fun _ => ?_)
  refine lv_aload_n hx hb nq_lat_6 rfl (lv_at hl 0 rfl) ?_
  refine vk_getf hx hb (hS.1.1 a ha).2.1 va_S.rf hown (hts _ (rv_w_s (p := 18063) (by decide +kernel))) (fun _ h => h) nq_lat_7 ?_
  refine lv_if_ne (tgt := 17) hx hb nq_lat_10 (by decide) (fun q => absurd rfl q) (fun _ => ?_)
  refine lv_iconst (v := 1) hx hb nq_lat_13 (by decide) ?_
  refine lv_goto (tgt := 18) hx hb nq_lat_14 (by decide) ?_
  exact K 18 ls nq_lat_18
theorem ns_len {l : Launch} {d : Nat} {ρ : rv_ρ} {a : Nat} (ha : a < 9) : ns_M l (d + 1) ρ yJ0_length_8abf5 cJ0_length_8abf5 1 (some .int) [.ref (ρ.2.1 a)] (nI (ns_n a)) := by
  refine ns_wrap np_len (Nat.le_of_ble_eq_true rfl) rfl ?_
  intro p e s m args below meth c Q hx hb hml hown hts hS K ls hl
  have hl : lv_has ls 1 [(0, .ref (ρ.2.1 a))] := hl
  refine lv_aload_n hx hb nq_len_0 rfl (lv_at hl 0 rfl) ?_
  refine vk_getf hx hb (hS.1.1 a ha).2.2.1 va_S.rf hown (hts _ (rv_w_s (p := 18062) (by decide +kernel))) (fun _ h => h) nq_len_1 ?_
  refine va_tlen (v := nI (ns_n a)) hx hb (hS.1.1 a ha).2.2.2 va_S.rf rfl nq_len_4 ?_
  refine lv_aload_n hx hb nq_len_5 rfl (lv_at hl 0 rfl) ?_
  refine ns_cV ha hx hb hml hown hts hS ⟨rfl, rfl⟩ (ns_coder ha) nw_coder (rv_w_s (p := 16105) (by decide +kernel)) (rv_w_s (p := 16106) (by decide +kernel)) (rv_w_s (p := 16107) (by decide +kernel)) (rv_w_s (p := 10017) (by decide +kernel)) (by decide +kernel) (As := []) rfl (by decide) hl.1 (rest := [.int (nI (ns_n a))]) (Nat.le_of_ble_eq_true rfl) nq_len_6 rfl ?_
  refine lv_ishr hx hb nq_len_9 ?_
  rw [show nI (ns_n a) >>> ((0 : Int32) &&& 31) = nI (ns_n a) from ns_shr a ha]
  exact K 10 ls nq_len_10
theorem ns_pci {l : Launch} {d : Nat} {ρ : rv_ρ} {a : Nat} (ha : a < 9) {i : Nat} (hi : i < ns_n a) {f : Value} (hf : f = .null ∨ ∃ q, f = .ref q) : ns_M l d ρ yJ3_checkIndex_8e157 cJ3_checkIndex_8e157 3 (some .int) [.int (nI i), .int (nI (ns_n a)), f] (nI i) := by
  have hcat : (lg_sl [.int (nI i), .int (nI (ns_n a)), f]).length ≤ 3 := by rcases hf with rfl | ⟨q, rfl⟩ <;> exact Nat.le_of_ble_eq_true rfl
  refine ns_wrap np_pci hcat rfl ?_
  intro p e s m args below meth c Q hx hb hml hown hts hS K ls hl
  have hl : lv_has ls 3 [(0, .int (nI i)), (1, .int (nI (ns_n a))), (2, f)] := hl
  refine lv_iload_n hx hb nq_pci_0 rfl (lv_at hl 0 rfl) ?_
  refine lv_if_lt (tgt := 9) hx hb nq_pci_1 (by decide) (fun q => absurd q (nI_pos (by have := ns_n32 a ha; omega))) (fun _ => ?_)
  refine lv_iload_n hx hb nq_pci_4 rfl (lv_at hl 0 rfl) ?_
  refine lv_iload_n hx hb nq_pci_5 rfl (lv_at hl 1 rfl) ?_
  refine lv_icmp_lt (tgt := 16) hx hb nq_pci_6 (by decide) (fun _ => ?_) (fun q => absurd (nI_lt (a := i) (b := ns_n a) hi (by have := ns_n32 a ha; omega)) q)
  refine lv_iload_n hx hb nq_pci_16 rfl (lv_at hl 0 rfl) ?_
  exact K 17 ls nq_pci_17
theorem ns_sci {l : Launch} {d : Nat} {ρ : rv_ρ} {a : Nat} (ha : a < 9) {i : Nat} (hi : i < ns_n a) : ns_N l (d + 1) ρ yJ0_checkIndex_df160 cJ0_checkIndex_df160 2 [.int (nI i), .int (nI (ns_n a))] := by
  refine ns_wrapN np_sci (Nat.le_of_ble_eq_true rfl) ?_
  intro p e s m args below meth c Q hx hb hml hown hts hS K ls hl
  have hl : lv_has ls 2 [(0, .int (nI i)), (1, .int (nI (ns_n a)))] := hl
  refine lv_iload_n hx hb nq_sci_0 rfl (lv_at hl 0 rfl) ?_
  refine lv_iload_n hx hb nq_sci_1 rfl (lv_at hl 1 rfl) ?_
  rcases hS.2.2.1 with hZ | ⟨q, hZ⟩
  · refine va_gets hx hb hZ va_S.rf hown (hts _ (rv_w_s (p := 16125) (by decide +kernel))) (fun _ h => h) nq_sci_2 ?_
    refine ns_cS (n := 3) hx hb hml hown hts hS ⟨rfl, rfl⟩ (ns_pci ha hi (Or.inl rfl)) nw_pci (rv_w_s (p := 16127) (by decide +kernel)) (rv_w_s (p := 16128) (by decide +kernel)) (rv_w_s (p := 10019) (by decide +kernel)) (by decide +kernel) rfl (by decide) hl.1 (rest := []) (Nat.le_of_ble_eq_true rfl) nq_sci_5 rfl ?_
    refine lv_pop hx hb nq_sci_8 rfl ?_
    exact K 9 ls nq_sci_9
  · refine va_gets hx hb hZ va_S.rf hown (hts _ (rv_w_s (p := 16125) (by decide +kernel))) (fun _ h => h) nq_sci_2 ?_
    refine ns_cS (n := 3) hx hb hml hown hts hS ⟨rfl, rfl⟩ (ns_pci ha hi (Or.inr ⟨q, rfl⟩)) nw_pci (rv_w_s (p := 16127) (by decide +kernel)) (rv_w_s (p := 16128) (by decide +kernel)) (rv_w_s (p := 10019) (by decide +kernel)) (by decide +kernel) rfl (by decide) hl.1 (rest := []) (Nat.le_of_ble_eq_true rfl) nq_sci_5 rfl ?_
    refine lv_pop hx hb nq_sci_8 rfl ?_
    exact K 9 ls nq_sci_9
theorem ns_lch {l : Launch} {d : Nat} {ρ : rv_ρ} {a : Nat} (ha : a < 9) {i : Nat} (hi : i < ns_n a) : ns_M l (d + 2) ρ yJ1_charAt_3b067 cJ1_charAt_3b067 2 (some .char) [.ref (ρ.2.2 a), .int (nI i)] (ns_c a i) := by
  refine ns_wrap np_lch (Nat.le_of_ble_eq_true rfl) (ns_cc ⟨a, ha⟩ ⟨i, by have := ns_n32 a ha; omega⟩).2 ?_
  intro p e s m args below meth c Q hx hb hml hown hts hS K ls hl
  have hl : lv_has ls 2 [(0, .ref (ρ.2.2 a)), (1, .int (nI i))] := hl
  have hT := (hS.1.1 a ha).2.2.2
  refine lv_iload_n hx hb nq_lch_0 rfl (lv_at hl 1 rfl) ?_
  refine lv_aload_n hx hb nq_lch_1 rfl (lv_at hl 0 rfl) ?_
  refine va_tlen (v := nI (ns_n a)) hx hb hT va_S.rf rfl nq_lch_2 ?_
  refine ns_cN (n := 2) hx hb hml hown hts hS ⟨rfl, rfl⟩ (ns_sci ha hi) nw_sci (rv_w_s (p := 16122) (by decide +kernel)) (rv_w_s (p := 16123) (by decide +kernel)) (rv_w_s (p := 10017) (by decide +kernel)) (by decide +kernel) rfl (by decide) hl.1 (rest := []) (Nat.le_of_ble_eq_true rfl) nq_lch_3 rfl ?_
  refine lv_aload_n hx hb nq_lch_6 rfl (lv_at hl 0 rfl) ?_
  refine lv_iload_n hx hb nq_lch_7 rfl (lv_at hl 1 rfl) ?_
  refine va_tb (v := .int (ns_c a i)) hx hb hT va_S.rf (vp_in_nI hi (by have := ns_n32 a ha; show ns_n a < 2147483648; omega)) (by rw [nI_clamp (by have := ns_n32 a ha; omega)]; rfl) nq_lch_8 ?_
  refine lv_sipush (v := 255) hx hb nq_lch_9 (by decide) ?_
  refine lv_iand hx hb nq_lch_12 ?_
  refine lv_i2c (v := ns_c a i) hx hb nq_lch_13 (ns_cc ⟨a, ha⟩ ⟨i, by have := ns_n32 a ha; omega⟩).1 ?_
  exact K 14 ls nq_lch_14
theorem ns_cha {l : Launch} {d : Nat} {ρ : rv_ρ} {a : Nat} (ha : a < 9) {i : Nat} (hi : i < ns_n a) : ns_M l (d + 3) ρ yJ0_charAt_5068e cJ0_charAt_5068e 2 (some .char) [.ref (ρ.2.1 a), .int (nI i)] (ns_c a i) := by
  refine ns_wrap np_cha (Nat.le_of_ble_eq_true rfl) (ns_cc ⟨a, ha⟩ ⟨i, by have := ns_n32 a ha; omega⟩).2 ?_
  intro p e s m args below meth c Q hx hb hml hown hts hS K ls hl
  have hl : lv_has ls 2 [(0, .ref (ρ.2.1 a)), (1, .int (nI i))] := hl
  refine lv_aload_n hx hb nq_cha_0 rfl (lv_at hl 0 rfl) ?_
  refine ns_cV ha hx hb hml hown hts hS ⟨rfl, rfl⟩ (ns_lat ha) nw_lat (rv_w_s (p := 16115) (by decide +kernel)) (rv_w_s (p := 16116) (by decide +kernel)) (rv_w_s (p := 16117) (by decide +kernel)) (rv_w_s (p := 10017) (by decide +kernel)) (by decide +kernel) (As := []) rfl (by decide) hl.1 (rest := []) (Nat.le_of_ble_eq_true rfl) nq_cha_1 rfl ?_
  refine lv_if_eq (tgt := 16) hx hb nq_cha_4 (by decide) (fun q => absurd q (by decide)) (fun _ => ?_)
  refine lv_aload_n hx hb nq_cha_7 rfl (lv_at hl 0 rfl) ?_
  refine vk_getf hx hb (hS.1.1 a ha).2.2.1 va_S.rf hown (hts _ (rv_w_s (p := 18062) (by decide +kernel))) (fun _ h => h) nq_cha_8 ?_
  refine lv_iload_n hx hb nq_cha_11 rfl (lv_at hl 1 rfl) ?_
  refine ns_cS (n := 2) hx hb hml hown hts hS ⟨rfl, rfl⟩ (ns_lch ha hi) nw_lch (rv_w_s (p := 16119) (by decide +kernel)) (rv_w_s (p := 16120) (by decide +kernel)) (rv_w_s (p := 10018) (by decide +kernel)) (by decide +kernel) rfl (by decide) hl.1 (rest := []) (Nat.le_of_ble_eq_true rfl) nq_cha_12 rfl ?_
  exact K 15 ls nq_cha_15
theorem ns_vs {ρ : rv_ρ} {L : List Nat} {a : Nat} {vs : List Value} {as : List rv_A} (h : rv_Vs ρ L (rv_ref (100000 + a) :: as) vs) : ∃ v, vs = .ref (ρ.2.1 a) :: v ∧ rv_Vs ρ L as v := by
  obtain ⟨v, w, rfl, h1, h2⟩ := rv_Vs_c h
  obtain ⟨q, h3, rfl⟩ := h1
  rw [if_neg (by omega), show 100000 + a - 100000 = a by omega] at h3
  cases h3
  exact ⟨w, rfl, h2⟩
theorem ns_mt {l : Launch} {ρ : rv_ρ} {d mi : Nat} {as : List rv_A} {h : List rv_C} {r : Int32} {y0 : MethodName} {b0 : ByteArray} {n0 : Nat} {t0 : Option FieldType} (hi : rv_inf[mi]? = some (y0, b0, n0, t0)) (hM : ∀ (L : List Nat) (vs : List Value), rv_Vs ρ L as vs → ns_M l d ρ y0 b0 n0 t0 vs r) : rv_Mt l ρ d mi as h (0, 0, [(some (.inl r), h)]) := by
  intro y bytes nL ret hinf D cA sz ws vs hvs hws
  rw [hi] at hinf
  cases hinf
  have hm := hM _ vs hvs
  intro p e h1 h2 h3 s m args below h4 h5 hP h6
  obtain ⟨rfl, hsz, hP, hKK, hD0⟩ := hP
  subst hsz
  have hS : ns_S ρ s s.heap := ⟨hKK.2.2.2.2.1.narrow (fun q z => z.elim), hKK.2.2.2.2.2.1.narrow (fun q z => z.elim), hKK.2.2.2.2.2.2.1.narrow (fun q z => z.elim), hKK.2.2.2.2.2.2.2⟩
  obtain ⟨n, o, a1, a2, a3, ⟨a4, a5⟩, L, a6, a7⟩ := hm p e h1 h2 h3 s m _ below h4 h5 ⟨rfl, hS⟩ h6
  refine ⟨n, o, a1, a2, a3, ⟨⟨_, List.Mem.head _, ws, _, a4, rfl, hws, ⟨[], (List.append_nil _).symm⟩, ?_, hD0.self (sz := s.heap.size)⟩, ?_⟩, L, a6, fun q hq => (a7 q hq).elim⟩
  · rw [a5]; exact hP
  · exact ⟨by rw [a5]; exact Nat.le_refl _, fun q _ _ => by rw [a5]⟩
theorem ns_len_ct {l : Launch} {ρ : rv_ρ} {d a : Nat} (ha : a < 9) {h : List rv_C} {Q : rv_O → Prop} (hd : 1 ≤ d) (hQ : Q (some (.inl (nI (ns_n a))), h)) : sx_Ct l ρ d 1 [rv_ref (100000 + a)] h Q := by
  obtain ⟨d, rfl⟩ : ∃ d2, d = d2 + 1 := ⟨d - 1, by omega⟩
  refine ⟨_, ⟨ns_mt (y0 := yJ0_length_8abf5) (b0 := cJ0_length_8abf5) (n0 := 1) (t0 := some .int) rfl (fun L vs hvs => ?_), _, rfl⟩, hQ⟩
  obtain ⟨v, rfl, h2⟩ := ns_vs hvs
  rw [rv_Vs_n h2]
  exact ns_len ha
theorem ns_cha_ct {l : Launch} {ρ : rv_ρ} {d a i : Nat} (ha : a < 9) (hi : i < ns_n a) {h : List rv_C} {Q : rv_O → Prop} (hd : 3 ≤ d) (hQ : Q (some (.inl (ns_c a i)), h)) : sx_Ct l ρ d 0 [rv_ref (100000 + a), .inl (nI i)] h Q := by
  obtain ⟨d, rfl⟩ : ∃ d2, d = d2 + 3 := ⟨d - 3, by omega⟩
  refine ⟨_, ⟨ns_mt (y0 := yJ0_charAt_5068e) (b0 := cJ0_charAt_5068e) (n0 := 2) (t0 := some .char) rfl (fun L vs hvs => ?_), _, rfl⟩, hQ⟩
  obtain ⟨v, rfl, h2⟩ := ns_vs hvs
  obtain ⟨v2, w2, rfl, h3, h4⟩ := rv_Vs_c h2
  rw [rv_Vs_n h4, show v2 = .int (nI i) from h3]
  exact ns_cha ha hi
