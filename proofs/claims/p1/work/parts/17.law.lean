/-! THE CLAIM OUT OF ONE WALK OF THE LAW'S BODY. Your part is whole_start (and what it stands on); all else here is the same for every law, but numbers. -/
def R_law : String := "CabinPeaceLaw"
def lw_P (b : Addr) (xs : List Int32) (args : Array Value) (s : State) : Prop := args = #[.ref b] ∧ s.IntsAt b xs ∧ xs.length ≤ 6 ∧ (Jvm.Cond.and given_1 narrow_1).before args s = true
def lw_Q (_ : Array Value) (s : State) (o : Outcome) (t : State) : Prop := o = .returned (some (.int 1)) ∧ Framed s o t [] 600000 7302250
def lw_Z (below : List Frame) (a : Array Value) (s : State) : State → Prop := fun t => ∃ o, t.status = .running ∧ Ended t below o ∧ lw_Q a s o t
/-- the law's own end, with 1 on the stack, nothing written that was there before, its room as the claim has it -/
theorem lw_ret {p : Program} {l : Launch} {e : Env} {s : State} {m : MethodId} {below : List Frame} {meth : Method} {c : Code} {b : Nat} (hx : p.tables.exec = Jvm.exec) (hb : c.code = code) (hr : meth.sig.returnType = ret) (hlocks : meth.locks = false) {pc : Nat} {H : Heap} {ls : Array Slot} (hdg : decode code pc = .ok (.ireturn, 1)) : W p l e room_1 s m #[Value.ref b] below meth c H [] 600000 7302250 (lw_Z below #[Value.ref b] s) (F0 m pc ls [.int 1]) := by
  intro T hT X
  obtain ⟨fs, hret, hrun, hended, hW, hframe⟩ := X.leave (v := some (.int 1)) (hlocks := hlocks) (fun h => by rw [hr] at h; cases h)
  have hmeth' : T.vm.method? m = some meth := X.method'
  refine ⟨T.setFrames fs, ?_, .returned (some (.int 1)), hrun, hended, rfl, ⟨_, rfl⟩, hW, hframe⟩
  jvm_step X.here [X.here.top, hx, hb, hdg, hmeth', hr, ret, narrow_b1]
  (try refine ⟨rfl, ?_⟩); (try refine ⟨rfl, ?_⟩)
  first | (intro acts; rw [hret _ acts rfl rfl rfl]) | rw [hret _ _ rfl rfl rfl]
  exact Steps.refl _
/-- what holds at the law's entry: the machine, the code, the tables' words (any of lw_tbl by 'hts w (by decide +kernel)'), the script of L ints xs at the cell b, what the Statement gives of the start (any of its parts by flat_of_before) -/
def lw_At (p : Program) (s : State) (m : MethodId) (meth : Method) (c : Code) (b L : Nat) (xs : Nat → Int32) : Prop :=
  p.tables.exec = Jvm.exec ∧ c.code = code ∧ meth.sig.returnType = ret ∧ c.maxLocals = 4 ∧ s.vm.findClass R_law = some m.cls ∧ (∀ w ∈ lw_tbl, w.before #[Value.ref b] s = true) ∧ va_X b L xs s s.heap ∧ b < s.heap.size ∧ meth.locks = false ∧ (Jvm.Cond.and given_1 narrow_1).before #[Value.ref b] s = true
theorem ri_0 : Cond.instantiable RX0 9 ∈ rv_T2 := rv_w_s (p := 11039) (by decide +kernel)
theorem ri_1 : Cond.instantiable RX1 5 ∈ rv_T2 := rv_w_s (p := 10160) (by decide +kernel)
theorem ri_2 : Cond.instantiable RX2 8 ∈ rv_T2 := rv_w_s (p := 11004) (by decide +kernel)
theorem ri_3 : Cond.instantiable RX3 17 ∈ rv_T2 := rv_w_s (p := 11177) (by decide +kernel)
theorem ri_4 : Cond.instantiable RX4 8 ∈ rv_T2 := rv_w_s (p := 10031) (by decide +kernel)
theorem ri_5 : Cond.instantiable RX5 13 ∈ rv_T2 := rv_w_s (p := 11126) (by decide +kernel)
theorem ri_6 : Cond.instantiable RX6 13 ∈ rv_T2 := rv_w_s (p := 10154) (by decide +kernel)
theorem ri_7 : Cond.instantiable RX7 3 ∈ rv_T2 := rv_w_s (p := 10108) (by decide +kernel)
theorem ri_8 : Cond.instantiable RX8 6 ∈ rv_T2 := rv_w_s (p := 10078) (by decide +kernel)
theorem ri_9 : Cond.instantiable RX9 11 ∈ rv_T2 := rv_w_s (p := 10192) (by decide +kernel)
theorem ri_10 : Cond.instantiable RX10 6 ∈ rv_T2 := rv_w_s (p := 10128) (by decide +kernel)
theorem ri_11 : Cond.instantiable RX11 13 ∈ rv_T2 := rv_w_s (p := 10023) (by decide +kernel)
theorem ri_12 : Cond.instantiable RX12 72 ∈ rv_T2 := rv_w_s (p := 15070) (by decide +kernel)
theorem rv_known {args : Array Value} {s : State} (hts : ∀ w ∈ rv_T2, w.before args s = true) : ∀ (k : Nat) (q : vw_C), rv_cl[k]? = some q → ∃ (cC : ClassId) (iS : Nat → Nat), u_Kn s q.1 q.2.1 q.2.2 cC iS := by
  intro k q h
  match k, h with
  | 0, h => cases h; exact u_known (C := RX0) (T := TX0) (N := 9) (n := 9) hts rc_0.1 (hts _ ri_0)
  | 1, h => cases h; exact u_known (C := RX1) (T := TX1) (N := 5) (n := 5) hts rc_1.1 (hts _ ri_1)
  | 2, h => cases h; exact u_known (C := RX2) (T := TX2) (N := 8) (n := 8) hts rc_2.1 (hts _ ri_2)
  | 3, h => cases h; exact u_known (C := RX3) (T := TX3) (N := 17) (n := 17) hts rc_3.1 (hts _ ri_3)
  | 4, h => cases h; exact u_known (C := RX4) (T := TX4) (N := 8) (n := 8) hts rc_4.1 (hts _ ri_4)
  | 5, h => cases h; exact u_known (C := RX5) (T := TX5) (N := 13) (n := 13) hts rc_5.1 (hts _ ri_5)
  | 6, h => cases h; exact u_known (C := RX6) (T := TX6) (N := 13) (n := 13) hts rc_6.1 (hts _ ri_6)
  | 7, h => cases h; exact u_known (C := RX7) (T := TX7) (N := 3) (n := 3) hts rc_7.1 (hts _ ri_7)
  | 8, h => cases h; exact u_known (C := RX8) (T := TX8) (N := 6) (n := 6) hts rc_8.1 (hts _ ri_8)
  | 9, h => cases h; exact u_known (C := RX9) (T := TX9) (N := 11) (n := 11) hts rc_9.1 (hts _ ri_9)
  | 10, h => cases h; exact u_known (C := RX10) (T := TX10) (N := 6) (n := 6) hts rc_10.1 (hts _ ri_10)
  | 11, h => cases h; exact u_known (C := RX11) (T := TX11) (N := 13) (n := 13) hts rc_11.1 (hts _ ri_11)
  | 12, h => cases h; exact u_known (C := RX12) (T := TX12) (N := 72) (n := 72) hts rc_12.1 (hts _ ri_12)
  | k + 13, h => exact absurd h (by simp [rv_cl])
theorem rq_int : Cond.arrayClass .int ∈ rv_T2 := rv_w_s (p := 10075) (by decide +kernel)
theorem rq_long : Cond.arrayClass .long ∈ rv_T2 := rv_w_s (p := 10074) (by decide +kernel)
theorem rq_byte : Cond.arrayClass .byte ∈ rv_T2 := rv_w_s (p := 11175) (by decide +kernel)
theorem rq_boolean : Cond.arrayClass .boolean ∈ rv_T2 := rv_w_s (p := 11002) (by decide +kernel)
theorem rq_Tray : Cond.arrayOver (.object "CabinPeace$Tray") ∈ rv_T := rv_chn_s 10 _ (List.mem_of_getElem? (i := 107) (by decide +kernel))
theorem rq_Wish : Cond.arrayOver (.object "CabinPeace$Wish") ∈ rv_T := rv_chn_s 10 _ (List.mem_of_getElem? (i := 77) (by decide +kernel))
theorem rn_4 : Cond.methodLinkNest "CabinPeace$Search" 11 yX1_init "CabinPeace" ∈ rv_T := rv_chn_s 10 _ (List.mem_of_getElem? (i := 161) (by decide +kernel))
theorem rn_3 : Cond.methodLinkNest "CabinPeace$Partings" 11 yX1_init "CabinPeace" ∈ rv_T := rv_chn_s 11 _ (List.mem_of_getElem? (i := 10) (by decide +kernel))
theorem rn_2 : Cond.methodLinkNest "CabinPeace" 83 yX1_init "CabinPeace" ∈ rv_T := rv_chn_s 12 _ (List.mem_of_getElem? (i := 0) (by decide +kernel))
theorem rn_1 : Cond.methodLinkNest "CabinPeace" 32 yX7_init "CabinPeace" ∈ rv_T := rv_chn_s 10 _ (List.mem_of_getElem? (i := 109) (by decide +kernel))
theorem rn_0 : Cond.methodLinkNest "CabinPeace" 24 yX4_init "CabinPeace" ∈ rv_T := rv_chn_s 10 _ (List.mem_of_getElem? (i := 32) (by decide +kernel))
theorem rn_all : ∀ w ∈ rv_nest, w ∈ rv_T := List.forall_mem_cons.mpr ⟨rn_0, List.forall_mem_cons.mpr ⟨rn_1, List.forall_mem_cons.mpr ⟨rn_2, List.forall_mem_cons.mpr ⟨rn_3, List.forall_mem_cons.mpr ⟨rn_4, fun _ h => absurd h List.not_mem_nil⟩⟩⟩⟩⟩
theorem rv_prim {s : State} {args : Array Value} {ty : FieldType} (h : (Cond.arrayClass ty).before args s = true) : ∃ cA : ClassId, s.vm.findClass ("[" ++ ty.toString) = some cA ∧ ArrOfT s cA ty := by
  obtain ⟨cA, kA, comp, h1, h2, h3⟩ := Cond.arrayClass_spec h
  exact ⟨cA, h1, fun n z => ⟨fun k h => (by cases h), kA, h2, comp, h3⟩⟩
theorem rv_obj {s : State} {args : Array Value} {C : String} (h : (Cond.arrayOver (.object C)).before args s = true) : ∃ cA : ClassId, va_RA s cA (.object C) ∧ ArrOfT s cA (.object C) := by
  obtain ⟨comp, cA, kA, h1, h2, h3, h4, h5⟩ := Cond.arrayOver_spec h
  exact ⟨cA, ⟨kA, comp, h3, h4, h1, h5⟩, fun n z => ⟨fun k h => (by cases h), kA, h3, comp, h4⟩⟩
theorem rv_start {args : Array Value} {s : State} (hts : ∀ w ∈ rv_T, w.before args s = true) : ∃ (D : va_G) (cA : Nat → ClassId), rv_KK D cA s := by
  have hts2 : ∀ w ∈ rv_T2, w.before args s = true := fun w hw => hts w (List.mem_filter.mp hw).1
  have h1 : ∀ k : Nat, ∃ p : ClassId × (Nat → Nat), ∀ q : vw_C, rv_cl[k]? = some q → u_Kn s q.1 q.2.1 q.2.2 p.1 p.2 := by
    intro k
    cases hq : rv_cl[k]? with
    | none => exact ⟨(0, fun _ => 0), fun q h => by cases h⟩
    | some q =>
      obtain ⟨cC, iS, h⟩ := rv_known hts2 k q hq
      exact ⟨(cC, iS), fun q2 h2 => by cases h2; exact h⟩
  obtain ⟨f, hf⟩ := Classical.axiomOfChoice h1
  obtain ⟨c0, e0, a0⟩ := rv_prim (hts2 _ rq_int)
  obtain ⟨c1, e1, a1⟩ := rv_prim (hts2 _ rq_long)
  obtain ⟨c2, e2, a2⟩ := rv_prim (hts2 _ rq_byte)
  obtain ⟨c3, e3, a3⟩ := rv_prim (hts2 _ rq_boolean)
  obtain ⟨c4, e4, a4⟩ := rv_obj (hts _ rq_Tray)
  obtain ⟨c5, e5, a5⟩ := rv_obj (hts _ rq_Wish)
  refine ⟨(fun k => (f k).1, fun k => (f k).2), fun t => match t with | 0 => c0 | 1 => c1 | 2 => c2 | 3 => c3 | 4 => c4 | _ => c5, ⟨fun k q h => hf k q h, ?_⟩, va_AO.of (hts _ rq_Tray), va_AO.of (hts _ rq_Wish), fun w hw => ?_⟩
  · intro k q h
    match k, h with
    | 0, h => cases h; exact ⟨a0, e0⟩
    | 1, h => cases h; exact ⟨a1, e1⟩
    | 2, h => cases h; exact ⟨a2, e2⟩
    | 3, h => cases h; exact ⟨a3, e3⟩
    | 4, h => cases h; exact ⟨a4, e4⟩
    | 5, h => cases h; exact ⟨a5, e5⟩
    | k + 6, h => exact absurd h (by simp [rv_tys])
  · obtain ⟨a, i, x, k, rfl⟩ := rv_nest_f w hw
    exact va_Nw.of rfl (hts _ (rn_all _ hw))
/-- what stands at the law's own steps -/
def lw_X (p : Program) (s : State) (m : MethodId) (meth : Method) (c : Code) (b : Nat) (xs : Nat → Int32) (D : va_G) (cA : Nat → ClassId) : Prop := lw_At p s m meth c b 6 xs ∧ rv_KK D cA s
abbrev lw_A (s : State) : Nat → Prop := fun q => s.heap.size ≤ q
theorem lw_hts {p : Program} {s : State} {m : MethodId} {meth : Method} {c : Code} {b L : Nat} {xs : Nat → Int32} (C0 : lw_At p s m meth c b L xs) : ∀ w ∈ rv_T2, w.before #[Value.ref b] s = true := fun w hw => C0.2.2.2.2.2.1 w (List.mem_filter.mp hw).1
set_option maxHeartbeats 1000000 in
/-- a call out of the law -/
theorem lw_cV {p : Program} {l : Launch} {e : Env} {s : State} {m : MethodId} {below : List Frame} {meth : Method} {c : Code} {b : Nat} {xs : Nat → Int32} {ρ : Nat → Int64} {D : va_G} {cA : Nat → ClassId} {L : Nat} (C0 : lw_At p s m meth c b L xs) (hKK : rv_KK D cA s) {k mi ci d : Nat} {ts : List Nat} (hchk : rv_civ rv_inf R_law k mi ci d ts = true) {orc : Nat → List rv_A → Option rv_A} (horc : ∀ mi as v, orc mi as = some v → ∀ d h, rv_Mt l ρ d mi as h (0, 0, [(some v, h)]) ∧ ∃ i, rv_inf[mi]? = some i) {as : List rv_A} {h : List rv_C} {res : rv_R} (hev : rv_e orc mi as h = some res) (hok : rv_rcv ci h as = true) (hlen : as.length = d) {ws : va_W} {H : Heap} {locs : List Loc} {vs rest stk : List Value} (hvs : rv_Vs ρ (ws.map Prod.fst) as vs) (hrest : (rest.map fun v => v.category).sum ≤ 8) {pc : Nat} {ls : Array Slot} (hls : ls.size = 4) (hdec : decode code pc = .ok (.invokevirtual k, 3)) (hw : rv_Wd ρ D cA (lw_A s) s [] h ws H locs) {cells slots : Nat} (hroom : cells + res.1 ≤ 600000 ∧ slots + res.2.1 ≤ 7302250) (hstk : stk = vs.reverse ++ rest) {Q : State → Prop}
    (kk : ∀ o ∈ res.2.2, ∀ (ws2 : va_W) (v : Option Value) (H1 : Heap) (locs1 : List Loc), rv_rv ρ (ws2.map Prod.fst) o.1 v → rv_Wd ρ D cA (lw_A s) s [] o.2 ws2 H1 locs1 → (∀ (k q : Nat), (ws.map Prod.fst)[k]? = some q → (ws2.map Prod.fst)[k]? = some q) → W p l e room_1 s m #[Value.ref b] below meth c H1 locs1 (cells + res.1) (slots + res.2.1) Q (F0 m (pc + 3) ls (v.toList ++ rest))) : W p l e room_1 s m #[Value.ref b] below meth c H locs cells slots Q (F0 m pc ls stk) := by
  have hts := lw_hts C0
  obtain ⟨hx, hb, hr, hml, hown, -, hX, hbl, hlocks, hgv⟩ := C0
  obtain ⟨hMt, ⟨⟨y2, bytes2, nL2, ret2⟩, hinf⟩⟩ := rv_ev_ok horc 30 mi as h res hev
  obtain ⟨hcw, hnL2⟩ := rv_hcode _ _ _ _ _ hinf
  obtain ⟨hw1, hw2, hw3, hw4, hnh, hnp, hd1, T, N, hclb⟩ := rv_civ_s hinf hchk
  have hM := hMt y2 bytes2 nL2 ret2 hinf D cA H.size ws vs hvs hw.1
  have hA : ∀ q, s.heap.size ≤ q → lw_A s q := fun _ h => h
  have hfree := rv_free hw.2.2.1 hw.2.2.2.1 hA
  have hRR : (rv_rm 30 res.1 res.2.1).frames + 1 ≤ room_1.frames ∧ 8 + (nL2 + 11) + (rv_rm 30 res.1 res.2.1).locals ≤ room_1.locals := ⟨Nat.le_of_ble_eq_true rfl, by show 8 + (nL2 + 11) + 60 * 30 ≤ 84000; omega⟩
  obtain ⟨q, as', fs0, rfl, hq⟩ := rv_rcv_i hok
  obtain ⟨vb, As, rfl, hvb, hvAs⟩ := rv_Vs_c hvs
  obtain ⟨ad, e0, rfl, hat, he0⟩ := rv_ref_at hvb hw.1 hq
  obtain ⟨fsC, rfl, -⟩ := he0
  have hlA : As.length = d - 1 := by
    rw [← rv_Vs_len hvAs]
    have := hlen
    rw [List.length_cons] at this
    omega
  refine rv_call (va_runV (As := As) (rest := rest) ⟨hx, hb, hml, hown, hts⟩ hM ⟨callB_of (d - 1) hts (rv_gin hcw) rfl rfl rfl (hts _ hw4) (hts _ hw1) ⟨hnh.1, hnh.2, hnp⟩ hRR, hts _ hw2, hts _ hw3⟩ ⟨fun a U g mk q => by obtain ⟨q0, q1, qP, qK, qD⟩ := q; exact ⟨q0, q1, qP, qK.blind, qD⟩, va_recv hKK.1 hw.2.1 hclb hat, fun U hU hW => ⟨rfl, by rw [hU], by rw [hU]; exact hw.2.1, hKK.warm hW, hw.2.2.1.weaken (fun _ _ _ _ => trivial)⟩⟩ rfl hlA hls (by show stk = _; rw [hstk, List.reverse_cons, List.append_assoc]; rfl) (lv_room hrest) hdec hroom) hw.2.2.2.1 (fun q _ h => hfree q h) hfree (fun o ho ws2 v H1 locs1 hrv hW2 hext hP1 hD1 hS1 => ?_)
  obtain ⟨ext, hext⟩ := hext
  exact kk o ho ws2 v H1 locs1 hrv ⟨hW2, hP1, hD1.weaken (fun _ _ _ h => hfree _ h), hS1, ws2.map Prod.fst, rfl⟩ (by rw [hext]; exact rv_pfx)
set_option maxHeartbeats 1000000 in
/-- a new object's making, out of the law -/
theorem lw_cI {p : Program} {l : Launch} {e : Env} {s : State} {m : MethodId} {below : List Frame} {meth : Method} {c : Code} {b : Nat} {xs : Nat → Int32} {ρ : Nat → Int64} {D : va_G} {cA : Nat → ClassId} {L : Nat} (C0 : lw_At p s m meth c b L xs) (hKK : rv_KK D cA s) {k mi : Nat} {ts : List Nat} (hchk : rv_cip rv_inf rv_nest R_law k mi 1 1 ts = true) {h : List rv_C} {res : rv_R} {q : Nat} (hev : rv_e rv_no mi [rv_ref q] h = some res) {ws : va_W} {H : Heap} {locs : List Loc} {ad : Nat} {rest : List Value} (hvs : rv_V ρ (ws.map Prod.fst) (rv_ref q) (.ref ad)) (hrest : (rest.map fun v => v.category).sum ≤ 8) {pc : Nat} {ls : Array Slot} (hls : ls.size = 4) (hdec : decode code pc = .ok (.invokespecial k, 3)) (hw : rv_Wd ρ D cA (lw_A s) s [] h ws H locs) {cells slots : Nat} (hroom : cells + res.1 ≤ 600000 ∧ slots + res.2.1 ≤ 7302250) {Q : State → Prop}
    (kk : ∀ o ∈ res.2.2, ∀ (ws2 : va_W) (v : Option Value) (H1 : Heap) (locs1 : List Loc), rv_rv ρ (ws2.map Prod.fst) o.1 v → rv_Wd ρ D cA (lw_A s) s [] o.2 ws2 H1 locs1 → (∀ (k q : Nat), (ws.map Prod.fst)[k]? = some q → (ws2.map Prod.fst)[k]? = some q) → W p l e room_1 s m #[Value.ref b] below meth c H1 locs1 (cells + res.1) (slots + res.2.1) Q (F0 m (pc + 3) ls (v.toList ++ rest))) : W p l e room_1 s m #[Value.ref b] below meth c H locs cells slots Q (F0 m pc ls (.ref ad :: rest)) := by
  have hts := lw_hts C0
  obtain ⟨hx, hb, hr, hml, hown, -, hX, hbl, hlocks, hgv⟩ := C0
  obtain ⟨hMt, ⟨⟨y2, bytes2, nL2, ret2⟩, hinf⟩⟩ := rv_ev_ok (l := l) (ρ := ρ) (orc := rv_no) (fun mi as v h => by cases h) 30 mi [rv_ref q] h res hev
  obtain ⟨hcw, hnL2⟩ := rv_hcode _ _ _ _ _ hinf
  obtain ⟨hw1, hw2, hw4, hnh, hnp, hd1, hyn⟩ := rv_cip_s hinf hchk
  have hret2 : ret2 = none := rv_hini _ _ _ _ _ hinf hyn
  subst hret2
  have hM := hMt y2 bytes2 nL2 none hinf D cA H.size ws [.ref ad] ⟨hvs, True.intro⟩ hw.1
  have hA : ∀ q, s.heap.size ≤ q → lw_A s q := fun _ h => h
  have hfree := rv_free hw.2.2.1 hw.2.2.2.1 hA
  have hRR : (rv_rm 30 res.1 res.2.1).frames + 1 ≤ room_1.frames ∧ 8 + (nL2 + 11) + (rv_rm 30 res.1 res.2.1).locals ≤ room_1.locals := ⟨Nat.le_of_ble_eq_true rfl, by show 8 + (nL2 + 11) + 60 * 30 ≤ 84000; omega⟩
  rcases hw1 with hw1 | hw1
  · refine rv_call (va_runI (As := []) (rest := rest) ⟨hx, hb, hml, hown, hts⟩ hM ⟨callB_of 0 hts (rv_gin hcw) rfl rfl rfl (hts _ hw4) (hts _ hw1) ⟨hnh.1, hnh.2, hnp⟩ hRR, hyn, hts _ hw2⟩ ⟨fun a U g mk q => by obtain ⟨q0, q1, qP, qK, qD⟩ := q; exact ⟨q0, q1, qP, qK.blind, qD⟩, fun U hU hW => ⟨rfl, by rw [hU], by rw [hU]; exact hw.2.1, hKK.warm hW, hw.2.2.1.weaken (fun _ _ _ _ => trivial)⟩⟩ rfl rfl hls rfl (lv_room hrest) hdec hroom) hw.2.2.2.1 (fun q _ h => hfree q h) hfree (fun o ho ws2 v H1 locs1 hrv hW2 hext hP1 hD1 hS1 => ?_)
    obtain ⟨ext, hext⟩ := hext
    exact kk o ho ws2 v H1 locs1 hrv ⟨hW2, hP1, hD1.weaken (fun _ _ _ h => hfree _ h), hS1, ws2.map Prod.fst, rfl⟩ (by rw [hext]; exact rv_pfx)
  · obtain ⟨a1, i1, x1, k1, h9⟩ := rv_nest_f _ hw1
    simp [rv_nest, R_law] at hw1
