/-! THE CLAIM OUT OF ONE WALK OF THE LAW'S BODY. Your part is whole_start (and what it stands on); all else here is the same for every law, but numbers. -/
def R_law : String := "CabinPeaceLaw"
def lw_P (b : Addr) (xs : List Int32) (args : Array Value) (s : State) : Prop := args = #[.ref b] ∧ s.IntsAt b xs ∧ xs.length ≤ 3072 ∧ (Jvm.Cond.and given_1 narrow_1).before args s = true
def lw_Q (_ : Array Value) (s : State) (o : Outcome) (t : State) : Prop := o = .returned (some (.int 1)) ∧ Framed s o t [] 600000 7302250
def lw_Z (below : List Frame) (a : Array Value) (s : State) : State → Prop := fun t => ∃ o, t.status = .running ∧ Ended t below o ∧ lw_Q a s o t
/-- the law's own end, with 1 on the stack, nothing written that was there before, its room as the claim has it -/
theorem lw_ret {p : Program} {l : Launch} {e : Env} {s : State} {m : MethodId} {below : List Frame} {meth : Method} {c : Code} {b : Nat} (hx : p.tables.exec = Jvm.exec) (hb : c.code = code) (hr : meth.sig.returnType = ret) (hlocks : meth.locks = false) {pc : Nat} {H : Heap} {ls : Array Slot} (hdg : decode code pc = .ok (.ireturn, 1)) : W p l e room_1 s m #[Value.ref b] below meth c H [] 600000 7302250 (lw_Z below #[Value.ref b] s) (F0 m pc ls [.int 1]) := by
  intro T hT X
  obtain ⟨fs, hret, hrun, hended, hW, hframe⟩ := X.leave (v := some (.int 1)) (hlocks := hlocks) (fun h => by rw [hr] at h; cases h)
  have hmeth' : T.vm.method? m = some meth := X.method'
  refine ⟨T.setFrames fs, ?_, .returned (some (.int 1)), hrun, hended, rfl, ⟨_, rfl⟩, hW, hframe⟩
  jvm_step X.here [X.here.top, hx, hb, hdg, hmeth', hr, ret, narrow_b1]
  (try refine ⟨rfl, ?_⟩); (try refine ⟨rfl, ?_⟩)
  first | (intro acts; rw [hret _ acts rfl rfl rfl]) | rw [hret _ _ rfl rfl rfl]
  exact Steps.refl _
/-- what holds at the law's entry: the machine, the code, the tables' words (any of lw_tbl by 'hts w (by decide +kernel)'), the script of L ints xs at the cell b, what the Statement gives of the start (any of its parts by flat_of_before) -/
def lw_At (p : Program) (s : State) (m : MethodId) (meth : Method) (c : Code) (b L : Nat) (xs : Nat → Int32) : Prop :=
  p.tables.exec = Jvm.exec ∧ c.code = code ∧ meth.sig.returnType = ret ∧ c.maxLocals = 4 ∧ s.vm.findClass R_law = some m.cls ∧ (∀ w ∈ lw_tbl, w.before #[Value.ref b] s = true) ∧ va_X b L xs s s.heap ∧ b < s.heap.size ∧ meth.locks = false ∧ (Jvm.Cond.and given_1 narrow_1).before #[Value.ref b] s = true
theorem ri_0 : Cond.instantiable RX0 9 ∈ rv_T2 := rv_w_s (p := 11039) (by decide +kernel)
theorem ri_1 : Cond.instantiable RX1 5 ∈ rv_T2 := rv_w_s (p := 10160) (by decide +kernel)
theorem ri_2 : Cond.instantiable RX2 8 ∈ rv_T2 := rv_w_s (p := 11004) (by decide +kernel)
theorem ri_3 : Cond.instantiable RX3 17 ∈ rv_T2 := rv_w_s (p := 11177) (by decide +kernel)
theorem ri_4 : Cond.instantiable RX4 8 ∈ rv_T2 := rv_w_s (p := 10031) (by decide +kernel)
theorem ri_5 : Cond.instantiable RX5 13 ∈ rv_T2 := rv_w_s (p := 11126) (by decide +kernel)
theorem ri_6 : Cond.instantiable RX6 13 ∈ rv_T2 := rv_w_s (p := 10154) (by decide +kernel)
theorem ri_7 : Cond.instantiable RX7 3 ∈ rv_T2 := rv_w_s (p := 10108) (by decide +kernel)
theorem ri_8 : Cond.instantiable RX8 6 ∈ rv_T2 := rv_w_s (p := 10078) (by decide +kernel)
theorem ri_9 : Cond.instantiable RX9 11 ∈ rv_T2 := rv_w_s (p := 10192) (by decide +kernel)
theorem ri_10 : Cond.instantiable RX10 6 ∈ rv_T2 := rv_w_s (p := 10128) (by decide +kernel)
theorem ri_11 : Cond.instantiable RX11 13 ∈ rv_T2 := rv_w_s (p := 10023) (by decide +kernel)
theorem ri_12 : Cond.instantiable RX12 72 ∈ rv_T2 := rv_w_s (p := 15070) (by decide +kernel)
theorem rv_known {args : Array Value} {s : State} (hts : ∀ w ∈ rv_T2, w.before args s = true) : ∀ (k : Nat) (q : vw_C), rv_cl[k]? = some q → ∃ (cC : ClassId) (iS : Nat → Nat), u_Kn s q.1 q.2.1 q.2.2 cC iS := by
  intro k q h
  match k, h with
  | 0, h => cases h; exact u_known (C := RX0) (T := TX0) (N := 9) (n := 9) hts rc_0.1 (hts _ ri_0)
  | 1, h => cases h; exact u_known (C := RX1) (T := TX1) (N := 5) (n := 5) hts rc_1.1 (hts _ ri_1)
  | 2, h => cases h; exact u_known (C := RX2) (T := TX2) (N := 8) (n := 8) hts rc_2.1 (hts _ ri_2)
  | 3, h => cases h; exact u_known (C := RX3) (T := TX3) (N := 17) (n := 17) hts rc_3.1 (hts _ ri_3)
  | 4, h => cases h; exact u_known (C := RX4) (T := TX4) (N := 8) (n := 8) hts rc_4.1 (hts _ ri_4)
  | 5, h => cases h; exact u_known (C := RX5) (T := TX5) (N := 13) (n := 13) hts rc_5.1 (hts _ ri_5)
  | 6, h => cases h; exact u_known (C := RX6) (T := TX6) (N := 13) (n := 13) hts rc_6.1 (hts _ ri_6)
  | 7, h => cases h; exact u_known (C := RX7) (T := TX7) (N := 3) (n := 3) hts rc_7.1 (hts _ ri_7)
  | 8, h => cases h; exact u_known (C := RX8) (T := TX8) (N := 6) (n := 6) hts rc_8.1 (hts _ ri_8)
  | 9, h => cases h; exact u_known (C := RX9) (T := TX9) (N := 11) (n := 11) hts rc_9.1 (hts _ ri_9)
  | 10, h => cases h; exact u_known (C := RX10) (T := TX10) (N := 6) (n := 6) hts rc_10.1 (hts _ ri_10)
  | 11, h => cases h; exact u_known (C := RX11) (T := TX11) (N := 13) (n := 13) hts rc_11.1 (hts _ ri_11)
  | 12, h => cases h; exact u_known (C := RX12) (T := TX12) (N := 72) (n := 72) hts rc_12.1 (hts _ ri_12)
  | k + 13, h => exact absurd h (by simp [rv_cl])
theorem rq_int : Cond.arrayClass .int ∈ rv_T2 := rv_w_s (p := 10075) (by decide +kernel)
theorem rq_long : Cond.arrayClass .long ∈ rv_T2 := rv_w_s (p := 10074) (by decide +kernel)
theorem rq_byte : Cond.arrayClass .byte ∈ rv_T2 := rv_w_s (p := 11175) (by decide +kernel)
theorem rq_boolean : Cond.arrayClass .boolean ∈ rv_T2 := rv_w_s (p := 11002) (by decide +kernel)
theorem rq_Tray : Cond.arrayOver (.object "CabinPeace$Tray") ∈ rv_T := rv_chn_s 10 _ (List.mem_of_getElem? (i := 107) (by decide +kernel))
theorem rq_Wish : Cond.arrayOver (.object "CabinPeace$Wish") ∈ rv_T := rv_chn_s 10 _ (List.mem_of_getElem? (i := 77) (by decide +kernel))
theorem rn_4 : Cond.methodLinkNest "CabinPeace$Search" 11 yX1_init "CabinPeace" ∈ rv_T := rv_chn_s 10 _ (List.mem_of_getElem? (i := 161) (by decide +kernel))
theorem rn_3 : Cond.methodLinkNest "CabinPeace$Partings" 11 yX1_init "CabinPeace" ∈ rv_T := rv_chn_s 11 _ (List.mem_of_getElem? (i := 10) (by decide +kernel))
theorem rn_2 : Cond.methodLinkNest "CabinPeace" 83 yX1_init "CabinPeace" ∈ rv_T := rv_chn_s 12 _ (List.mem_of_getElem? (i := 0) (by decide +kernel))
theorem rn_1 : Cond.methodLinkNest "CabinPeace" 32 yX7_init "CabinPeace" ∈ rv_T := rv_chn_s 10 _ (List.mem_of_getElem? (i := 109) (by decide +kernel))
theorem rn_0 : Cond.methodLinkNest "CabinPeace" 24 yX4_init "CabinPeace" ∈ rv_T := rv_chn_s 10 _ (List.mem_of_getElem? (i := 32) (by decide +kernel))
theorem rn_5 : Cond.fieldLinkNest "CabinPeace$Search" 138 "CabinPeace$Worths" "wishes" "[LCabinPeace$Wish;" "CabinPeace" ∈ rv_T := rv_chn_s 10 _ (List.mem_of_getElem? (i := 135) (by decide +kernel))
theorem rn_all : ∀ w ∈ rv_nest, w ∈ rv_T := List.forall_mem_cons.mpr ⟨rn_0, List.forall_mem_cons.mpr ⟨rn_1, List.forall_mem_cons.mpr ⟨rn_2, List.forall_mem_cons.mpr ⟨rn_3, List.forall_mem_cons.mpr ⟨rn_4, List.forall_mem_cons.mpr ⟨rn_5, fun _ h => absurd h List.not_mem_nil⟩⟩⟩⟩⟩⟩
theorem rv_prim {s : State} {args : Array Value} {ty : FieldType} (h : (Cond.arrayClass ty).before args s = true) : ∃ cA : ClassId, s.vm.findClass ("[" ++ ty.toString) = some cA ∧ ArrOfT s cA ty := by
  obtain ⟨cA, kA, comp, h1, h2, h3⟩ := Cond.arrayClass_spec h
  exact ⟨cA, h1, fun n z => ⟨fun k h => (by cases h), kA, h2, comp, h3⟩⟩
theorem rv_obj {s : State} {args : Array Value} {C : String} (h : (Cond.arrayOver (.object C)).before args s = true) : ∃ cA : ClassId, va_RA s cA (.object C) ∧ ArrOfT s cA (.object C) := by
  obtain ⟨comp, cA, kA, h1, h2, h3, h4, h5⟩ := Cond.arrayOver_spec h
  exact ⟨cA, ⟨kA, comp, h3, h4, h1, h5⟩, fun n z => ⟨fun k h => (by cases h), kA, h3, comp, h4⟩⟩
theorem rv_start {args : Array Value} {s : State} {ρ : rv_ρ} {A : Nat → Prop} (hts : ∀ w ∈ rv_T, w.before args s = true) (hSt : rs_S ρ A s s.heap) : ∃ (D : va_G) (cA : Nat → ClassId), rv_KK ρ A D cA s := by
  have hts2 : ∀ w ∈ rv_T2, w.before args s = true := fun w hw => hts w (List.mem_filter.mp hw).1
  have h1 : ∀ k : Nat, ∃ p : ClassId × (Nat → Nat), ∀ q : vw_C, rv_cl[k]? = some q → u_Kn s q.1 q.2.1 q.2.2 p.1 p.2 := by
    intro k
    cases hq : rv_cl[k]? with
    | none => exact ⟨(0, fun _ => 0), fun q h => by cases h⟩
    | some q =>
      obtain ⟨cC, iS, h⟩ := rv_known hts2 k q hq
      exact ⟨(cC, iS), fun q2 h2 => by cases h2; exact h⟩
  obtain ⟨f, hf⟩ := Classical.axiomOfChoice h1
  obtain ⟨c0, e0, a0⟩ := rv_prim (hts2 _ rq_int)
  obtain ⟨c1, e1, a1⟩ := rv_prim (hts2 _ rq_long)
  obtain ⟨c2, e2, a2⟩ := rv_prim (hts2 _ rq_byte)
  obtain ⟨c3, e3, a3⟩ := rv_prim (hts2 _ rq_boolean)
  obtain ⟨c4, e4, a4⟩ := rv_obj (hts _ rq_Tray)
  obtain ⟨c5, e5, a5⟩ := rv_obj (hts _ rq_Wish)
  refine ⟨(fun k => (f k).1, fun k => (f k).2), fun t => match t with | 0 => c0 | 1 => c1 | 2 => c2 | 3 => c3 | 4 => c4 | _ => c5, ⟨fun k q h => hf k q h, ?_⟩, va_AO.of (hts _ rq_Tray), va_AO.of (hts _ rq_Wish), fun w hw => ?_, hSt⟩
  · intro k q h
    match k, h with
    | 0, h => cases h; exact ⟨a0, e0⟩
    | 1, h => cases h; exact ⟨a1, e1⟩
    | 2, h => cases h; exact ⟨a2, e2⟩
    | 3, h => cases h; exact ⟨a3, e3⟩
    | 4, h => cases h; exact ⟨a4, e4⟩
    | 5, h => cases h; exact ⟨a5, e5⟩
    | k + 6, h => exact absurd h (by simp [rv_tys])
  · rcases rv_nest_f w hw with ⟨a, i, x, k, rfl⟩ | ⟨a, i, b, n, d, k, rfl⟩
    · exact va_Nw.of rfl (hts _ (rn_all _ hw))
    · exact va_Nw.of rfl (hts _ (rn_all _ hw))
abbrev lw_A (s : State) : Nat → Prop := fun q => s.heap.size ≤ q
theorem lw_hts {p : Program} {s : State} {m : MethodId} {meth : Method} {c : Code} {b L : Nat} {xs : Nat → Int32} (C0 : lw_At p s m meth c b L xs) : ∀ w ∈ rv_T2, w.before #[Value.ref b] s = true := fun w hw => C0.2.2.2.2.2.1 w (List.mem_filter.mp hw).1
def ns_tm (a : Nat) : Term := .string "CabinPeaceModel" ((rs_lit.getD a (0, "")).1)
set_option maxHeartbeats 4000000 in
set_option maxRecDepth 100000 in
theorem ns_hex {b : Nat} {s : State} (hgv : (Jvm.Cond.and given_1 narrow_1).before #[Value.ref b] s = true) : ∀ a : Nat, a < 9 → (Cond.exactly (ns_tm a) "java/lang/String").before #[Value.ref b] s = true := by
  intro a ha
  have hs := flat_of_before _ hgv
  match a, ha with
  | 0, _ => exact hs _ (by decide +kernel)
  | 1, _ => exact hs _ (by decide +kernel)
  | 2, _ => exact hs _ (by decide +kernel)
  | 3, _ => exact hs _ (by decide +kernel)
  | 4, _ => exact hs _ (by decide +kernel)
  | 5, _ => exact hs _ (by decide +kernel)
  | 6, _ => exact hs _ (by decide +kernel)
  | 7, _ => exact hs _ (by decide +kernel)
  | 8, _ => exact hs _ (by decide +kernel)
  | a + 9, ha => omega
set_option maxHeartbeats 4000000 in
set_option maxRecDepth 100000 in
theorem ns_hco {b : Nat} {s : State} (hgv : (Jvm.Cond.and given_1 narrow_1).before #[Value.ref b] s = true) : ∀ a : Nat, a < 9 → (Cond.eq (.field (ns_tm a) "java/lang/String" "coder" "B") (.int 0)).before #[Value.ref b] s = true := by
  intro a ha
  have hs := flat_of_before _ hgv
  match a, ha with
  | 0, _ => exact hs _ (by decide +kernel)
  | 1, _ => exact hs _ (by decide +kernel)
  | 2, _ => exact hs _ (by decide +kernel)
  | 3, _ => exact hs _ (by decide +kernel)
  | 4, _ => exact hs _ (by decide +kernel)
  | 5, _ => exact hs _ (by decide +kernel)
  | 6, _ => exact hs _ (by decide +kernel)
  | 7, _ => exact hs _ (by decide +kernel)
  | 8, _ => exact hs _ (by decide +kernel)
  | a + 9, ha => omega
set_option maxHeartbeats 4000000 in
set_option maxRecDepth 100000 in
theorem ns_har {b : Nat} {s : State} (hgv : (Jvm.Cond.and given_1 narrow_1).before #[Value.ref b] s = true) : ∀ a : Nat, a < 9 → (Cond.arrayOf (.field (ns_tm a) "java/lang/String" "value" "[B") .byte).before #[Value.ref b] s = true := by
  intro a ha
  have hs := flat_of_before _ hgv
  match a, ha with
  | 0, _ => exact hs _ (by decide +kernel)
  | 1, _ => exact hs _ (by decide +kernel)
  | 2, _ => exact hs _ (by decide +kernel)
  | 3, _ => exact hs _ (by decide +kernel)
  | 4, _ => exact hs _ (by decide +kernel)
  | 5, _ => exact hs _ (by decide +kernel)
  | 6, _ => exact hs _ (by decide +kernel)
  | 7, _ => exact hs _ (by decide +kernel)
  | 8, _ => exact hs _ (by decide +kernel)
  | a + 9, ha => omega
set_option maxHeartbeats 4000000 in
set_option maxRecDepth 100000 in
theorem ns_hle {b : Nat} {s : State} (hgv : (Jvm.Cond.and given_1 narrow_1).before #[Value.ref b] s = true) : ∀ a : Nat, a < 9 → (Cond.eq (.length (.field (ns_tm a) "java/lang/String" "value" "[B")) (.int (Int32.ofNat (rs_len.getD a 0)))).before #[Value.ref b] s = true := by
  intro a ha
  have hs := flat_of_before _ hgv
  match a, ha with
  | 0, _ => exact hs _ (by decide +kernel)
  | 1, _ => exact hs _ (by decide +kernel)
  | 2, _ => exact hs _ (by decide +kernel)
  | 3, _ => exact hs _ (by decide +kernel)
  | 4, _ => exact hs _ (by decide +kernel)
  | 5, _ => exact hs _ (by decide +kernel)
  | 6, _ => exact hs _ (by decide +kernel)
  | 7, _ => exact hs _ (by decide +kernel)
  | 8, _ => exact hs _ (by decide +kernel)
  | a + 9, ha => omega
set_option maxHeartbeats 8000000 in
set_option maxRecDepth 100000 in
theorem ns_hel {b : Nat} {s : State} (hgv : (Jvm.Cond.and given_1 narrow_1).before #[Value.ref b] s = true) : ∀ a : Nat, a < 9 → ∀ j : Nat, j < rs_len.getD a 0 → (Cond.eq (.elem (.field (ns_tm a) "java/lang/String" "value" "[B") (.int (Int32.ofNat j))) (.int ((rs_byt.getD a []).getD j 0))).before #[Value.ref b] s = true := by
  intro a ha j hj
  have hs := flat_of_before _ hgv
  match a, ha, j, hj with
  | 0, _, 0, _ => exact hs _ (by decide +kernel)
  | 0, _, 1, _ => exact hs _ (by decide +kernel)
  | 0, _, 2, _ => exact hs _ (by decide +kernel)
  | 0, _, 3, _ => exact hs _ (by decide +kernel)
  | 0, _, 4, _ => exact hs _ (by decide +kernel)
  | 0, _, 5, _ => exact hs _ (by decide +kernel)
  | 0, _, 6, _ => exact hs _ (by decide +kernel)
  | 0, _, 7, _ => exact hs _ (by decide +kernel)
  | 0, _, 8, _ => exact hs _ (by decide +kernel)
  | 0, _, 9, _ => exact hs _ (by decide +kernel)
  | 0, _, 10, _ => exact hs _ (by decide +kernel)
  | 0, _, 11, _ => exact hs _ (by decide +kernel)
  | 0, _, 12, _ => exact hs _ (by decide +kernel)
  | 0, _, 13, _ => exact hs _ (by decide +kernel)
  | 0, _, 14, _ => exact hs _ (by decide +kernel)
  | 0, _, 15, _ => exact hs _ (by decide +kernel)
  | 0, _, 16, _ => exact hs _ (by decide +kernel)
  | 0, _, 17, _ => exact hs _ (by decide +kernel)
  | 0, _, 18, _ => exact hs _ (by decide +kernel)
  | 0, _, 19, _ => exact hs _ (by decide +kernel)
  | 0, _, 20, _ => exact hs _ (by decide +kernel)
  | 0, _, 21, _ => exact hs _ (by decide +kernel)
  | 0, _, 22, _ => exact hs _ (by decide +kernel)
  | 0, _, 23, _ => exact hs _ (by decide +kernel)
  | 0, _, 24, _ => exact hs _ (by decide +kernel)
  | 0, _, 25, _ => exact hs _ (by decide +kernel)
  | 0, _, 26, _ => exact hs _ (by decide +kernel)
  | 0, _, 27, _ => exact hs _ (by decide +kernel)
  | 0, _, 28, _ => exact hs _ (by decide +kernel)
  | 0, _, 29, _ => exact hs _ (by decide +kernel)
  | 0, _, 30, _ => exact hs _ (by decide +kernel)
  | 0, _, 31, _ => exact hs _ (by decide +kernel)
  | 0, _, j + 32, hj => exact absurd hj (by show ¬ j + 32 < 32; omega)
  | 1, _, 0, _ => exact hs _ (by decide +kernel)
  | 1, _, 1, _ => exact hs _ (by decide +kernel)
  | 1, _, 2, _ => exact hs _ (by decide +kernel)
  | 1, _, 3, _ => exact hs _ (by decide +kernel)
  | 1, _, j + 4, hj => exact absurd hj (by show ¬ j + 4 < 4; omega)
  | 2, _, 0, _ => exact hs _ (by decide +kernel)
  | 2, _, 1, _ => exact hs _ (by decide +kernel)
  | 2, _, 2, _ => exact hs _ (by decide +kernel)
  | 2, _, j + 3, hj => exact absurd hj (by show ¬ j + 3 < 3; omega)
  | 3, _, 0, _ => exact hs _ (by decide +kernel)
  | 3, _, 1, _ => exact hs _ (by decide +kernel)
  | 3, _, 2, _ => exact hs _ (by decide +kernel)
  | 3, _, j + 3, hj => exact absurd hj (by show ¬ j + 3 < 3; omega)
  | 4, _, 0, _ => exact hs _ (by decide +kernel)
  | 4, _, 1, _ => exact hs _ (by decide +kernel)
  | 4, _, j + 2, hj => exact absurd hj (by show ¬ j + 2 < 2; omega)
  | 5, _, 0, _ => exact hs _ (by decide +kernel)
  | 5, _, 1, _ => exact hs _ (by decide +kernel)
  | 5, _, 2, _ => exact hs _ (by decide +kernel)
  | 5, _, j + 3, hj => exact absurd hj (by show ¬ j + 3 < 3; omega)
  | 6, _, 0, _ => exact hs _ (by decide +kernel)
  | 6, _, 1, _ => exact hs _ (by decide +kernel)
  | 6, _, 2, _ => exact hs _ (by decide +kernel)
  | 6, _, j + 3, hj => exact absurd hj (by show ¬ j + 3 < 3; omega)
  | 7, _, 0, _ => exact hs _ (by decide +kernel)
  | 7, _, 1, _ => exact hs _ (by decide +kernel)
  | 7, _, 2, _ => exact hs _ (by decide +kernel)
  | 7, _, j + 3, hj => exact absurd hj (by show ¬ j + 3 < 3; omega)
  | 8, _, 0, _ => exact hs _ (by decide +kernel)
  | 8, _, 1, _ => exact hs _ (by decide +kernel)
  | 8, _, j + 2, hj => exact absurd hj (by show ¬ j + 2 < 2; omega)
  | a + 9, ha, _, _ => omega
set_option maxHeartbeats 8000000 in
set_option maxRecDepth 100000 in
theorem ns_hne {b : Nat} {s : State} (hgv : (Jvm.Cond.and given_1 narrow_1).before #[Value.ref b] s = true) : ∀ i j : Nat, i < 9 → j < 9 → i ≠ j → (Cond.not (Cond.eq (ns_tm i) (ns_tm j))).before #[Value.ref b] s = true ∨ (Cond.not (Cond.eq (ns_tm j) (ns_tm i))).before #[Value.ref b] s = true := by
  intro i j hi hj hne
  have hs := flat_of_before _ hgv
  match i, j, hi, hj, hne with
  | 0, 0, _, _, h => exact absurd rfl h
  | 0, 1, _, _, _ => exact Or.inl (hs _ (by decide +kernel))
  | 0, 2, _, _, _ => exact Or.inl (hs _ (by decide +kernel))
  | 0, 3, _, _, _ => exact Or.inl (hs _ (by decide +kernel))
  | 0, 4, _, _, _ => exact Or.inl (hs _ (by decide +kernel))
  | 0, 5, _, _, _ => exact Or.inl (hs _ (by decide +kernel))
  | 0, 6, _, _, _ => exact Or.inl (hs _ (by decide +kernel))
  | 0, 7, _, _, _ => exact Or.inl (hs _ (by decide +kernel))
  | 0, 8, _, _, _ => exact Or.inl (hs _ (by decide +kernel))
  | 1, 0, _, _, _ => exact Or.inr (hs _ (by decide +kernel))
  | 1, 1, _, _, h => exact absurd rfl h
  | 1, 2, _, _, _ => exact Or.inl (hs _ (by decide +kernel))
  | 1, 3, _, _, _ => exact Or.inl (hs _ (by decide +kernel))
  | 1, 4, _, _, _ => exact Or.inl (hs _ (by decide +kernel))
  | 1, 5, _, _, _ => exact Or.inl (hs _ (by decide +kernel))
  | 1, 6, _, _, _ => exact Or.inr (hs _ (by decide +kernel))
  | 1, 7, _, _, _ => exact Or.inr (hs _ (by decide +kernel))
  | 1, 8, _, _, _ => exact Or.inl (hs _ (by decide +kernel))
  | 2, 0, _, _, _ => exact Or.inr (hs _ (by decide +kernel))
  | 2, 1, _, _, _ => exact Or.inr (hs _ (by decide +kernel))
  | 2, 2, _, _, h => exact absurd rfl h
  | 2, 3, _, _, _ => exact Or.inl (hs _ (by decide +kernel))
  | 2, 4, _, _, _ => exact Or.inl (hs _ (by decide +kernel))
  | 2, 5, _, _, _ => exact Or.inl (hs _ (by decide +kernel))
  | 2, 6, _, _, _ => exact Or.inr (hs _ (by decide +kernel))
  | 2, 7, _, _, _ => exact Or.inr (hs _ (by decide +kernel))
  | 2, 8, _, _, _ => exact Or.inl (hs _ (by decide +kernel))
  | 3, 0, _, _, _ => exact Or.inr (hs _ (by decide +kernel))
  | 3, 1, _, _, _ => exact Or.inr (hs _ (by decide +kernel))
  | 3, 2, _, _, _ => exact Or.inr (hs _ (by decide +kernel))
  | 3, 3, _, _, h => exact absurd rfl h
  | 3, 4, _, _, _ => exact Or.inl (hs _ (by decide +kernel))
  | 3, 5, _, _, _ => exact Or.inl (hs _ (by decide +kernel))
  | 3, 6, _, _, _ => exact Or.inr (hs _ (by decide +kernel))
  | 3, 7, _, _, _ => exact Or.inr (hs _ (by decide +kernel))
  | 3, 8, _, _, _ => exact Or.inr (hs _ (by decide +kernel))
  | 4, 0, _, _, _ => exact Or.inr (hs _ (by decide +kernel))
  | 4, 1, _, _, _ => exact Or.inr (hs _ (by decide +kernel))
  | 4, 2, _, _, _ => exact Or.inr (hs _ (by decide +kernel))
  | 4, 3, _, _, _ => exact Or.inr (hs _ (by decide +kernel))
  | 4, 4, _, _, h => exact absurd rfl h
  | 4, 5, _, _, _ => exact Or.inl (hs _ (by decide +kernel))
  | 4, 6, _, _, _ => exact Or.inr (hs _ (by decide +kernel))
  | 4, 7, _, _, _ => exact Or.inr (hs _ (by decide +kernel))
  | 4, 8, _, _, _ => exact Or.inr (hs _ (by decide +kernel))
  | 5, 0, _, _, _ => exact Or.inr (hs _ (by decide +kernel))
  | 5, 1, _, _, _ => exact Or.inr (hs _ (by decide +kernel))
  | 5, 2, _, _, _ => exact Or.inr (hs _ (by decide +kernel))
  | 5, 3, _, _, _ => exact Or.inr (hs _ (by decide +kernel))
  | 5, 4, _, _, _ => exact Or.inr (hs _ (by decide +kernel))
  | 5, 5, _, _, h => exact absurd rfl h
  | 5, 6, _, _, _ => exact Or.inr (hs _ (by decide +kernel))
  | 5, 7, _, _, _ => exact Or.inr (hs _ (by decide +kernel))
  | 5, 8, _, _, _ => exact Or.inr (hs _ (by decide +kernel))
  | 6, 0, _, _, _ => exact Or.inr (hs _ (by decide +kernel))
  | 6, 1, _, _, _ => exact Or.inl (hs _ (by decide +kernel))
  | 6, 2, _, _, _ => exact Or.inl (hs _ (by decide +kernel))
  | 6, 3, _, _, _ => exact Or.inl (hs _ (by decide +kernel))
  | 6, 4, _, _, _ => exact Or.inl (hs _ (by decide +kernel))
  | 6, 5, _, _, _ => exact Or.inl (hs _ (by decide +kernel))
  | 6, 6, _, _, h => exact absurd rfl h
  | 6, 7, _, _, _ => exact Or.inl (hs _ (by decide +kernel))
  | 6, 8, _, _, _ => exact Or.inl (hs _ (by decide +kernel))
  | 7, 0, _, _, _ => exact Or.inr (hs _ (by decide +kernel))
  | 7, 1, _, _, _ => exact Or.inl (hs _ (by decide +kernel))
  | 7, 2, _, _, _ => exact Or.inl (hs _ (by decide +kernel))
  | 7, 3, _, _, _ => exact Or.inl (hs _ (by decide +kernel))
  | 7, 4, _, _, _ => exact Or.inl (hs _ (by decide +kernel))
  | 7, 5, _, _, _ => exact Or.inl (hs _ (by decide +kernel))
  | 7, 6, _, _, _ => exact Or.inr (hs _ (by decide +kernel))
  | 7, 7, _, _, h => exact absurd rfl h
  | 7, 8, _, _, _ => exact Or.inl (hs _ (by decide +kernel))
  | 8, 0, _, _, _ => exact Or.inr (hs _ (by decide +kernel))
  | 8, 1, _, _, _ => exact Or.inr (hs _ (by decide +kernel))
  | 8, 2, _, _, _ => exact Or.inr (hs _ (by decide +kernel))
  | 8, 3, _, _, _ => exact Or.inl (hs _ (by decide +kernel))
  | 8, 4, _, _, _ => exact Or.inl (hs _ (by decide +kernel))
  | 8, 5, _, _, _ => exact Or.inl (hs _ (by decide +kernel))
  | 8, 6, _, _, _ => exact Or.inr (hs _ (by decide +kernel))
  | 8, 7, _, _, _ => exact Or.inr (hs _ (by decide +kernel))
  | 8, 8, _, _, h => exact absurd rfl h
  | i + 9, _, h, _, _ => omega
  | _, j + 9, _, h, _ => omega
theorem lw_ns {p : Program} {s : State} {m : MethodId} {meth : Method} {c : Code} {b L : Nat} {xs : Nat → Int32} (C0 : lw_At p s m meth c b L xs) : ∃ ρ : rv_ρ, rs_S ρ (lw_A s) s s.heap := by
  obtain ⟨hx, hb, hr, hml, hown, hts0, hX, hbl, hlocks, hgv⟩ := C0
  have hs := flat_of_before _ hgv
  have hA : ∀ a : Nat, a < s.heap.size → ¬ lw_A s a := fun a h => Nat.not_le.mpr h
  obtain ⟨adK, adV, hV, hE⟩ := vk_Sof (args := #[Value.ref b]) (s := s) (N := 9) (tm := ns_tm) (len := rs_len) (byt := rs_byt) (A := lw_A s) (by decide) (ns_hex hgv) (ns_hco hgv) (ns_har hgv) (ns_hle hgv) (ns_hel hgv) (ns_hne hgv) hA
  have hZ := va_Zof (v := .int 1) (A := lw_A s) (hts0 (.laysStatic "java/lang/String" "COMPACT_STRINGS" "Z") (rv_chn_s 16 _ (List.mem_of_getElem? (i := 110) (by decide +kernel)))) (hts0 (.initialized "java/lang/String") (rv_chn_s 10 _ (List.mem_of_getElem? (i := 17) (by decide +kernel)))) (va_eqt (hs (Cond.eq (.static "java/lang/String" "COMPACT_STRINGS" "Z") (.int 1)) (by decide +kernel))) hA
  have hF := va_Zqof (A := lw_A s) (hts0 (.laysStatic "jdk/internal/util/Preconditions" "SIOOBE_FORMATTER" "Ljava/util/function/BiFunction;") (rv_chn_s 16 _ (List.mem_of_getElem? (i := 126) (by decide +kernel)))) (hts0 (.initialized "jdk/internal/util/Preconditions") (rv_chn_s 10 _ (List.mem_of_getElem? (i := 19) (by decide +kernel)))) (hs (Cond.isRef (.static "jdk/internal/util/Preconditions" "SIOOBE_FORMATTER" "Ljava/util/function/BiFunction;")) (by decide +kernel)) hA
  refine ⟨(fun _ => 0, adK, adV), hV, hZ, hF, fun i k tx hi => ?_⟩
  match i, hi with
  | 0, hi => cases hi; exact vk_R.of (hts0 (.stringRef "CabinPeaceModel" 187 " add bar if or and not size kin ") (rv_chn_s 16 _ (List.mem_of_getElem? (i := 100) (by decide +kernel)))) (hE 0 (by decide))
  | 1, hi => cases hi; exact vk_R.of (hts0 (.stringRef "CabinPeaceModel" 275 "size") (rv_chn_s 16 _ (List.mem_of_getElem? (i := 223) (by decide +kernel)))) (hE 1 (by decide))
  | 2, hi => cases hi; exact vk_R.of (hts0 (.stringRef "CabinPeaceModel" 280 "kin") (rv_chn_s 16 _ (List.mem_of_getElem? (i := 224) (by decide +kernel)))) (hE 2 (by decide))
  | 3, hi => cases hi; exact vk_R.of (hts0 (.stringRef "CabinPeaceModel" 294 "not") (rv_chn_s 17 _ (List.mem_of_getElem? (i := 6) (by decide +kernel)))) (hE 3 (by decide))
  | 4, hi => cases hi; exact vk_R.of (hts0 (.stringRef "CabinPeaceModel" 304 "or") (rv_chn_s 17 _ (List.mem_of_getElem? (i := 7) (by decide +kernel)))) (hE 4 (by decide))
  | 5, hi => cases hi; exact vk_R.of (hts0 (.stringRef "CabinPeaceModel" 306 "and") (rv_chn_s 17 _ (List.mem_of_getElem? (i := 8) (by decide +kernel)))) (hE 5 (by decide))
  | 6, hi => cases hi; exact vk_R.of (hts0 (.stringRef "CabinPeaceModel" 308 "add") (rv_chn_s 16 _ (List.mem_of_getElem? (i := 205) (by decide +kernel)))) (hE 6 (by decide))
  | 7, hi => cases hi; exact vk_R.of (hts0 (.stringRef "CabinPeaceModel" 310 "bar") (rv_chn_s 16 _ (List.mem_of_getElem? (i := 210) (by decide +kernel)))) (hE 7 (by decide))
  | 8, hi => cases hi; exact vk_R.of (hts0 (.stringRef "CabinPeaceModel" 315 "if") (rv_chn_s 16 _ (List.mem_of_getElem? (i := 237) (by decide +kernel)))) (hE 8 (by decide))
  | i + 9, hi => simp [rs_lit] at hi
def rv_no : Nat → List rv_A → Option rv_A := fun _ _ => none
set_option maxHeartbeats 1000000 in
/-- a call out of the law -/
theorem lw_cV {p : Program} {l : Launch} {e : Env} {s : State} {m : MethodId} {below : List Frame} {meth : Method} {c : Code} {b : Nat} {xs : Nat → Int32} {ρ : rv_ρ} {D : va_G} {cA : Nat → ClassId} {L : Nat} (C0 : lw_At p s m meth c b L xs) (hKK : rv_KK ρ (lw_A s) D cA s) {k mi ci d : Nat} {ts : List Nat} (hchk : rv_civ rv_inf R_law k mi ci d ts = true) (hc9 : ci ≠ 99) {as : List rv_A} {h : List rv_C} {Q' : rv_O → Prop} (hct : sx_Ct l ρ 60 mi as h Q') (hok : rv_rcv ci h as = true) (hlen : as.length = d) {ws : va_W} {H : Heap} {locs : List Loc} {vs rest stk : List Value} (hvs : rv_Vs ρ (ws.map Prod.fst) as vs) (hrest : (rest.map fun v => v.category).sum ≤ 8) {pc : Nat} {ls : Array Slot} (hls : ls.size = 4) (hdec : decode code pc = .ok (.invokevirtual k, 3)) (hw : rv_Wd ρ D cA (lw_A s) s [] h ws H locs) {cells slots : Nat} (hroom : cells + 0 ≤ 600000 ∧ slots + 0 ≤ 7302250) (hstk : stk = vs.reverse ++ rest) {Q : State → Prop}
    (kk : ∀ o, Q' o → ∀ (ws2 : va_W) (v : Option Value) (H1 : Heap) (locs1 : List Loc), rv_rv ρ (ws2.map Prod.fst) o.1 v → rv_Wd ρ D cA (lw_A s) s [] o.2 ws2 H1 locs1 → (∀ (k q : Nat), (ws.map Prod.fst)[k]? = some q → (ws2.map Prod.fst)[k]? = some q) → W p l e room_1 s m #[Value.ref b] below meth c H1 locs1 (cells + 0) (slots + 0) Q (F0 m (pc + 3) ls (v.toList ++ rest))) : W p l e room_1 s m #[Value.ref b] below meth c H locs cells slots Q (F0 m pc ls stk) := by
  have hts := lw_hts C0
  obtain ⟨hx, hb, hr, hml, hown, -, hX, hbl, hlocks, hgv⟩ := C0
  obtain ⟨o0, ⟨hMt, ⟨⟨y2, bytes2, nL2, ret2⟩, hinf⟩⟩, hq0⟩ := hct
  obtain ⟨hcw, hnL2⟩ := rv_hcode _ _ _ _ _ hinf
  obtain ⟨hw1, hw2, hw3, hw4, hnh, hnp, hd1, hcb⟩ := rv_civ_s hinf hchk
  rcases hcb with ⟨h9, -⟩ | ⟨T, N, hclb⟩
  · exact absurd h9 hc9
  have hM := hMt y2 bytes2 nL2 ret2 hinf D cA H.size ws vs hvs hw.1
  have hA : ∀ q, s.heap.size ≤ q → lw_A s q := fun _ h => h
  have hfree := rv_free hw.2.2.1 hw.2.2.2.1 hA
  have hRR : (rv_rm 60 0 0).frames + 1 ≤ room_1.frames ∧ 8 + (nL2 + 11) + (rv_rm 60 0 0).locals ≤ room_1.locals := ⟨Nat.le_of_ble_eq_true rfl, by show 8 + (nL2 + 11) + 60 * 60 ≤ 84000; omega⟩
  obtain ⟨q, as', fs0, rfl, hq⟩ := rv_rcv_i hok
  obtain ⟨vb, As, rfl, hvb, hvAs⟩ := rv_Vs_c hvs
  obtain ⟨ad, e0, rfl, hat, he0⟩ := rv_ref_at hvb hw.1 hq
  obtain ⟨fsC, rfl, -⟩ := he0
  have hlA : As.length = d - 1 := by
    rw [← rv_Vs_len hvAs]
    have := hlen
    rw [List.length_cons] at this
    omega
  refine rv_call (va_runV (As := As) (rest := rest) ⟨hx, hb, hml, hown, hts⟩ hM ⟨callB_of (d - 1) hts (rv_gin hcw) rfl rfl rfl (hts _ hw4) (hts _ hw1) ⟨hnh.1, hnh.2, hnp⟩ hRR, hts _ hw2, hts _ hw3⟩ ⟨fun a U g mk q => by obtain ⟨q0, q1, qP, qK, qD⟩ := q; exact ⟨q0, q1, qP, qK.blind, qD⟩, va_recv hKK.1 hw.2.1 hclb hat, fun U hU hW => ⟨rfl, by rw [hU], by rw [hU]; exact hw.2.1, hKK.go hw.2.2.2.1 hfree hU hW, hw.2.2.1.weaken (fun _ _ _ _ => trivial)⟩⟩ rfl hlA hls (by show stk = _; rw [hstk, List.reverse_cons, List.append_assoc]; rfl) (lv_room hrest) hdec hroom) hw.2.2.2.1 (fun q _ h => hfree q h) hfree (fun o ho ws2 v H1 locs1 hrv hW2 hext hP1 hD1 hS1 => ?_)
  obtain ⟨ext, hext⟩ := hext
  obtain rfl := List.mem_singleton.mp ho
  exact kk o hq0 ws2 v H1 locs1 hrv ⟨hW2, hP1, hD1.weaken (fun _ _ _ h => hfree _ h), hS1, ws2.map Prod.fst, rfl⟩ (by rw [hext]; exact rv_pfx)
set_option maxHeartbeats 1000000 in
/-- a new object's making, out of the law -/
theorem lw_cI {p : Program} {l : Launch} {e : Env} {s : State} {m : MethodId} {below : List Frame} {meth : Method} {c : Code} {b : Nat} {xs : Nat → Int32} {ρ : rv_ρ} {D : va_G} {cA : Nat → ClassId} {L : Nat} (C0 : lw_At p s m meth c b L xs) (hKK : rv_KK ρ (lw_A s) D cA s) {k mi : Nat} {ts : List Nat} (hchk : rv_cip rv_inf rv_nest R_law k mi 1 1 ts = true) {h : List rv_C} {res : rv_R} {q : Nat} (hev : rv_ev rv_nw rv_ct rv_tab rv_no 30 mi [rv_ref q] h = some res) {ws : va_W} {H : Heap} {locs : List Loc} {ad : Nat} {rest : List Value} (hvs : rv_V ρ (ws.map Prod.fst) (rv_ref q) (.ref ad)) (hrest : (rest.map fun v => v.category).sum ≤ 8) {pc : Nat} {ls : Array Slot} (hls : ls.size = 4) (hdec : decode code pc = .ok (.invokespecial k, 3)) (hw : rv_Wd ρ D cA (lw_A s) s [] h ws H locs) {cells slots : Nat} (hroom : cells + res.1 ≤ 600000 ∧ slots + res.2.1 ≤ 7302250) {Q : State → Prop}
    (kk : ∀ o ∈ res.2.2, ∀ (ws2 : va_W) (v : Option Value) (H1 : Heap) (locs1 : List Loc), rv_rv ρ (ws2.map Prod.fst) o.1 v → rv_Wd ρ D cA (lw_A s) s [] o.2 ws2 H1 locs1 → (∀ (k q : Nat), (ws.map Prod.fst)[k]? = some q → (ws2.map Prod.fst)[k]? = some q) → W p l e room_1 s m #[Value.ref b] below meth c H1 locs1 (cells + res.1) (slots + res.2.1) Q (F0 m (pc + 3) ls (v.toList ++ rest))) : W p l e room_1 s m #[Value.ref b] below meth c H locs cells slots Q (F0 m pc ls (.ref ad :: rest)) := by
  have hts := lw_hts C0
  obtain ⟨hx, hb, hr, hml, hown, -, hX, hbl, hlocks, hgv⟩ := C0
  obtain ⟨hMt, ⟨⟨y2, bytes2, nL2, ret2⟩, hinf⟩⟩ := rv_ev_ok (l := l) (ρ := ρ) (orc := rv_no) (fun mi as v h => by cases h) 30 mi [rv_ref q] h res hev
  obtain ⟨hcw, hnL2⟩ := rv_hcode _ _ _ _ _ hinf
  obtain ⟨hw1, hw2, hw4, hnh, hnp, hd1, hyn⟩ := rv_cip_s hinf hchk
  have hret2 : ret2 = none := rv_hini _ _ _ _ _ hinf hyn
  subst hret2
  have hM := hMt y2 bytes2 nL2 none hinf D cA H.size ws [.ref ad] ⟨hvs, True.intro⟩ hw.1
  have hA : ∀ q, s.heap.size ≤ q → lw_A s q := fun _ h => h
  have hfree := rv_free hw.2.2.1 hw.2.2.2.1 hA
  have hRR : (rv_rm 30 res.1 res.2.1).frames + 1 ≤ room_1.frames ∧ 8 + (nL2 + 11) + (rv_rm 30 res.1 res.2.1).locals ≤ room_1.locals := ⟨Nat.le_of_ble_eq_true rfl, by show 8 + (nL2 + 11) + 60 * 30 ≤ 84000; omega⟩
  rcases hw1 with hw1 | hw1
  · refine rv_call (va_runI (As := []) (rest := rest) ⟨hx, hb, hml, hown, hts⟩ hM ⟨callB_of 0 hts (rv_gin hcw) rfl rfl rfl (hts _ hw4) (hts _ hw1) ⟨hnh.1, hnh.2, hnp⟩ hRR, hyn, hts _ hw2⟩ ⟨fun a U g mk q => by obtain ⟨q0, q1, qP, qK, qD⟩ := q; exact ⟨q0, q1, qP, qK.blind, qD⟩, fun U hU hW => ⟨rfl, by rw [hU], by rw [hU]; exact hw.2.1, hKK.go hw.2.2.2.1 hfree hU hW, hw.2.2.1.weaken (fun _ _ _ _ => trivial)⟩⟩ rfl rfl hls rfl (lv_room hrest) hdec hroom) hw.2.2.2.1 (fun q _ h => hfree q h) hfree (fun o ho ws2 v H1 locs1 hrv hW2 hext hP1 hD1 hS1 => ?_)
    obtain ⟨ext, hext⟩ := hext
    exact kk o ho ws2 v H1 locs1 hrv ⟨hW2, hP1, hD1.weaken (fun _ _ _ h => hfree _ h), hS1, ws2.map Prod.fst, rfl⟩ (by rw [hext]; exact rv_pfx)
  · simp [rv_nest, R_law] at hw1
