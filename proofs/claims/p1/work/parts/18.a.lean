theorem lw_no {l : Launch} {ρ : Nat → Int64} : ∀ mi as v, rv_no mi as = some v → ∀ d h, rv_Mt l ρ d mi as h (0, 0, [(some v, h)]) ∧ ∃ i, rv_inf[mi]? = some i := fun mi as v h => by cases h
theorem rv_isC_f {ρ : Nat → Int64} {L : List Nat} {v : rv_A} {w : Value} (h : rv_isC false v = true) (hv : rv_V ρ L v w) : ∃ z : Int32, v = .inl z ∧ w = .int z := by
  rcases v with z | q | z | q | q
  · exact ⟨z, rfl, hv⟩
  · cases h
  · cases h
  · cases h
  · cases h
theorem rv_isC_t {ρ : Nat → Int64} {L : List Nat} {v : rv_A} {w : Value} (h : rv_isC true v = true) (hv : rv_V ρ L v w) : ∃ z : Int64, v = .inr (.inr (.inl z)) ∧ w = .long z := by
  rcases v with z | q | z | q | q
  · cases h
  · cases h
  · exact ⟨z, rfl, hv⟩
  · cases h
  · cases h
theorem lw_arg {p : Program} {l : Launch} {e : Env} {s : State} {m : MethodId} {below : List Frame} {meth : Method} {c : Code} {b : Nat} {xs : Nat → Int32} {L : Nat} (C0 : lw_At p s m meth c b L xs) {j pc : Nat} (hj : j < L) (hL : L ≤ 6) (d1 : decode code pc = .ok (.aload_n 0, 1)) (d2 : decode code (pc + 1) = .ok (.iload_n 3, 1)) (d3 : decode code (pc + 1 + 1) = .ok (.iconst (j : Int), 1)) (d4 : decode code (pc + 1 + 1 + 1) = .ok (.iadd, 1)) (d5 : decode code (pc + 1 + 1 + 1 + 1) = .ok (.iaload, 1)) {ls : Array Slot} {lv : List (Nat × Value)} (hl : lv_has ls 4 lv) (h0 : ls[0]? = some (.val (.ref b))) (h3 : ls[3]? = some (.val (.int 0))) {H : Heap} {locs : List Loc} (hS : va_S (lw_A s) s.heap H locs) {cells slots : Nat} {Q : State → Prop} {rest : List Value} (kk : W p l e room_1 s m #[Value.ref b] below meth c H locs cells slots Q (F0 m (pc + 5) ls (.int (xs j) :: rest))) : W p l e room_1 s m #[Value.ref b] below meth c H locs cells slots Q (F0 m pc ls rest) := by
  obtain ⟨hx, hb, hr, hml, hown, -, hX, hbl, hlocks, hgv⟩ := C0
  have hbA : ¬ lw_A s b := Nat.not_le.mpr hbl
  refine lv_aload_n hx hb d1 rfl h0 ?_
  refine lv_iload_n hx hb d2 rfl h3 ?_
  refine lv_iconst (v := nI j) hx hb d3 (by rcases (show j = 0 ∨ j = 1 ∨ j = 2 ∨ j = 3 ∨ j = 4 ∨ j = 5 by omega) with rfl | rfl | rfl | rfl | rfl | rfl <;> rfl) ?_
  refine lv_iadd hx hb d4 ?_
  rw [show (0 : Int32) + nI j = nI j by simp]
  refine va_sld hx hb hX hbl hbA hS (vp_in_nI hj (by omega)) d5 ?_
  rw [nI_clamp (by omega)]
  exact kk
/-- behind the call: the loop ends, the answer is true -/
theorem lw_end {p : Program} {l : Launch} {e : Env} {s : State} {m : MethodId} {below : List Frame} {meth : Method} {c : Code} {b : Nat} {xs : Nat → Int32} (C0 : lw_At p s m meth c b 6 xs) {ls : Array Slot} {q0 q1 : Nat} (hl : lv_has ls 4 [(0, .ref b), (1, .ref q0), (2, .ref q1), (3, .int 0)]) {H : Heap} {locs : List Loc} (hS : va_S (lw_A s) s.heap H locs) {cells slots : Nat} (hc : cells ≤ 600000) (hs : slots ≤ 7302250) : W p l e room_1 s m #[Value.ref b] below meth c H locs cells slots (lw_Z below #[Value.ref b] s) (F0 m 1477 ls []) := by
  obtain ⟨hx, hb, hr, hml, hown, -, hX, hbl, hlocks, hgv⟩ := C0
  have hbA : ¬ lw_A s b := Nat.not_le.mpr hbl
  refine lv_iinc (v := 6) (lv' := [(3, .int 6), (0, .ref b), (1, .ref q0), (2, .ref q1)]) hx hb dL_law_1477 hl (k := 3) rfl (by decide) (by decide) rfl (fun ls hl => ?_)
  refine lv_goto (tgt := 18) hx hb dL_law_1480 (by decide) ?_
  refine lv_iload_n hx hb dL_law_18 rfl (lv_at hl 0 rfl) ?_
  refine lv_aload_n hx hb dL_law_19 rfl (lv_at hl 1 rfl) ?_
  refine va_slen hx hb hX hbl hbA hS dL_law_20 ?_
  refine lv_bipush (v := 6) hx hb dL_law_21 (by decide) ?_
  refine lv_isub hx hb dL_law_23 ?_
  refine lv_icmp_gt (tgt := 1483) hx hb dL_law_24 (by decide) (fun _ => ?_) (fun q => absurd (by decide) q)
  refine lv_iconst (v := 1) hx hb dL_law_1483 (by decide) ?_
  refine va_forget (fun q hq => hS.2.2 q hq) ?_
  refine W.widen hc hs ?_
  exact lw_ret hx hb hr hlocks dL_law_1484
theorem lw_ne0 {p : Program} {l : Launch} {e : Env} {R : Room} {s : State} {m : MethodId} {args : Array Value} {below : List Frame} {meth : Method} {c : Code} {H : Heap} {locs : List Loc} {cells slots : Nat} {Q : State → Prop} (hx : p.tables.exec = Jvm.exec) (hb : c.code = code) {pc : Nat} {off o2 : Int} {tgt tg2 : Nat} {ls : Array Slot} {rest : List Value} {x : Int32} (d1 : decode code pc = .ok (.ifCond .eq off, 3)) (ht : (pc : Int) + off = (tgt : Int)) (d2 : decode code (pc + 3) = .ok (.iconst 1, 1)) (d3 : decode code (pc + 3 + 1) = .ok (.goto o2, 3)) (ht2 : ((pc + 3 + 1 : Nat) : Int) + o2 = (tg2 : Int)) (d4 : decode code tgt = .ok (.iconst 0, 1)) (h4 : tgt + 1 = tg2) (kk : ∀ z : Int32, (0 ≤ z ∧ z ≤ 1) → W p l e R s m args below meth c H locs cells slots Q (F0 m tg2 ls (.int z :: rest))) : W p l e R s m args below meth c H locs cells slots Q (F0 m pc ls (.int x :: rest)) := by
  refine lv_if_eq (tgt := tgt) hx hb d1 ht (fun _ => ?_) (fun _ => ?_)
  · refine lv_iconst (v := 0) hx hb d4 (by decide) ?_
    rw [h4]
    exact kk 0 ⟨by decide, by decide⟩
  · refine lv_iconst (v := 1) hx hb d2 (by decide) ?_
    refine lv_goto (tgt := tg2) hx hb d3 ht2 ?_
    exact kk 1 ⟨by decide, by decide⟩
