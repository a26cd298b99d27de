/-! THE LAW'S CALLS by contract -/
noncomputable def lw_av (as : List rv_A) (i : Nat) : Int := match rv_nth as i with
  | some (.inl x) => x.toInt
  | some (.inr (.inr (.inl x))) => x.toInt
  | _ => 0
noncomputable def lw_okc (c : sx_Cn) : Bool := sx_wfc c && Nat.ble c.2.1 60 && c.2.2.2.1.all (fun f => decide (f = (-1, [(18461, -1)]))) && c.2.2.2.2.all (fun g => decide (sx_hg g.2.2.1 18461 = (0, [(18461, 1)])) || decide (sx_hg g.2.2.1 18461 = (-1, [])))
theorem lw_av_r (as : List rv_A) (i : Nat) : -9223372036854775808 ≤ lw_av as i ∧ lw_av as i ≤ 9223372036854775807 := by
  unfold lw_av
  split
  · rename_i x _
    have := sx_r32 x
    omega
  · rename_i x _
    have := sx_r64 x
    omega
  · omega
theorem lw_H {σ τ : Nat → Int} {hp : sx_Hp} {n : Nat} {h : List rv_C} (hH : sx_H n σ hp h) (he : ∀ c, c < 19000 → τ c = sx_d σ (sx_hg hp c)) : sx_H 20000 τ [] h := by
  have hs : ∀ c, c < 19000 → sx_d τ (sx_hg [] c) = sx_d σ (sx_hg hp c) := fun c hc => by
    show sx_d τ (sx_s c) = _
    rw [sx_d_s, he c hc]
  refine ⟨hH.1, fun q hq => (by cases hq), fun kk j y ht hy => ?_, fun s2 hs2 => ?_, sx_GG_cg (fun c h1 h2 => (hs c h2).symm) hH.2.2.2.2⟩
  · have hl := sx_fv_lt hH.1 hy
    rw [hs _ (by omega)]
    exact hH.2.2.1 kk j y ht hy
  · rw [hs s2 hs2]
    exact hH.2.2.2.1 s2 hs2
/-- what a call leaves behind: the numbers ahead of it and behind it -/
def lw_W (g : sx_Gr) (as : List rv_A) (σ σ' τ : Nat → Int) (o : rv_O) : Prop := (∀ s, s < 19000 → τ s = σ s) ∧ (∀ s, 19000 ≤ s → s < 20000 → τ s = lw_av as (s - 19000)) ∧ (∀ f ∈ g.2.1, 0 ≤ sx_d τ f) ∧ sx_rm τ g.2.2.2 o.1 ∧ (∀ s, s < 19000 → σ' s = sx_d τ (sx_hg g.2.2.1 s)) ∧ ∀ (i : Nat) q, g.1[i]? = some q → q.2.1 ≤ τ (1000000 + i) ∧ τ (1000000 + i) ≤ q.2.2
def lw_Qc (c : sx_Cn) (as : List rv_A) (σ σ' : Nat → Int) (o : rv_O) : Prop := ∃ g ∈ c.2.2.2.2, ∃ τ : Nat → Int, lw_W g as σ σ' τ o
theorem lw_use {l : Launch} {ρ : rv_ρ} {mi : Nat} {c : sx_Cn} {as : List rv_A} {h : List rv_C} {σ : Nat → Int} (hJ : lw_Js σ h) (hc : sx_CtOK l ρ mi c) (hok : lw_okc c = true) (ham : ∀ σ : Nat → Int, (∀ s, 19000 ≤ s → s < 20000 → σ s = lw_av as (s - 19000)) → sx_am σ 0 c.2.2.1 as) : sx_Ct l ρ 60 mi as h (fun o => ∃ σ' : Nat → Int, lw_Qc c as σ σ' o ∧ lw_Js σ' o.2) := by
  obtain ⟨hH, hsr, hD⟩ := hJ
  unfold lw_okc at hok
  simp only [Bool.and_eq_true] at hok
  obtain ⟨⟨⟨h1, h2⟩, h3⟩, h4⟩ := hok
  have hlo : ∀ s, s < 19000 → (if 19000 ≤ s ∧ s < 20000 then lw_av as (s - 19000) else σ s) = σ s := fun s hs => if_neg (fun z => by omega)
  have hhi : ∀ s, 19000 ≤ s → s < 20000 → (if 19000 ≤ s ∧ s < 20000 then lw_av as (s - 19000) else σ s) = lw_av as (s - 19000) := fun s a b => if_pos ⟨a, b⟩
  refine sx_Ct_mono (fun o ho => ?_) (hc 60 (Nat.le_of_ble_eq_true h2) as h (fun s => if 19000 ≤ s ∧ s < 20000 then lw_av as (s - 19000) else σ s) (ham _ hhi) (fun s => ?_) (lw_H hH (fun c hc => ?_)) (fun f hf => ?_))
  · obtain ⟨g, hg, τ, t1, t2, t3, t4, t5⟩ := ho
    refine ⟨fun s => if s < 19000 then sx_d τ (sx_hg g.2.2.1 s) else 0, ⟨g, hg, τ, fun s hs => ?_, fun s a b => ?_, t3, t5, fun s hs => if_pos hs, t2⟩, lw_H t4 (fun c hc => if_pos hc), fun s => ?_, ?_⟩
    · rw [← t1 s (by omega)]
      exact hlo s hs
    · rw [← t1 s b]
      exact hhi s a b
    · by_cases hs : s < 19000
      · show (sx_sr s).1 ≤ (if s < 19000 then _ else _) ∧ (if s < 19000 then _ else _) ≤ (sx_sr s).2
        rw [if_pos hs]
        exact t4.2.2.2.1 s hs
      · show (sx_sr s).1 ≤ (if s < 19000 then _ else _) ∧ (if s < 19000 then _ else _) ≤ (sx_sr s).2
        rw [if_neg hs]
        have e1 : sx_sr s = (-9223372036854775808, 9223372036854775807) := by
          unfold sx_sr
          rw [sx_blt_f (show 19000 ≤ s by omega)]
        rw [e1]
        exact ⟨by decide, by decide⟩
    · show (if 18461 < 19000 then sx_d τ (sx_hg g.2.2.1 18461) else 0) = -1
      rw [if_pos (by decide)]
      have h5 := List.all_eq_true.mp h4 g hg
      rw [Bool.or_eq_true] at h5
      rcases h5 with h5 | h5
      · rw [of_decide_eq_true h5]
        show sx_d τ (sx_s 18461) = -1
        rw [sx_d_s, ← t1 18461 (by decide)]
        show (if 19000 ≤ 18461 ∧ 18461 < 20000 then _ else σ 18461) = -1
        rw [if_neg (by decide)]
        exact hD
      · rw [of_decide_eq_true h5]
        simp [sx_d, sx_dl]
  · by_cases hs : 19000 ≤ s ∧ s < 20000
    · show (sx_sr s).1 ≤ (if 19000 ≤ s ∧ s < 20000 then _ else _) ∧ (if 19000 ≤ s ∧ s < 20000 then _ else _) ≤ (sx_sr s).2
      rw [if_pos hs]
      have e1 : sx_sr s = (-9223372036854775808, 9223372036854775807) := by
        unfold sx_sr
        rw [sx_blt_f hs.1]
      rw [e1]
      exact lw_av_r _ _
    · show (sx_sr s).1 ≤ (if 19000 ≤ s ∧ s < 20000 then _ else _) ∧ (if 19000 ≤ s ∧ s < 20000 then _ else _) ≤ (sx_sr s).2
      rw [if_neg hs]
      exact hsr s
  · show (if 19000 ≤ c ∧ c < 20000 then _ else σ c) = sx_d σ (sx_s c)
    rw [sx_d_s]
    exact hlo c hc
  · have h5 := List.all_eq_true.mp h3 f hf
    rw [of_decide_eq_true h5]
    show 0 ≤ -1 + (-1 * (if 19000 ≤ 18461 ∧ 18461 < 20000 then _ else σ 18461) + 0)
    rw [if_neg (by decide), hD]
    decide
/-- nothing that both sides have alike is changed -/
noncomputable def lw_kpo (c : sx_Cn) : Bool := c.2.2.2.2.all (fun g => lw_RC.all (fun s => Nat.blt s 19000 && decide (sx_hg g.2.2.1 s = (0, [(s, 1)]))))
theorem lw_kp {c : sx_Cn} {as : List rv_A} {σ σ' : Nat → Int} {o : rv_O} (hk : lw_kpo c = true) (h : lw_Qc c as σ σ' o) : ∀ s ∈ lw_RC, σ' s = σ s := by
  obtain ⟨g, hg, τ, hs, -, -, -, hm, -⟩ := h
  intro s hs2
  have h1 := List.all_eq_true.mp (List.all_eq_true.mp hk g hg) s hs2
  rw [Bool.and_eq_true] at h1
  have h3 := sx_blt h1.1
  rw [hm s h3, of_decide_eq_true h1.2]
  show sx_d τ (sx_s s) = σ s
  rw [sx_d_s]
  exact hs s h3
theorem lw_stay {c1 c2 : sx_Cn} {as1 as2 : List rv_A} {σ σ1 σ2 : Nat → Int} {o1 o2 : rv_O} (k1 : lw_kpo c1 = true) (k2 : lw_kpo c2 = true) (h1 : lw_Qc c1 as1 σ σ1 o1) (h2 : lw_Qc c2 as2 σ1 σ2 o2) (hR : lw_R σ) : lw_R σ2 := lw_R_cg (fun s hs => (lw_kp k2 h2 s hs).trans (lw_kp k1 h1 s hs)) hR
noncomputable def lw_ri (lg : Bool) (c : sx_Cn) : Bool := c.2.2.2.2.all (fun g => match g.2.2.2 with
  | some (q, _) => q == lg
  | none => false)
theorem lw_ri_f {c : sx_Cn} {as : List rv_A} {o : rv_O} (hr : lw_ri false c = true) {σ σ' : Nat → Int} (h : lw_Qc c as σ σ' o) : ∃ x : Int32, o.1 = some (.inl x) := by
  obtain ⟨g, hg, τ, -, -, -, h1, -, -⟩ := h
  have h2 := List.all_eq_true.mp hr g hg
  revert h1 h2
  match g.2.2.2, o.1 with
  | none, _ => intro h1 h2; cases h2
  | some (true, f), _ => intro h1 h2; cases h2
  | some (false, f), none => intro h1 h2; cases h1
  | some (false, f), some a => intro h1 h2; obtain ⟨x, hx, -⟩ := h1; exact ⟨x, by rw [hx]⟩
theorem lw_ri_t {c : sx_Cn} {as : List rv_A} {o : rv_O} (hr : lw_ri true c = true) {σ σ' : Nat → Int} (h : lw_Qc c as σ σ' o) : ∃ x : Int64, o.1 = some (rv_lng x) := by
  obtain ⟨g, hg, τ, -, -, -, h1, -, -⟩ := h
  have h2 := List.all_eq_true.mp hr g hg
  revert h1 h2
  match g.2.2.2, o.1 with
  | none, _ => intro h1 h2; cases h2
  | some (false, f), _ => intro h1 h2; cases h2
  | some (true, f), none => intro h1 h2; cases h1
  | some (true, f), some a => intro h1 h2; obtain ⟨x, hx, -⟩ := h1; exact ⟨x, by rw [hx]⟩
theorem lw_rcv {h : List rv_C} {σ : Nat → Int} (hJ : lw_Js σ h) {q ci : Nat} (hq : q < 143) (hc : (sx_cell.get q).1 = ci) (hci : ci < 100) {as : List rv_A} : rv_rcv ci h (rv_ref q :: as) = true := by
  obtain ⟨hH, -⟩ := hJ
  obtain ⟨c, h1, -, h3⟩ := sx_I_at hH.1 hq
  show (match rv_hn h q with
    | some (.inl (cj, _)) => cj.beq ci
    | _ => false) = true
  rw [rv_hn_eq, h1]
  rcases c with ⟨cj, fs⟩ | ⟨t, n, d, ups⟩
  · obtain ⟨k1, -⟩ := h3
    show cj.beq ci = true
    rw [← k1, hc]
    exact Nat.beq_refl ci
  · obtain ⟨k1, -⟩ := h3
    omega
theorem lw_arg {p : Program} {l : Launch} {e : Env} {s : State} {m : MethodId} {below : List Frame} {meth : Method} {c : Code} {b : Nat} {xs : Nat → Int32} {L : Nat} (C0 : lw_At p s m meth c b L xs) {i j pc : Nat} (hj : i + j < L) (hL : L ≤ 3072) (h6 : j < 6) (d1 : decode code pc = .ok (.aload_n 0, 1)) (d2 : decode code (pc + 1) = .ok (.iload_n 3, 1)) (d3 : decode code (pc + 1 + 1) = .ok (.iconst (j : Int), 1)) (d4 : decode code (pc + 1 + 1 + 1) = .ok (.iadd, 1)) (d5 : decode code (pc + 1 + 1 + 1 + 1) = .ok (.iaload, 1)) {ls : Array Slot} (h0 : ls[0]? = some (.val (.ref b))) (h3 : ls[3]? = some (.val (.int (nI i)))) {H : Heap} {locs : List Loc} (hS : va_S (lw_A s) s.heap H locs) {cells slots : Nat} {Q : State → Prop} {rest : List Value} (kk : W p l e room_1 s m #[Value.ref b] below meth c H locs cells slots Q (F0 m (pc + 5) ls (.int (xs (i + j)) :: rest))) : W p l e room_1 s m #[Value.ref b] below meth c H locs cells slots Q (F0 m pc ls rest) := by
  obtain ⟨hx, hb, hr, hml, hown, -, hX, hbl, hlocks, hgv⟩ := C0
  have hbA : ¬ lw_A s b := Nat.not_le.mpr hbl
  refine lv_aload_n hx hb d1 rfl h0 ?_
  refine lv_iload_n hx hb d2 rfl h3 ?_
  refine lv_iconst (v := nI j) hx hb d3 (by rcases (show j = 0 ∨ j = 1 ∨ j = 2 ∨ j = 3 ∨ j = 4 ∨ j = 5 by omega) with rfl | rfl | rfl | rfl | rfl | rfl <;> rfl) ?_
  refine lv_iadd hx hb d4 ?_
  rw [nI_add]
  refine va_sld hx hb hX hbl hbA hS (vp_in_nI hj (by omega)) d5 ?_
  rw [nI_clamp (by omega)]
  exact kk
theorem lw_ne0 {p : Program} {l : Launch} {e : Env} {R : Room} {s : State} {m : MethodId} {args : Array Value} {below : List Frame} {meth : Method} {c : Code} {H : Heap} {locs : List Loc} {cells slots : Nat} {Q : State → Prop} (hx : p.tables.exec = Jvm.exec) (hb : c.code = code) {pc : Nat} {off o2 : Int} {tgt tg2 : Nat} {ls : Array Slot} {rest : List Value} {x : Int32} (d1 : decode code pc = .ok (.ifCond .eq off, 3)) (ht : (pc : Int) + off = (tgt : Int)) (d2 : decode code (pc + 3) = .ok (.iconst 1, 1)) (d3 : decode code (pc + 3 + 1) = .ok (.goto o2, 3)) (ht2 : ((pc + 3 + 1 : Nat) : Int) + o2 = (tg2 : Int)) (d4 : decode code tgt = .ok (.iconst 0, 1)) (h4 : tgt + 1 = tg2) (kk : ∀ z : Int32, (0 ≤ z.toInt ∧ z.toInt ≤ 1) → W p l e R s m args below meth c H locs cells slots Q (F0 m tg2 ls (.int z :: rest))) : W p l e R s m args below meth c H locs cells slots Q (F0 m pc ls (.int x :: rest)) := by
  refine lv_if_eq (tgt := tgt) hx hb d1 ht (fun _ => ?_) (fun _ => ?_)
  · refine lv_iconst (v := 0) hx hb d4 (by decide) ?_
    rw [h4]
    exact kk 0 ⟨by decide, by decide⟩
  · refine lv_iconst (v := 1) hx hb d2 (by decide) ?_
    refine lv_goto (tgt := tg2) hx hb d3 ht2 ?_
    exact kk 1 ⟨by decide, by decide⟩
