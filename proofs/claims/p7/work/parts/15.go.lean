/-! RUNS OF ONE OUTCOME: from here on a method's code comes to an outcome that has a property -/
abbrev sx_K : Type := Nat → List rv_A → List rv_C → Option rv_R
theorem rv_run_cong {nw : Nat → List rv_A} {ct : Nat → Nat} {body : List rv_I} {nL rt : Nat} {c1 c2 : Nat → sx_K} : ∀ n, (∀ m, m < n → c1 m = c2 m) → rv_run c1 nw ct body nL rt n = rv_run c2 nw ct body nL rt n := by
  intro n
  induction n with
  | zero => intro _; rfl
  | succ n ih =>
    intro h
    show rv_step (c1 n) nw ct body nL rt (rv_run c1 nw ct body nL rt n) = rv_step (c2 n) nw ct body nL rt (rv_run c2 nw ct body nL rt n)
    rw [h n (Nat.lt_succ_self n), ih (fun m hm => h m (Nat.lt_succ_of_lt hm))]
def sx_hc (l : Launch) (ρ : rv_ρ) (d : Nat) (call : Nat → sx_K) : Prop := ∀ n mi as h res, call n mi as h = some res → rv_Mt l ρ d mi as h res ∧ ∃ i, rv_inf[mi]? = some i
set_option maxHeartbeats 1000000 in
theorem rv_body_ok {l : Launch} {ρ : rv_ρ} {d mi : Nat} {call : Nat → sx_K} (hcall : sx_hc l ρ d call) {as : List rv_A} {h : List rv_C} {res : rv_R} {body : List rv_I} {nL rt n : Nat} (htab : rv_tab[mi]? = some (body, nL, rt)) (hwd : rv_wd as ≤ nL) (hh : rv_run call rv_nw rv_ct body nL rt n body (rv_loc as 0) [] h 0 0 = some res) : rv_Mt l ρ (d + 1) mi as h res ∧ ∃ i, rv_inf[mi]? = some i := by
  have hmi : mi < rv_inf.length := by rw [rv_infl, ← rv_tabl]; exact (List.getElem?_eq_some_iff.mp htab).1
  refine ⟨?_, _, List.getElem?_eq_getElem hmi⟩
  intro y bytes nL2 ret hinf D cA sz ws vs hvs hws
  obtain ⟨e1, f2, f3, f4, f5, f6, f7, f8, f9⟩ := rv_fct hinf htab
  subst e1
  refine rv_ofW (cc := bytes) (maxL := nL2) (ret := ret) f3 rfl ?_
  intro p e s m args below meth c s₁ B hml hv
  obtain ⟨rfl, hsz, hP, hKK, hD0⟩ := hv
  subst hsz
  have hts := atoms_spec (ws := rv_ws y bytes nL2 ret) B.pre
  have hD := hD0.self (sz := s.heap.size)
  cases hbd : body with
  | nil => rw [hbd] at hh; exact (rv_run_nil hh).elim
  | cons e0 t0 =>
    have h0 := f6 e0 t0 hbd
    have hG := rv_run_ok (p := p) (l := l) (e := e) (R := (headSpec (rv_ws y bytes nL2 ret) (rv_rm (d + 1) res.1 res.2.1)).room) (s := s) (m := m) (args := vs.toArray) (below := below) (meth := meth) (c := c) (ρ := ρ) (D := D) (cA := cA) (A := va_A ws s.heap.size) (L0 := ws.map Prod.fst) hcall rv_hcode rv_cf rv_hini (y := y) (bytes := bytes) (nL := nL2) (rt := rt) (ret := ret) (body := body) ⟨B.exec, B.bytes, hml, findClass_of_methodNamed B.named, fun w hw => hts w (List.mem_cons_of_mem _ hw), B.returns, B.notSynchronized, fun hy => by rw [(name_of_methodNamed B.named B.method).1]; exact hy, hKK, fun q hq => Or.inr hq⟩ f2 f9 f8 f5 ⟨rfl, rfl⟩ n body (rv_loc as 0) [] h 0 0 res hh ⟨[], rfl⟩ e0 t0 hbd
    have hl := lv_entry vs (n := nL2) (by rw [rv_slen hvs]; exact hwd)
    rw [lg_entry_eq]
    rw [h0] at hG
    exact hG.2 res rv_sub.rf rfl rfl _ _ [] ws s.heap [] hl (rv_loc_ok 0 hvs) True.intro ⟨hws, hP, hD, va_S.rf, [], (List.append_nil _).symm⟩
/-- a method at these arguments comes to one outcome, which has a property -/
def sx_Ct (l : Launch) (ρ : rv_ρ) (d mi : Nat) (as : List rv_A) (h : List rv_C) (Q : rv_O → Prop) : Prop := ∃ o, (rv_Mt l ρ d mi as h (0, 0, [o]) ∧ ∃ i, rv_inf[mi]? = some i) ∧ Q o
/-- from here on the code comes to an outcome that has a property -/
def sx_G (l : Launch) (ρ : rv_ρ) (d : Nat) (body : List rv_I) (nL rt : Nat) (code : List rv_I) (ls : rv_L) (st : List rv_A) (h : List rv_C) (Q : rv_O → Prop) : Prop := ∃ (n : Nat) (call : Nat → sx_K) (o : rv_O), sx_hc l ρ d call ∧ rv_run call rv_nw rv_ct body nL rt n code ls st h 0 0 = some (0, 0, [o]) ∧ Q o
section SXG
variable {l : Launch} {ρ : rv_ρ} {d : Nat} {body : List rv_I} {nL rt : Nat} {code code' : List rv_I} {ls ls' : rv_L} {st st' : List rv_A} {h h' : List rv_C} {Q : rv_O → Prop}
theorem sx_ct {mi : Nat} {as : List rv_A} (htab : rv_tab[mi]? = some (body, nL, rt)) (hwd : rv_wd as ≤ nL) (g : sx_G l ρ d body nL rt body (rv_loc as 0) [] h Q) : sx_Ct l ρ (d + 1) mi as h Q := by
  obtain ⟨n, call, o, hc, hr, hq⟩ := g
  exact ⟨o, rv_body_ok hc htab hwd hr, hq⟩
theorem sx_G_of (hs : ∀ (cl : sx_K) (ih : rv_K), rv_step cl rv_nw rv_ct body nL rt ih code ls st h 0 0 = ih code' ls' st' h' 0 0) (g : sx_G l ρ d body nL rt code' ls' st' h' Q) : sx_G l ρ d body nL rt code ls st h Q := by
  obtain ⟨n, call, o, hc, hr, hq⟩ := g
  refine ⟨n + 1, call, o, hc, ?_, hq⟩
  show rv_step (call n) rv_nw rv_ct body nL rt (rv_run call rv_nw rv_ct body nL rt n) code ls st h 0 0 = _
  rw [hs]
  exact hr
theorem sx_G_ret {o : rv_O} (hs : ∀ (cl : sx_K) (ih : rv_K), rv_step cl rv_nw rv_ct body nL rt ih code ls st h 0 0 = some (0, 0, [o])) (hq : Q o) : sx_G l ρ d body nL rt code ls st h Q := by
  refine ⟨1, fun _ _ _ _ => none, o, fun _ _ _ _ _ hh => (by cases hh), ?_, hq⟩
  exact hs _ _
theorem sx_G_mono {Q' : rv_O → Prop} (hq : ∀ o, Q o → Q' o) (g : sx_G l ρ d body nL rt code ls st h Q) : sx_G l ρ d body nL rt code ls st h Q' := by
  obtain ⟨n, call, o, hc, hr, hq1⟩ := g
  exact ⟨n, call, o, hc, hr, hq o hq1⟩
theorem sx_Ct_mono {mi : Nat} {as : List rv_A} {Q' : rv_O → Prop} (hq : ∀ o, Q o → Q' o) (g : sx_Ct l ρ d mi as h Q) : sx_Ct l ρ d mi as h Q' := by
  obtain ⟨o, h1, h2⟩ := g
  exact ⟨o, h1, hq o h2⟩
theorem rv_args_r (as : List rv_A) : ∀ (acc r : List rv_A) (k : List rv_A → List rv_A → Option rv_R), rv_args as.length acc (as.reverse ++ r) k = k (as ++ acc) r := by
  suffices H : ∀ (bs acc r : List rv_A) (k : List rv_A → List rv_A → Option rv_R), rv_args bs.length acc (bs ++ r) k = k (bs.reverse ++ acc) r by
    intro acc r k
    have := H as.reverse acc r k
    rw [List.length_reverse, List.reverse_reverse] at this
    exact this
  intro bs
  induction bs with
  | nil => intro acc r k; rfl
  | cons b t ih =>
    intro acc r k
    show rv_args t.length (b :: acc) (t ++ r) k = _
    rw [ih, List.reverse_cons, List.append_assoc]
    rfl
/-- a call -/
theorem sx_G_inv {mi d0 : Nat} {as r : List rv_A} {okr : List rv_A → Bool} {Qc : rv_O → Prop} {rest : List rv_I} (hs : ∀ (cl : sx_K) (ih : rv_K), rv_step cl rv_nw rv_ct body nL rt ih code ls st h 0 0 = rv_inv cl okr mi d0 h st 0 0 (fun r h' ce' sl' => ih rest ls r h' ce' sl')) (hst : st = as.reverse ++ r) (hlen : as.length = d0) (hwd : rv_wd r ≤ 8) (hok : okr as = true) (c : sx_Ct l ρ d mi as h Qc) (kk : ∀ o, Qc o → sx_G l ρ d body nL rt rest ls (o.1.toList ++ r) o.2 Q) : sx_G l ρ d body nL rt code ls st h Q := by
  obtain ⟨o, hM, hQ⟩ := c
  obtain ⟨n, call, o2, hc, hr, hq⟩ := kk o hQ
  have hdec : ∀ (q : Nat × List rv_A × List rv_C), Decidable (q = (mi, as, h)) := fun q => Classical.propDecidable _
  refine ⟨n + 1, fun m => if m = n then (fun mi' as' h' => @ite _ ((mi', as', h') = (mi, as, h)) (hdec _) (some (0, 0, [o])) none) else call m, o2, ?_, ?_, hq⟩
  · intro m mi' as' h' res hh
    dsimp only at hh
    by_cases hm : m = n
    · rw [if_pos hm] at hh
      by_cases hq2 : (mi', as', h') = (mi, as, h)
      · rw [if_pos hq2] at hh
        cases hq2
        cases hh
        exact hM
      · rw [if_neg hq2] at hh
        cases hh
    · rw [if_neg hm] at hh
      exact hc m mi' as' h' res hh
  · have hcg := rv_run_cong (nw := rv_nw) (ct := rv_ct) (body := body) (nL := nL) (rt := rt) (c1 := fun m => if m = n then (fun mi' as' h' => @ite _ ((mi', as', h') = (mi, as, h)) (hdec _) (some (0, 0, [o])) none) else call m) (c2 := call) n (fun m hm => if_neg (Nat.ne_of_lt hm))
    show rv_step _ rv_nw rv_ct body nL rt (rv_run _ rv_nw rv_ct body nL rt n) code ls st h 0 0 = _
    rw [hcg, hs, hst]
    unfold rv_inv
    rw [← hlen, rv_args_r, List.append_nil, if_pos ⟨hwd, hok⟩]
    have e : (fun m => if m = n then (fun mi' as' h' => @ite _ ((mi', as', h') = (mi, as, h)) (hdec _) (some (0, 0, [o])) none) else call m) n mi as h = some (0, 0, [o]) := by
      show (if n = n then (fun mi' as' h' => @ite _ ((mi', as', h') = (mi, as, h)) (hdec _) (some (0, 0, [o])) none) else call n) mi as h = some (0, 0, [o])
      rw [if_pos rfl]
      exact if_pos rfl
    rw [e]
    show rv_fN (0 + 0) (fun ce' => rv_fN (0 + 0) (fun sl' => rv_all [o] (fun o => rv_run call rv_nw rv_ct body nL rt n rest ls (o.1.toList ++ r) o.2 ce' sl'))) = some (0, 0, [o2])
    rw [rv_fN_eq, rv_fN_eq]
    exact hr
end SXG
