/-! both sides at once, on the fresh pair -/
noncomputable def rv_e (orc : Nat → List rv_A → Option rv_A) (mi : Nat) (as : List rv_A) (h : List rv_C) : Option rv_R := rv_ev rv_nw rv_ct rv_tab orc 30 mi as h
def rv_no : Nat → List rv_A → Option rv_A := fun _ _ => none
/-- a number: an int (or, if lg, a long) -/
def rv_isC (lg : Bool) (v : rv_A) : Bool := match v with
  | .inl _ => !lg
  | .inr (.inr (.inl _)) => lg
  | _ => false
noncomputable def rv_b2 (lg : Bool) (orc : Nat → List rv_A → Option rv_A) (mi : Nat) (as : List rv_A) (o : rv_O) : Bool := match o.1 with
  | some v => rv_isC lg v && rv_rcv 12 o.2 (rv_ref 100 :: as) && (match rv_e orc mi (rv_ref 100 :: as) o.2 with
    | some (mc, ms, os) => mc.beq 0 && ms.beq 0 && os.all (fun o2 => match o2.1 with
      | some v2 => rv_eqA v v2
      | none => false)
    | none => false)
  | none => false
noncomputable def rv_bth (lg : Bool) (orc : Nat → List rv_A → Option rv_A) (xi mi : Nat) (as : List rv_A) : Bool := match rv_e orc xi (rv_ref 0 :: as) rh_2 with
  | some (mc, ms, os) => mc.beq 0 && ms.beq 0 && os.all (rv_b2 lg orc mi as)
  | none => false
theorem rv_b2_s {lg : Bool} {orc : Nat → List rv_A → Option rv_A} {mi : Nat} {as : List rv_A} {o : rv_O} (h : rv_b2 lg orc mi as o = true) : ∃ v os, o.1 = some v ∧ rv_isC lg v = true ∧ rv_rcv 12 o.2 (rv_ref 100 :: as) = true ∧ rv_e orc mi (rv_ref 100 :: as) o.2 = some (0, 0, os) ∧ ∀ o2 ∈ os, o2.1 = some v := by
  unfold rv_b2 at h
  split at h
  · rename_i v hv
    simp only [Bool.and_eq_true] at h
    obtain ⟨⟨h1, h1b⟩, h2⟩ := h
    split at h2
    · rename_i mc ms os he
      simp only [Bool.and_eq_true] at h2
      obtain ⟨⟨e1, e2⟩, e3⟩ := h2
      have e1 := Nat.eq_of_beq_eq_true e1
      have e2 := Nat.eq_of_beq_eq_true e2
      subst e1 e2
      refine ⟨v, os, hv, h1, h1b, he, fun o2 ho2 => ?_⟩
      have h4 := List.all_eq_true.mp e3 o2 ho2
      split at h4
      · rename_i v2 hv2
        rw [hv2, rv_eqA_s h4]
      · cases h4
    · cases h2
  · cases h
theorem rv_bth_s {lg : Bool} {orc : Nat → List rv_A → Option rv_A} {xi mi : Nat} {as : List rv_A} (h : rv_bth lg orc xi mi as = true) : ∃ os, rv_e orc xi (rv_ref 0 :: as) rh_2 = some (0, 0, os) ∧ ∀ o ∈ os, rv_b2 lg orc mi as o = true := by
  unfold rv_bth at h
  split at h
  · rename_i mc ms os he
    simp only [Bool.and_eq_true] at h
    obtain ⟨⟨e1, e2⟩, e3⟩ := h
    have e1 := Nat.eq_of_beq_eq_true e1
    have e2 := Nat.eq_of_beq_eq_true e2
    subst e1 e2
    exact ⟨os, he, List.all_eq_true.mp e3⟩
  · cases h
-- every int lies in one of a row of stretches
def rv_mk (q : Int32 × Int32) : rv_A := if q.1 = q.2 then .inl q.1 else .inr (.inl q)
def rv_cov (st : Int) (l : List (Int32 × Int32)) : Bool := match l with
  | [] => decide (st = 2147483648)
  | q :: t => decide (q.1.toInt = st) && decide (q.1 ≤ q.2) && rv_cov (q.2.toInt + 1) t
theorem rv_cov_s : ∀ {l : List (Int32 × Int32)} {st : Int}, rv_cov st l = true → ∀ x : Int32, st ≤ x.toInt → ∃ q ∈ l, q.1 ≤ x ∧ x ≤ q.2 := by
  intro l
  induction l with
  | nil =>
    intro st h x hx
    have h1 : st = 2147483648 := of_decide_eq_true h
    have := x.toInt_lt
    omega
  | cons q t ih =>
    intro st h x hx
    have h : (decide (q.1.toInt = st) && decide (q.1 ≤ q.2) && rv_cov (q.2.toInt + 1) t) = true := h
    simp only [Bool.and_eq_true] at h
    have h1 := of_decide_eq_true h.1.1
    by_cases hq : x ≤ q.2
    · exact ⟨q, List.mem_cons_self, by rw [Int32.le_iff_toInt_le, h1]; exact hx, hq⟩
    · rw [Int32.le_iff_toInt_le] at hq
      obtain ⟨q2, h2, h3⟩ := ih h.2 x (by omega)
      exact ⟨q2, List.mem_cons_of_mem _ h2, h3⟩
theorem rv_mk_s {ρ : Nat → Int64} {L : List Nat} {q : Int32 × Int32} {x : Int32} (h1 : q.1 ≤ x) (h2 : x ≤ q.2) : rv_V ρ L (rv_mk q) (.int x) := by
  unfold rv_mk
  split
  · rename_i e
    show Value.int x = .int q.1
    rw [Int32.le_antisymm h1 (by rw [e]; exact h2)]
  · exact ⟨x, rfl, h1, h2⟩
def rv_prod (ps : List (List (Int32 × Int32))) : List (List rv_A) := match ps with
  | [] => [[]]
  | p :: t => p.flatMap (fun q => (rv_prod t).map (fun r => rv_mk q :: r))
theorem rv_prod_s {ρ : Nat → Int64} {L : List Nat} : ∀ {ps : List (List (Int32 × Int32))} {xs : List Int32}, (∀ p ∈ ps, rv_cov (-2147483648) p = true) → xs.length = ps.length → ∃ as ∈ rv_prod ps, rv_Vs ρ L as (xs.map Value.int) := by
  intro ps
  induction ps with
  | nil =>
    intro xs _ hl
    cases xs with
    | nil => exact ⟨[], List.mem_cons_self, True.intro⟩
    | cons x t => cases hl
  | cons p t ih =>
    intro xs hp hl
    cases xs with
    | nil => cases hl
    | cons x xt =>
      obtain ⟨as, h1, h2⟩ := ih (xs := xt) (fun q hq => hp q (List.mem_cons_of_mem _ hq)) (by simpa using hl)
      obtain ⟨q, h3, h4, h5⟩ := rv_cov_s (hp p List.mem_cons_self) x x.le_toInt
      exact ⟨rv_mk q :: as, List.mem_flatMap.mpr ⟨q, h3, List.mem_map.mpr ⟨as, h1, rfl⟩⟩, rv_mk_s h4 h5, h2⟩
theorem rt_1 : rv_e rv_no 74 [rv_ref 0] [.inl (11, rv_nw 11)] = some (99, 21960, [(none, rh_1)]) := rv_eqR_s (by decide +kernel)
theorem rt_2 : rv_e rv_no 131 [rv_ref 100] (rh_1 ++ [.inl (12, rv_nw 12)]) = some (42, 30714, [(none, rh_2)]) := rv_eqR_s (by decide +kernel)
