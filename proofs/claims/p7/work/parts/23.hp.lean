/-! THE HEAP'S WORDS, forward -/
theorem rv_eqA_r (a : rv_A) : rv_eqA a a = true := by
  rcases a with x | ⟨x, y⟩ | x | n | q
  · simp [rv_eqA]
  · simp [rv_eqA]
  · simp [rv_eqA]
  · show n.beq n = true
    exact Nat.beq_refl n
  · cases q with
    | none => rfl
    | some n => exact Nat.beq_refl n
theorem rv_cell_f {h : List rv_C} {q : Nat} {c : rv_C} {k : Nat → rv_C → Option rv_R} (hq : rv_hget h q = some c) : rv_cell h (rv_ref q) k = k q c := by
  show (match rv_hn h q with
    | some c => k q c
    | none => none) = _
  rw [rv_hn_eq, hq]
theorem rv_gf_f {a b q : Nat} {h : List rv_C} {fs r : List rv_A} {v : rv_A} {k : List rv_A → Option rv_R} (hq : rv_hget h q = some (.inl (a, fs))) (hv : fs[b]? = some v) : rv_gf a b h (rv_ref q :: r) k = k (v :: r) := by
  show rv_cell h (rv_ref q) (fun _ c => match c with
    | .inl (cj, fs) => if cj = a then (match rv_nth fs b with
      | some v => k (v :: r)
      | none => none) else none
    | _ => none) = _
  rw [rv_cell_f hq]
  show (if a = a then (match rv_nth fs b with
      | some v => k (v :: r)
      | none => none) else none) = _
  rw [if_pos rfl, rv_nth_eq, hv]
theorem rv_pf_f {a b t q : Nat} {h : List rv_C} {fs r : List rv_A} {v : rv_A} {k : List rv_C → List rv_A → Option rv_R} (hq : rv_hget h q = some (.inl (a, fs))) (hb : b < fs.length) (hf : rv_fit t v = true) : rv_pf a b t h (v :: rv_ref q :: r) k = k (h.set q (.inl (a, fs.set b v))) r := by
  show rv_cell h (rv_ref q) (fun q c => match c with
    | .inl (cj, fs) => if cj = a ∧ b < fs.length ∧ rv_fit t v = true then rv_set fs b v (fun fs' => rv_set h q (.inl (cj, fs')) (fun h' => k h' r)) else none
    | _ => none) = _
  rw [rv_cell_f hq]
  show (if a = a ∧ b < fs.length ∧ rv_fit t v = true then rv_set fs b v (fun fs' => rv_set h q (.inl (a, fs')) (fun h' => k h' r)) else none) = _
  rw [if_pos ⟨rfl, hb, hf⟩, rv_set_eq, rv_set_eq]
theorem sx_cn {x : Int32} (h : 0 ≤ x.toInt) : (0 : Int32) ≤ x := by
  rw [Int32.le_iff_toInt_le]
  exact h
theorem rv_ix_f {x : Int32} {n : Nat} (h0 : 0 ≤ x.toInt) (h1 : x.toInt ≤ Int.ofNat n - 1) : rv_ix (.inl x) n = some (x.toInt.toNat, x.toInt.toNat) := by
  have h2 : x.toInt.toNat < n := by
    have h3 : x.toInt ≤ (n : Int) - 1 := h1
    omega
  unfold rv_ix
  rw [if_pos ⟨rfl, sx_cn h0, h2⟩]
  rfl
theorem rv_ald_f {okT : Nat → Bool} {q t n : Nat} {d : rv_A} {ups : List (Nat × rv_A)} {h : List rv_C} {x : Int32} {r : List rv_A} {k : List rv_A → Option rv_R} (hq : rv_hget h q = some (.inr (t, n, d, ups))) (ht : okT t = true) (h0 : 0 ≤ x.toInt) (h1 : x.toInt ≤ Int.ofNat n - 1) : rv_ald okT h (.inl x :: rv_ref q :: r) k = k (rv_el d ups x.toInt.toNat :: r) := by
  show rv_cell h (rv_ref q) (fun _ c => match c with
    | .inr (t, n, d, ups) => if okT t then (match rv_ix (.inl x) n with
      | some (lo, hi) => if rv_same d ups (rv_el d ups lo) lo (hi - lo) = true then k (rv_el d ups lo :: r) else none
      | none => none) else none
    | _ => none) = _
  rw [rv_cell_f hq]
  show (if okT t then (match rv_ix (.inl x) n with
      | some (lo, hi) => if rv_same d ups (rv_el d ups lo) lo (hi - lo) = true then k (rv_el d ups lo :: r) else none
      | none => none) else none) = _
  rw [if_pos ht, rv_ix_f h0 h1]
  show (if rv_same d ups (rv_el d ups x.toInt.toNat) x.toInt.toNat (x.toInt.toNat - x.toInt.toNat) = true then k (rv_el d ups x.toInt.toNat :: r) else none) = _
  rw [Nat.sub_self, if_pos (show rv_same d ups (rv_el d ups x.toInt.toNat) x.toInt.toNat 0 = true from rv_eqA_r _)]
theorem rv_put_n (j : Nat) (w : rv_A) : ∀ (l : List (Nat × rv_A)) {γ : Type} (g : List (Nat × rv_A) → γ), rv_put l j w g = g (rv_put l j w (fun z => z)) := by
  intro l
  induction l with
  | nil => intro γ g; rfl
  | cons q t ih =>
    intro γ g
    show Bool.rec (motive := fun _ => γ) (rv_put t j w (fun t' => g (q :: t'))) (g ((j, w) :: t)) (q.1.beq j) = g (Bool.rec (motive := fun _ => List (Nat × rv_A)) (rv_put t j w (fun t' => q :: t')) ((j, w) :: t) (q.1.beq j))
    cases q.1.beq j with
    | true => rfl
    | false =>
      show rv_put t j w (fun t' => g (q :: t')) = g (rv_put t j w (fun t' => q :: t'))
      rw [ih (fun t' => g (q :: t')), ih (fun t' => q :: t')]
theorem rv_ast_f {okT : Nat → Bool} {q t n : Nat} {d : rv_A} {ups : List (Nat × rv_A)} {h : List rv_C} {x : Int32} {v w : rv_A} {r : List rv_A} (hq : rv_hget h q = some (.inr (t, n, d, ups))) (ht : okT t = true) (h0 : 0 ≤ x.toInt) (h1 : x.toInt ≤ Int.ofNat n - 1) (hw : rv_nar t v = some w) : ∃ u, (∀ j, rv_el d u j = if j = x.toInt.toNat then w else rv_el d ups j) ∧ ∀ k, rv_ast okT h (v :: .inl x :: rv_ref q :: r) k = k (h.set q (.inr (t, n, d, u))) r := by
  have hhq := (rv_hget_1 hq).2
  have e : ∀ k, rv_ast okT h (v :: .inl x :: rv_ref q :: r) k = (if rv_eqA (rv_el d ups x.toInt.toNat) w = true then k h r else rv_fN x.toInt.toNat (fun j => rv_put ups j w (fun ups' => rv_set h q (.inr (t, n, d, ups')) (fun h' => k h' r)))) := by
    intro k
    show rv_cell h (rv_ref q) (fun q c => match c with
      | .inr (t, n, d, ups) => if okT t then (match rv_ix (.inl x) n with
        | some (lo, hi) => if lo = hi then (match rv_nar t v with
          | some w => if rv_eqA (rv_el d ups lo) w = true then k h r else rv_fN lo (fun j => rv_put ups j w (fun ups' => rv_set h q (.inr (t, n, d, ups')) (fun h' => k h' r)))
          | none => none) else none
        | none => none) else none
      | _ => none) = _
    rw [rv_cell_f hq]
    show (if okT t then (match rv_ix (.inl x) n with
        | some (lo, hi) => if lo = hi then (match rv_nar t v with
          | some w => if rv_eqA (rv_el d ups lo) w = true then k h r else rv_fN lo (fun j => rv_put ups j w (fun ups' => rv_set h q (.inr (t, n, d, ups')) (fun h' => k h' r)))
          | none => none) else none
        | none => none) else none) = _
    rw [if_pos ht, rv_ix_f h0 h1]
    show (if x.toInt.toNat = x.toInt.toNat then (match rv_nar t v with
          | some w => if rv_eqA (rv_el d ups x.toInt.toNat) w = true then k h r else rv_fN x.toInt.toNat (fun j => rv_put ups j w (fun ups' => rv_set h q (.inr (t, n, d, ups')) (fun h' => k h' r)))
          | none => none) else none) = _
    rw [if_pos rfl, hw]
  by_cases hc : rv_eqA (rv_el d ups x.toInt.toNat) w = true
  · refine ⟨ups, fun j => ?_, fun k => ?_⟩
    · by_cases ej : j = x.toInt.toNat
      · rw [if_pos ej, ej, rv_eqA_s hc]
      · rw [if_neg ej]
    · rw [e, if_pos hc]
      obtain ⟨hl, he⟩ := List.getElem?_eq_some_iff.mp hhq
      rw [← he, List.set_getElem_self hl]
  · obtain ⟨u, e1, e2⟩ := rv_put_i (β := List (Nat × rv_A)) x.toInt.toNat w ups (fun z => z)
    refine ⟨u, fun j => e2 d j, fun k => ?_⟩
    rw [e, if_neg hc, rv_fN_eq, rv_put_n, e1, rv_set_eq]
theorem rv_asr_f {ct : Nat → Nat} {q t n qv : Nat} {d : rv_A} {ups : List (Nat × rv_A)} {h : List rv_C} {x : Int32} {fv r : List rv_A} (hq : rv_hget h q = some (.inr (t, n, d, ups))) (ht : t = 4 ∨ t = 5) (h0 : 0 ≤ x.toInt) (h1 : x.toInt ≤ Int.ofNat n - 1) (hv : rv_hget h qv = some (.inl (ct t, fv))) : ∃ u, (∀ j, rv_el d u j = if j = x.toInt.toNat then rv_ref qv else rv_el d ups j) ∧ ∀ k, rv_asr ct h (rv_ref qv :: .inl x :: rv_ref q :: r) k = k (h.set q (.inr (t, n, d, u))) r := by
  obtain ⟨u, e1, e2⟩ := rv_put_i (β := List (Nat × rv_A)) x.toInt.toNat (rv_ref qv) ups (fun z => z)
  refine ⟨u, fun j => e2 d j, fun k => ?_⟩
  show rv_cell h (rv_ref q) (fun q c => match c with
    | .inr (t, n, d, ups) => match rv_ix (.inl x) n with
      | some (lo, hi) => if lo = hi then rv_cell h (rv_ref qv) (fun _ cv => match cv with
        | .inl (cj, _) => if ct t = cj ∧ (t = 4 ∨ t = 5) then rv_fN lo (fun j => rv_put ups j (rv_ref qv) (fun ups' => rv_set h q (.inr (t, n, d, ups')) (fun h' => k h' r))) else none
        | _ => none) else none
      | none => none
    | _ => none) = _
  rw [rv_cell_f hq]
  show (match rv_ix (.inl x) n with
      | some (lo, hi) => if lo = hi then rv_cell h (rv_ref qv) (fun _ cv => match cv with
        | .inl (cj, _) => if ct t = cj ∧ (t = 4 ∨ t = 5) then rv_fN lo (fun j => rv_put ups j (rv_ref qv) (fun ups' => rv_set h q (.inr (t, n, d, ups')) (fun h' => k h' r))) else none
        | _ => none) else none
      | none => none) = _
  rw [rv_ix_f h0 h1]
  show (if x.toInt.toNat = x.toInt.toNat then rv_cell h (rv_ref qv) (fun _ cv => match cv with
        | .inl (cj, _) => if ct t = cj ∧ (t = 4 ∨ t = 5) then rv_fN x.toInt.toNat (fun j => rv_put ups j (rv_ref qv) (fun ups' => rv_set h q (.inr (t, n, d, ups')) (fun h' => k h' r))) else none
        | _ => none) else none) = _
  rw [if_pos rfl, rv_cell_f hv]
  show (if ct t = ct t ∧ (t = 4 ∨ t = 5) then rv_fN x.toInt.toNat (fun j => rv_put ups j (rv_ref qv) (fun ups' => rv_set h q (.inr (t, n, d, ups')) (fun h' => k h' r))) else none) = _
  rw [if_pos ⟨rfl, ht⟩, rv_fN_eq, rv_put_n, e1, rv_set_eq]
theorem rv_cpy_f {h : List rv_C} {m dp sp : Int32} {q1 q0 n0 n1 : Nat} {d0 d1 : rv_A} {u0 u1 : List (Nat × rv_A)} {r : List rv_A} {k : List rv_C → List rv_A → Option rv_R} (hq0 : rv_hget h q0 = some (.inr (1, n0, d0, u0))) (hq1 : rv_hget h q1 = some (.inr (1, n1, d1, u1))) (hm : 0 ≤ m.toInt) (hd : 0 ≤ dp.toInt) (hs : 0 ≤ sp.toInt) (h0 : sp.toInt + m.toInt ≤ Int.ofNat n0) (h1 : dp.toInt + m.toInt ≤ Int.ofNat n1) (hr : rv_wd r ≤ 8) : rv_cpy h (.inl m :: .inl dp :: rv_ref q1 :: .inl sp :: rv_ref q0 :: r) k = k (h.set q1 (.inr (1, n1, d1, (List.range m.toNatClampNeg).map (fun j => (dp.toNatClampNeg + j, rv_el d0 u0 (sp.toNatClampNeg + j))) ++ u1))) r := by
  have nl : ∀ x : Int32, 0 ≤ x.toInt → ¬ x < 0 := fun x hx => Int32.not_lt.mpr (sx_cn hx)
  have e1 : sp.toNatClampNeg + m.toNatClampNeg ≤ n0 := by
    have h0 : sp.toInt + m.toInt ≤ (n0 : Int) := h0
    show sp.toInt.toNat + m.toInt.toNat ≤ n0
    omega
  have e2 : dp.toNatClampNeg + m.toNatClampNeg ≤ n1 := by
    have h1 : dp.toInt + m.toInt ≤ (n1 : Int) := h1
    show dp.toInt.toNat + m.toInt.toNat ≤ n1
    omega
  show rv_cell h (rv_ref q0) (fun _ c0 => match c0 with
    | .inr (1, n0, d0, u0) => rv_cell h (rv_ref q1) (fun q1 c1 => match c1 with
      | .inr (1, n1, d1, u1) => if ¬ sp < 0 ∧ ¬ dp < 0 ∧ ¬ m < 0 ∧ sp.toNatClampNeg + m.toNatClampNeg ≤ n0 ∧ dp.toNatClampNeg + m.toNatClampNeg ≤ n1 ∧ rv_wd r ≤ 8 then rv_set h q1 (.inr (1, n1, d1, (List.range m.toNatClampNeg).map (fun j => (dp.toNatClampNeg + j, rv_el d0 u0 (sp.toNatClampNeg + j))) ++ u1)) (fun h' => k h' r) else none
      | _ => none)
    | _ => none) = _
  rw [rv_cell_f hq0]
  show rv_cell h (rv_ref q1) (fun q1 c1 => match c1 with
      | .inr (1, n1, d1, u1) => if ¬ sp < 0 ∧ ¬ dp < 0 ∧ ¬ m < 0 ∧ sp.toNatClampNeg + m.toNatClampNeg ≤ n0 ∧ dp.toNatClampNeg + m.toNatClampNeg ≤ n1 ∧ rv_wd r ≤ 8 then rv_set h q1 (.inr (1, n1, d1, (List.range m.toNatClampNeg).map (fun j => (dp.toNatClampNeg + j, rv_el d0 u0 (sp.toNatClampNeg + j))) ++ u1)) (fun h' => k h' r) else none
      | _ => none) = _
  rw [rv_cell_f hq1]
  show (if ¬ sp < 0 ∧ ¬ dp < 0 ∧ ¬ m < 0 ∧ sp.toNatClampNeg + m.toNatClampNeg ≤ n0 ∧ dp.toNatClampNeg + m.toNatClampNeg ≤ n1 ∧ rv_wd r ≤ 8 then rv_set h q1 (.inr (1, n1, d1, (List.range m.toNatClampNeg).map (fun j => (dp.toNatClampNeg + j, rv_el d0 u0 (sp.toNatClampNeg + j))) ++ u1)) (fun h' => k h' r) else none) = _
  rw [if_pos ⟨nl _ hs, nl _ hd, nl _ hm, e1, e2, hr⟩, rv_set_eq]
/-! THE HEAP AT EVERY MOMENT stays so -/
theorem sx_I_set {h : List rv_C} (hI : sx_I h) {q : Nat} {c : rv_C} (hc : sx_ok q c) : sx_I (h.set q c) := by
  refine ⟨by rw [List.length_set]; exact hI.1, fun k c2 hk => ?_⟩
  rw [List.getElem?_set] at hk
  split at hk
  · rename_i e
    subst e
    split at hk
    · cases hk; exact hc
    · cases hk
  · exact hI.2 k c2 hk
theorem sx_I_pf {h : List rv_C} (hI : sx_I h) {q a b : Nat} {fs : List rv_A} {v : rv_A} (hq : h[q]? = some (.inl (a, fs))) (hv : sx_fok (sx_fld.get (q * 128 + b)) v) : sx_I (h.set q (.inl (a, fs.set b v))) := by
  obtain ⟨h1, h2, h3, h4, h5⟩ := hI.2 _ _ hq
  refine sx_I_set hI ⟨h1, h2, by rw [List.length_set]; exact h3, by rw [List.length_set]; exact h4, fun j v2 hj => ?_⟩
  rw [List.getElem?_set] at hj
  split at hj
  · rename_i e
    subst e
    split at hj
    · cases hj; exact hv
    · cases hj
  · exact h5 j v2 hj
theorem sx_I_as {h : List rv_C} (hI : sx_I h) {q t n : Nat} {d : rv_A} {ups u : List (Nat × rv_A)} (hq : h[q]? = some (.inr (t, n, d, ups))) (hu : ∀ j, j < n → sx_eok t (sx_cell.get q).2.2.2.1 (sx_cell.get q).2.2.2.2.1 (sx_cell.get q).2.2.2.2.2 (rv_el d u j)) : sx_I (h.set q (.inr (t, n, d, u))) := by
  obtain ⟨h1, h2, h3, h4⟩ := hI.2 _ _ hq
  exact sx_I_set hI ⟨h1, h2, h3, hu⟩
theorem sx_fv_pf {h : List rv_C} {q a b : Nat} {fs : List rv_A} {v : rv_A} (hq : h[q]? = some (.inl (a, fs))) (hb : b < fs.length) (k j : Nat) : sx_fv (h.set q (.inl (a, fs.set b v))) k j = if k = q ∧ j = b then sx_num v else sx_fv h k j := by
  have hl := (List.getElem?_eq_some_iff.mp hq).1
  unfold sx_fv
  rw [List.getElem?_set]
  by_cases e : k = q
  · subst e
    rw [if_pos rfl, if_pos hl, hq]
    dsimp only
    rw [List.getElem?_set]
    by_cases e2 : j = b
    · subst e2
      rw [if_pos rfl, if_pos hb, if_pos ⟨rfl, rfl⟩]
    · rw [if_neg (fun z => e2 z.symm), if_neg (fun z => e2 z.2)]
  · rw [if_neg (fun z => e z.symm), if_neg (fun z => e z.1)]
theorem sx_fv_as {h : List rv_C} {q : Nat} {x y : Nat × Nat × rv_A × List (Nat × rv_A)} (hq : h[q]? = some (.inr x)) (k j : Nat) : sx_fv (h.set q (.inr y)) k j = sx_fv h k j := by
  have hl := (List.getElem?_eq_some_iff.mp hq).1
  unfold sx_fv
  rw [List.getElem?_set]
  by_cases e : k = q
  · subst e
    rw [if_pos rfl, if_pos hl, hq]
  · rw [if_neg (fun z => e z.symm)]
theorem sx_ga_pf {h : List rv_C} {q : Nat} {x y : Nat × List rv_A} (hq : h[q]? = some (.inl x)) : sx_ga (h.set q (.inl y)) = sx_ga h := by
  have hl := (List.getElem?_eq_some_iff.mp hq).1
  funext k j
  unfold sx_ga
  rw [List.getElem?_set]
  by_cases e : q = k
  · subst e
    rw [if_pos rfl, if_pos hl, hq]
  · rw [if_neg e]
theorem sx_ga_as {h : List rv_C} {q : Nat} {x y : Nat × Nat × rv_A × List (Nat × rv_A)} (hq : h[q]? = some (.inr x)) : ∀ q2, q2 ≠ q → sx_ga (h.set q (.inr y)) q2 = sx_ga h q2 := by
  intro q2 hne
  funext j
  unfold sx_ga
  rw [List.getElem?_set, if_neg (fun e => hne e.symm)]
theorem sx_ga_ai {h : List rv_C} {q t m i : Nat} {d w : rv_A} {ups u : List (Nat × rv_A)} (hq : h[q]? = some (.inr (t, m, d, ups))) (hu : ∀ j, rv_el d u j = if j = i then w else rv_el d ups j) : sx_ga (h.set q (.inr (t, m, d, u))) = sx_au (sx_ga h) q i ((sx_nua w).getD 0) := by
  have hl := (List.getElem?_eq_some_iff.mp hq).1
  have e1 : ∀ j, sx_ga h q j = (sx_nua (rv_el d ups j)).getD 0 := fun j => by
    unfold sx_ga
    rw [hq]
  funext k j
  unfold sx_au
  by_cases e : q = k
  · subst e
    rw [e1]
    unfold sx_ga
    rw [List.getElem?_set, if_pos rfl, if_pos hl]
    show (sx_nua (rv_el d u j)).getD 0 = _
    rw [hu]
    by_cases e2 : j = i
    · rw [if_pos e2, if_pos ⟨rfl, e2⟩]
    · rw [if_neg e2, if_neg (fun z => e2 z.2)]
  · rw [if_neg (fun z => e z.1.symm)]
    unfold sx_ga
    rw [List.getElem?_set, if_neg e]
section SXP
variable {n : Nat} {σ : Nat → Int} {hp : sx_Hp} {h : List rv_C}
theorem sx_fok_sr {c : Nat} {v : rv_A} {x : Int} (hc : c < 19000) (hv : sx_fok (sx_fld.get c) v) (hx : sx_num v = some x) : (sx_sr c).1 ≤ x ∧ x ≤ (sx_sr c).2 := by
  have hb : Nat.blt c 19000 = true := Nat.ble_eq_true_of_le hc
  have e : sx_sr c = ((sx_fld.get c).2.1, (sx_fld.get c).2.2.1) := by
    unfold sx_sr
    rw [hb]
  rw [e]
  generalize sx_fld.get c = fd at hv
  obtain ⟨ty, lo, hi, qs⟩ := fd
  match ty, hv with
  | 0, hv => obtain ⟨y, rfl, hy⟩ := hv; cases hx; exact hy
  | 1, hv => obtain ⟨y, rfl, hy⟩ := hv; cases hx; exact hy
  | 2, hv => obtain ⟨y, rfl, hy⟩ := hv; cases hx; exact hy
  | ty + 3, hv => obtain ⟨q, hq, rfl⟩ := hv; cases hx
theorem sx_H_pf (hH : sx_H n σ hp h) {q a b : Nat} {fs : List rv_A} {v : rv_A} {f : sx_F} {hp' : sx_Hp} {x : Int} (hq : h[q]? = some (.inl (a, fs))) (hb : b < fs.length) (hv : sx_fok (sx_fld.get (q * 128 + b)) v) (hx : sx_num v = some x) (hf : x = sx_d σ f) (h1 : ∀ c2, sx_hg hp' c2 = if c2 = q * 128 + b then f else sx_hg hp c2) (h2 : ∀ q ∈ hp', sx_b n q.2) : sx_H n σ hp' (h.set q (.inl (a, fs.set b v))) := by
  have hI := sx_I_pf hH.1 hq hv
  have hq143 : q < 143 := by rw [← hH.1.1]; exact (List.getElem?_eq_some_iff.mp hq).1
  have hbl : b < 100 := by have := (hH.1.2 _ _ hq).2.2.2.1; omega
  refine ⟨hI, h2, fun k j y ht hy => ?_, fun s hs => ?_, by
    rw [sx_ga_pf hq]
    exact sx_GG_cg (fun c h3 h4 => by rw [h1, if_neg (by omega)]) hH.2.2.2.2⟩
  case refine_2 =>
    rw [h1]
    by_cases e : s = q * 128 + b
    · rw [if_pos e, e, ← hf]
      exact sx_fok_sr (by omega) hv hx
    · rw [if_neg e]
      exact hH.2.2.2.1 s hs
  have hl := sx_fv_lt hI hy
  rw [sx_fv_pf hq hb] at hy
  by_cases e : k = q ∧ j = b
  · obtain ⟨rfl, rfl⟩ := e
    rw [if_pos ⟨rfl, rfl⟩, hx] at hy
    cases hy
    rw [h1, if_pos rfl, hf]
  · rw [if_neg e] at hy
    rw [h1, if_neg (fun z => e (by omega))]
    exact hH.2.2.1 k j y ht hy
theorem sx_H_pu (hH : sx_H n σ hp h) {q a b : Nat} {fs : List rv_A} {v : rv_A} (hq : h[q]? = some (.inl (a, fs))) (hb : b < fs.length) (hv : sx_fok (sx_fld.get (q * 128 + b)) v) (hu : (sx_cell.get q).2.1 = false ∨ sx_num v = none) : sx_H n σ hp (h.set q (.inl (a, fs.set b v))) := by
  refine ⟨sx_I_pf hH.1 hq hv, hH.2.1, fun k j y ht hy => ?_, hH.2.2.2.1, by
    rw [sx_ga_pf hq]
    exact hH.2.2.2.2⟩
  rw [sx_fv_pf hq hb] at hy
  by_cases e : k = q ∧ j = b
  · obtain ⟨rfl, rfl⟩ := e
    rw [if_pos ⟨rfl, rfl⟩] at hy
    rcases hu with hu | hu
    · rw [hu] at ht; cases ht
    · rw [hu] at hy; cases hy
  · rw [if_neg e] at hy
    exact hH.2.2.1 k j y ht hy
theorem sx_H_as (hH : sx_H n σ hp h) {q t m : Nat} {d : rv_A} {ups u : List (Nat × rv_A)} (hq : h[q]? = some (.inr (t, m, d, ups))) (hu : ∀ j, j < m → sx_eok t (sx_cell.get q).2.2.2.1 (sx_cell.get q).2.2.2.2.1 (sx_cell.get q).2.2.2.2.2 (rv_el d u j)) (hG : sx_GG (fun c => sx_d σ (sx_hg hp c)) (sx_ga (h.set q (.inr (t, m, d, u))))) : sx_H n σ hp (h.set q (.inr (t, m, d, u))) := by
  refine ⟨sx_I_as hH.1 hq hu, hH.2.1, fun k j y ht hy => ?_, hH.2.2.2.1, hG⟩
  rw [sx_fv_as hq] at hy
  exact hH.2.2.1 k j y ht hy
end SXP
