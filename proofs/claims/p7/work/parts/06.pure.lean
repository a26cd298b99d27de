/-! what the evaluator's small words do -/
theorem rv_fN_eq {β : Type} (n : Nat) (k : Nat → β) : rv_fN n k = k n := by cases n <;> rfl
theorem rv_oI (x : Int32) : Int32.ofNat x.toBitVec.toNat = x := by
  apply Int32.toBitVec_inj.mp
  show BitVec.ofNat 32 x.toBitVec.toNat = x.toBitVec
  simp
theorem rv_oL (x : Int64) : Int64.ofNat x.toBitVec.toNat = x := by
  apply Int64.toBitVec_inj.mp
  show BitVec.ofNat 64 x.toBitVec.toNat = x.toBitVec
  simp
theorem rv_fI_eq {β : Type} (x : Int32) (k : Int32 → β) : rv_fI x k = k x := by
  unfold rv_fI
  rw [rv_fN_eq, rv_oI]
theorem rv_fL_eq {β : Type} (x : Int64) (k : Int64 → β) : rv_fL x k = k x := by
  unfold rv_fL
  rw [rv_fN_eq, rv_oL]
theorem rv_nth_eq {α : Type} (l : List α) : ∀ n, rv_nth l n = l[n]? := by
  induction l with
  | nil => intro n; rfl
  | cons a t ih =>
    intro n
    cases n with
    | zero => rfl
    | succ m => exact (ih m).trans (by simp)
theorem rv_drop_eq {α : Type} (n : Nat) : ∀ l : List α, rv_drop n l = l.drop n := by
  induction n with
  | zero => intro l; rfl
  | succ n ih =>
    intro l
    cases l with
    | nil => rfl
    | cons a t => exact (ih t).trans (by simp)
theorem rv_set_eq {α β : Type} (l : List α) : ∀ (n : Nat) (v : α) (k : List α → β), rv_set l n v k = k (l.set n v) := by
  induction l with
  | nil => intro n v k; rfl
  | cons a t ih =>
    intro n v k
    cases n with
    | zero => rfl
    | succ m => exact ih m v _
theorem rv_app_eq {α β : Type} (l : List α) : ∀ (v : α) (k : List α → β), rv_app l v k = k (l ++ [v]) := by
  induction l with
  | nil => intro v k; rfl
  | cons a t ih => intro v k; exact ih v _
theorem rv_flt_eq {α β : Type} (f : α → Bool) (l : List α) : ∀ (k : List α → β), rv_flt f l k = k (l.filter f) := by
  induction l with
  | nil => intro k; rfl
  | cons a t ih =>
    intro k
    have e : rv_flt f (a :: t) k = Bool.rec (motive := fun _ => β) (rv_flt f t k) (rv_flt f t (fun t' => k (a :: t'))) (f a) := rfl
    rw [e]
    cases hf : f a with
    | false => rw [List.filter_cons_of_neg (by simp [hf])]; exact ih k
    | true => rw [List.filter_cons_of_pos hf]; exact ih _
theorem rv_el_cons (d : rv_A) (q : Nat × rv_A) (t : List (Nat × rv_A)) (j : Nat) : rv_el d (q :: t) j = if q.1 = j then q.2 else rv_el d t j := by
  have e : rv_el d (q :: t) j = Bool.rec (motive := fun _ => rv_A) (rv_el d t j) q.2 (q.1.beq j) := rfl
  rw [e]
  by_cases h : q.1 = j
  · rw [if_pos h, show q.1.beq j = true from Nat.beq_eq ▸ h]
  · rw [if_neg h, show q.1.beq j = false from by
      cases hb : q.1.beq j with
      | false => rfl
      | true => exact absurd (Nat.eq_of_beq_eq_true hb) h]
theorem rv_put_i {β : Type} (j : Nat) (v : rv_A) (ups : List (Nat × rv_A)) : ∀ k : List (Nat × rv_A) → β, ∃ u', rv_put ups j v k = k u' ∧ ∀ (d : rv_A) (i : Nat), rv_el d u' i = if i = j then v else rv_el d ups i := by
  induction ups with
  | nil =>
    intro k
    refine ⟨[(j, v)], rfl, fun d i => ?_⟩
    rw [rv_el_cons]
    by_cases h : i = j
    · rw [if_pos h.symm, if_pos h]
    · rw [if_neg (fun e => h e.symm), if_neg h]
  | cons q t ih =>
    intro k
    have e : rv_put (q :: t) j v k = Bool.rec (motive := fun _ => β) (rv_put t j v (fun t' => k (q :: t'))) (k ((j, v) :: t)) (q.1.beq j) := rfl
    cases hb : q.1.beq j with
    | true =>
      refine ⟨(j, v) :: t, by rw [e, hb], fun d i => ?_⟩
      have hq : q.1 = j := Nat.eq_of_beq_eq_true hb
      rw [rv_el_cons, rv_el_cons]
      by_cases h : i = j
      · rw [if_pos h.symm, if_pos h]
      · rw [if_neg (fun e => h e.symm), if_neg h, if_neg (fun e => h (by rw [← e, hq]))]
    | false =>
      obtain ⟨u, h1, h2⟩ := ih (fun t' => k (q :: t'))
      refine ⟨q :: u, by rw [e, hb]; exact h1, fun d i => ?_⟩
      have hq : ¬ q.1 = j := fun h => by rw [h] at hb; simp at hb
      rw [rv_el_cons, rv_el_cons, h2]
      by_cases h : i = j
      · rw [if_pos h, if_neg (fun e => hq (e.trans h)), if_pos h]
      · rw [if_neg h, if_neg h]
theorem rv_eqA_s {a b : rv_A} (h : rv_eqA a b = true) : a = b := by
  unfold rv_eqA at h
  split at h
  · rw [of_decide_eq_true h]
  · rw [Bool.and_eq_true] at h
    rw [of_decide_eq_true h.1, of_decide_eq_true h.2]
  · rw [of_decide_eq_true h]
  · rw [Nat.eq_of_beq_eq_true h]
  · rw [Nat.eq_of_beq_eq_true h]
  · rfl
  · cases h
theorem rv_eqL_s {α : Type} {f : α → α → Bool} (hf : ∀ a b, f a b = true → a = b) : ∀ {s t : List α}, rv_eqL f s t = true → s = t := by
  intro s
  induction s with
  | nil => intro t h; cases t with
    | nil => rfl
    | cons b t => cases h
  | cons a s ih => intro t h; cases t with
    | nil => cases h
    | cons b t =>
      have h : (f a b && rv_eqL f s t) = true := h
      rw [Bool.and_eq_true] at h
      rw [hf a b h.1, ih h.2]
theorem rv_eqC_s {a b : rv_C} (h : rv_eqC a b = true) : a = b := by
  unfold rv_eqC at h
  split at h
  · rw [Bool.and_eq_true] at h
    rw [Nat.eq_of_beq_eq_true h.1, rv_eqL_s (fun _ _ => rv_eqA_s) h.2]
  · simp only [Bool.and_eq_true] at h
    rw [Nat.eq_of_beq_eq_true h.1.1.1, Nat.eq_of_beq_eq_true h.1.1.2, rv_eqA_s h.1.2, rv_eqL_s (fun x y q => by
      rw [Bool.and_eq_true] at q
      exact Prod.ext (Nat.eq_of_beq_eq_true q.1) (rv_eqA_s q.2)) h.2]
  · cases h
theorem rv_eqO_s {a b : rv_O} (h : rv_eqO a b = true) : a = b := by
  unfold rv_eqO at h
  rw [Bool.and_eq_true] at h
  obtain ⟨h1, h2⟩ := h
  have h2 := rv_eqL_s (fun _ _ => rv_eqC_s) h2
  have h3 : a.1 = b.1 := by
    split at h1
    · rename_i e1 e2; rw [e1, e2, rv_eqA_s h1]
    · rename_i e1 e2; rw [e1, e2]
    · cases h1
  exact Prod.ext h3 h2
theorem rv_eqR_s {a b : Option rv_R} (h : rv_eqR a b = true) : a = b := by
  unfold rv_eqR at h
  split at h
  · simp only [Bool.and_eq_true] at h
    rw [Nat.eq_of_beq_eq_true h.1.1, Nat.eq_of_beq_eq_true h.1.2, rv_eqL_s (fun _ _ => rv_eqO_s) h.2]
  · cases h
/-- of two ways' outcomes each is among the merged ones -/
theorem rv_mrg_l {a b : rv_R} : a.1 ≤ (rv_mrg a b).1 ∧ a.2.1 ≤ (rv_mrg a b).2.1 ∧ ∀ o ∈ a.2.2, o ∈ (rv_mrg a b).2.2 := ⟨Nat.le_max_left _ _, Nat.le_max_left _ _, fun _ h => List.mem_append_left _ h⟩
theorem rv_mrg_r {a b : rv_R} : b.1 ≤ (rv_mrg a b).1 ∧ b.2.1 ≤ (rv_mrg a b).2.1 ∧ ∀ o ∈ b.2.2, o ∈ (rv_mrg a b).2.2 := by
  refine ⟨Nat.le_max_right _ _, Nat.le_max_right _ _, fun o h => ?_⟩
  show o ∈ a.2.2 ++ b.2.2.filter (fun o => !rv_has o a.2.2)
  cases hh : rv_has o a.2.2 with
  | false => exact List.mem_append_right _ (List.mem_filter.mpr ⟨h, by simp [hh]⟩)
  | true =>
    obtain ⟨x, hx, hq⟩ := List.any_eq_true.mp hh
    rw [rv_eqO_s hq]
    exact List.mem_append_left _ hx
def rv_sub (a b : rv_R) : Prop := a.1 ≤ b.1 ∧ a.2.1 ≤ b.2.1 ∧ ∀ o ∈ a.2.2, o ∈ b.2.2
theorem rv_sub.rf {a : rv_R} : rv_sub a a := ⟨Nat.le_refl _, Nat.le_refl _, fun _ h => h⟩
theorem rv_sub.tr {a b c : rv_R} (h : rv_sub a b) (h2 : rv_sub b c) : rv_sub a c := ⟨Nat.le_trans h.1 h2.1, Nat.le_trans h.2.1 h2.2.1, fun o q => h2.2.2 o (h.2.2 o q)⟩
theorem rv_mrO_i {a b : Option rv_R} {r : rv_R} (h : rv_mrO a b = some r) : ∃ x y, a = some x ∧ b = some y ∧ rv_sub x r ∧ rv_sub y r := by
  unfold rv_mrO at h
  split at h
  · cases h
  · split at h
    · cases h
    · cases h
      exact ⟨_, _, rfl, rfl, rv_mrg_l, rv_mrg_r⟩
theorem rv_br_i {c : Option Bool} {kt kf : Option rv_R} {r : rv_R} (h : rv_br c kt kf = some r) : (c ≠ some false → ∃ x, kt = some x ∧ rv_sub x r) ∧ (c ≠ some true → ∃ x, kf = some x ∧ rv_sub x r) := by
  unfold rv_br at h
  split at h
  · exact ⟨fun _ => ⟨r, h, rv_sub.rf⟩, fun q => absurd rfl q⟩
  · exact ⟨fun q => absurd rfl q, fun _ => ⟨r, h, rv_sub.rf⟩⟩
  · obtain ⟨x, y, h1, h2, h3, h4⟩ := rv_mrO_i h
    exact ⟨fun _ => ⟨x, h1, h3⟩, fun _ => ⟨y, h2, h4⟩⟩
theorem rv_all_i {f : rv_O → Option rv_R} : ∀ {os : List rv_O} {r : rv_R}, rv_all os f = some r → (∃ o, o ∈ os) ∧ ∀ o ∈ os, ∃ x, f o = some x ∧ rv_sub x r := by
  intro os
  induction os with
  | nil => intro r h; cases h
  | cons o t ih =>
    intro r h
    cases t with
    | nil => exact ⟨⟨o, List.mem_cons_self⟩, fun o' ho => by
        rw [List.mem_singleton.mp ho]
        exact ⟨r, h, rv_sub.rf⟩⟩
    | cons o2 t2 =>
      have h : rv_mrO (f o) (rv_all (o2 :: t2) f) = some r := h
      obtain ⟨x, y, h1, h2, h3, h4⟩ := rv_mrO_i h
      refine ⟨⟨o, List.mem_cons_self⟩, fun o' ho => ?_⟩
      rcases List.mem_cons.mp ho with rfl | ho
      · exact ⟨x, h1, h3⟩
      · obtain ⟨z, e1, e2⟩ := (ih h2).2 o' ho
        exact ⟨z, e1, e2.tr h4⟩
/-- a cell that isn't a string constant's -/
def rv_hget (h : List rv_C) (q : Nat) : Option rv_C := if q < 100000 then h[q]? else none
theorem rv_hn_eq (h : List rv_C) (q : Nat) : rv_hn h q = rv_hget h q := by
  unfold rv_hn rv_hget
  by_cases hq : q < 100000
  · rw [if_pos hq, show Nat.blt q 100000 = true from Nat.ble_eq_true_of_le hq]
    exact rv_nth_eq h q
  · rw [if_neg hq, show Nat.blt q 100000 = false from by
      cases hb : Nat.blt q 100000 with
      | false => rfl
      | true => exact absurd (Nat.le_of_ble_eq_true hb) hq]
theorem rv_hget_1 {h : List rv_C} {q : Nat} {c : rv_C} (hh : rv_hget h q = some c) : q < 100000 ∧ h[q]? = some c := by
  unfold rv_hget at hh
  split at hh
  · rename_i hq; exact ⟨hq, hh⟩
  · cases hh
