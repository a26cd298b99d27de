/-! WHAT IS KNOWN OF THE SYMBOLS: their stretches and forms that are not below 0 -/
abbrev sx_T : Type := List (Nat × Int × Int)
-- sr: the stretch of a symbol of which nothing else is known
noncomputable def sx_rg (sr : Nat → Int × Int) (tb : sx_T) (s : Nat) : Int × Int := List.rec (motive := fun _ => Int × Int) (sr s) (fun q _ ih => Bool.rec (motive := fun _ => Int × Int) ih q.2 (q.1.beq s)) tb
/-- the least and the greatest that a form can be -/
noncomputable def sx_lol (sr : Nat → Int × Int) (tb : sx_T) (l : List (Nat × Int)) : Int := List.rec (motive := fun _ => Int) 0 (fun q _ ih => Bool.rec (motive := fun _ => Int) (q.2 * (sx_rg sr tb q.1).2 + ih) (q.2 * (sx_rg sr tb q.1).1 + ih) (sx_p q.2)) l
noncomputable def sx_hil (sr : Nat → Int × Int) (tb : sx_T) (l : List (Nat × Int)) : Int := List.rec (motive := fun _ => Int) 0 (fun q _ ih => Bool.rec (motive := fun _ => Int) (q.2 * (sx_rg sr tb q.1).1 + ih) (q.2 * (sx_rg sr tb q.1).2 + ih) (sx_p q.2)) l
noncomputable def sx_lo (sr : Nat → Int × Int) (tb : sx_T) (f : sx_F) : Int := f.1 + sx_lol sr tb f.2
noncomputable def sx_hi (sr : Nat → Int × Int) (tb : sx_T) (f : sx_F) : Int := f.1 + sx_hil sr tb f.2
/-- σ is as the stretches and the forms say -/
def sx_S (sr : Nat → Int × Int) (n : Nat) (tb : sx_T) (cs : List sx_F) (σ : Nat → Int) : Prop := (∀ s, (sr s).1 ≤ σ s ∧ σ s ≤ (sr s).2) ∧ (∀ q ∈ tb, q.1 < n ∧ q.2.1 ≤ σ q.1 ∧ σ q.1 ≤ q.2.2) ∧ ∀ f ∈ cs, sx_b n f ∧ 0 ≤ sx_d σ f
section SXS
variable {sr : Nat → Int × Int} {n : Nat} {tb : sx_T} {cs : List sx_F} {σ : Nat → Int}
theorem sx_rg_ok (h1 : ∀ s, (sr s).1 ≤ σ s ∧ σ s ≤ (sr s).2) : ∀ {tb : sx_T}, (∀ q ∈ tb, q.2.1 ≤ σ q.1 ∧ σ q.1 ≤ q.2.2) → ∀ s, (sx_rg sr tb s).1 ≤ σ s ∧ σ s ≤ (sx_rg sr tb s).2 := by
  intro tb
  induction tb with
  | nil => intro _ s; exact h1 s
  | cons q t ih =>
    intro h s
    have e : sx_rg sr (q :: t) s = Bool.rec (motive := fun _ => Int × Int) (sx_rg sr t s) q.2 (q.1.beq s) := rfl
    rw [e]
    cases hb : q.1.beq s with
    | false => exact ih (fun q hq => h q (List.mem_cons_of_mem _ hq)) s
    | true =>
      rw [← Nat.eq_of_beq_eq_true hb]
      exact h q List.mem_cons_self
theorem sx_S_rg (h : sx_S sr n tb cs σ) (s : Nat) : (sx_rg sr tb s).1 ≤ σ s ∧ σ s ≤ (sx_rg sr tb s).2 := sx_rg_ok h.1 (fun q hq => (h.2.1 q hq).2) s
theorem sx_mulP {c a x : Int} (hc : 0 ≤ c) (h : a ≤ x) : c * a ≤ c * x := Int.mul_le_mul_of_nonneg_left h hc
theorem sx_mulN {c a x : Int} (hc : c < 0) (h : x ≤ a) : c * a ≤ c * x := Int.mul_le_mul_of_nonpos_left (Int.le_of_lt hc) h
theorem sx_lol_ok (h : ∀ s, (sx_rg sr tb s).1 ≤ σ s ∧ σ s ≤ (sx_rg sr tb s).2) : ∀ l, sx_lol sr tb l ≤ sx_dl σ l ∧ sx_dl σ l ≤ sx_hil sr tb l := by
  intro l
  induction l with
  | nil => exact ⟨Int.le_refl _, Int.le_refl _⟩
  | cons q t ih =>
    have e1 : sx_lol sr tb (q :: t) = Bool.rec (motive := fun _ => Int) (q.2 * (sx_rg sr tb q.1).2 + sx_lol sr tb t) (q.2 * (sx_rg sr tb q.1).1 + sx_lol sr tb t) (sx_p q.2) := rfl
    have e2 : sx_hil sr tb (q :: t) = Bool.rec (motive := fun _ => Int) (q.2 * (sx_rg sr tb q.1).1 + sx_hil sr tb t) (q.2 * (sx_rg sr tb q.1).2 + sx_hil sr tb t) (sx_p q.2) := rfl
    rw [e1, e2]
    show _ ≤ q.2 * σ q.1 + sx_dl σ t ∧ q.2 * σ q.1 + sx_dl σ t ≤ _
    have hq := h q.1
    cases hp : sx_p q.2 with
    | true =>
      have hc := sx_p_t hp
      have h1 := sx_mulP hc hq.1
      have h2 := sx_mulP hc hq.2
      exact ⟨by show q.2 * (sx_rg sr tb q.1).1 + sx_lol sr tb t ≤ _; omega, by show _ ≤ q.2 * (sx_rg sr tb q.1).2 + sx_hil sr tb t; omega⟩
    | false =>
      have hc := sx_p_f hp
      have h1 := sx_mulN hc hq.1
      have h2 := sx_mulN hc hq.2
      exact ⟨by show q.2 * (sx_rg sr tb q.1).2 + sx_lol sr tb t ≤ _; omega, by show _ ≤ q.2 * (sx_rg sr tb q.1).1 + sx_hil sr tb t; omega⟩
theorem sx_lo_ok (h : sx_S sr n tb cs σ) (f : sx_F) : sx_lo sr tb f ≤ sx_d σ f ∧ sx_d σ f ≤ sx_hi sr tb f := by
  have := sx_lol_ok (sx_S_rg h) f.2
  unfold sx_lo sx_hi sx_d
  omega
/-- is a form surely not below 0? by the stretches; by one of the forms; by two of them -/
noncomputable def sx_mm (s : Nat) (l : List (Nat × Int)) : Bool := List.rec (motive := fun _ => Bool) false (fun q _ ih => Bool.rec (motive := fun _ => Bool) ih true (q.1.beq s)) l
-- have two lists a symbol in common? (a form that has none in common with f says nothing of f)
noncomputable def sx_shm (a b : List (Nat × Int)) : Bool := List.rec (motive := fun _ => Bool) false (fun q _ ih => Bool.rec (motive := fun _ => Bool) ih true (sx_mm q.1 a)) b
noncomputable def sx_ge1 (sr : Nat → Int × Int) (tb : sx_T) (cs : List sx_F) (f : sx_F) : Bool := List.rec (motive := fun _ => Bool) false (fun g _ ih => Bool.rec (motive := fun _ => Bool) ih (sx_ad (-1) f g (fun r => sx_p (sx_lo sr tb r)) || ih) (sx_shm f.2 g.2)) cs
noncomputable def sx_ge2 (sr : Nat → Int × Int) (tb : sx_T) (cs : List sx_F) (f : sx_F) (ds : List sx_F) : Bool := List.rec (motive := fun _ => Bool) false (fun g _ ih => Bool.rec (motive := fun _ => Bool) ih (sx_ad (-1) f g (fun r => sx_ge1 sr tb cs r) || ih) (sx_shm f.2 g.2)) ds
noncomputable def sx_ge (lv : Nat) (sr : Nat → Int × Int) (tb : sx_T) (cs : List sx_F) (f : sx_F) : Bool := sx_p (sx_lo sr tb f) || Nat.rec (motive := fun _ => Bool) false (fun m _ => sx_ge1 sr tb cs f || Nat.rec (motive := fun _ => Bool) false (fun _ _ => sx_ge2 sr tb cs f cs) m) lv
theorem sx_ge1_ok (h : sx_S sr n tb cs σ) {f : sx_F} : ∀ {ds : List sx_F}, (∀ g ∈ ds, 0 ≤ sx_d σ g) → sx_ge1 sr tb ds f = true → 0 ≤ sx_d σ f := by
  intro ds
  induction ds with
  | nil => intro _ hh; cases hh
  | cons g t ih =>
    intro hd hh
    replace hh : Bool.rec (motive := fun _ => Bool) (sx_ge1 sr tb t f) (sx_ad (-1) f g (fun r => sx_p (sx_lo sr tb r)) || sx_ge1 sr tb t f) (sx_shm f.2 g.2) = true := hh
    cases hs : sx_shm f.2 g.2 with
    | false => rw [hs] at hh; exact ih (fun g hg => hd g (List.mem_cons_of_mem _ hg)) hh
    | true =>
    rw [hs] at hh
    replace hh : (sx_ad (-1) f g (fun r => sx_p (sx_lo sr tb r)) || sx_ge1 sr tb t f) = true := hh
    rw [Bool.or_eq_true] at hh
    rcases hh with hh | hh
    · obtain ⟨r, h1, h2, -⟩ := sx_ad_ok (β := Bool) (-1) f g
      rw [h1] at hh
      have h3 := (sx_lo_ok h r).1
      have h4 := sx_p_t hh
      have h5 := h2 σ
      have h6 := hd g List.mem_cons_self
      omega
    · exact ih (fun g hg => hd g (List.mem_cons_of_mem _ hg)) hh
theorem sx_ge2_ok (h : sx_S sr n tb cs σ) {f : sx_F} : ∀ {ds : List sx_F}, (∀ g ∈ ds, 0 ≤ sx_d σ g) → sx_ge2 sr tb cs f ds = true → 0 ≤ sx_d σ f := by
  intro ds
  induction ds with
  | nil => intro _ hh; cases hh
  | cons g t ih =>
    intro hd hh
    replace hh : Bool.rec (motive := fun _ => Bool) (sx_ge2 sr tb cs f t) (sx_ad (-1) f g (fun r => sx_ge1 sr tb cs r) || sx_ge2 sr tb cs f t) (sx_shm f.2 g.2) = true := hh
    cases hs : sx_shm f.2 g.2 with
    | false => rw [hs] at hh; exact ih (fun g hg => hd g (List.mem_cons_of_mem _ hg)) hh
    | true =>
    rw [hs] at hh
    replace hh : (sx_ad (-1) f g (fun r => sx_ge1 sr tb cs r) || sx_ge2 sr tb cs f t) = true := hh
    rw [Bool.or_eq_true] at hh
    rcases hh with hh | hh
    · obtain ⟨r, h1, h2, -⟩ := sx_ad_ok (β := Bool) (-1) f g
      rw [h1] at hh
      have h4 := sx_ge1_ok h (fun g hg => (h.2.2 g hg).2) hh
      have h5 := h2 σ
      have h6 := hd g List.mem_cons_self
      omega
    · exact ih (fun g hg => hd g (List.mem_cons_of_mem _ hg)) hh
theorem sx_ge_ok (h : sx_S sr n tb cs σ) {lv : Nat} {f : sx_F} (hh : sx_ge lv sr tb cs f = true) : 0 ≤ sx_d σ f := by
  unfold sx_ge at hh
  rw [Bool.or_eq_true] at hh
  rcases hh with hh | hh
  · have := (sx_lo_ok h f).1
    have := sx_p_t hh
    omega
  · cases lv with
    | zero => cases hh
    | succ m =>
      have hh : (sx_ge1 sr tb cs f || Nat.rec (motive := fun _ => Bool) false (fun _ _ => sx_ge2 sr tb cs f cs) m) = true := hh
      rw [Bool.or_eq_true] at hh
      rcases hh with hh | hh
      · exact sx_ge1_ok h (fun g hg => (h.2.2 g hg).2) hh
      · cases m with
        | zero => cases hh
        | succ m => exact sx_ge2_ok h (fun g hg => (h.2.2 g hg).2) hh
/-- a form is not below 0: the stretches that follow; nothing is left to look at if that can't be. top: the greatest it can be by tb0 -/
noncomputable def sx_nr (sr : Nat → Int × Int) (tb0 : sx_T) (top : Int) (l : List (Nat × Int)) : sx_T → (sx_T → Bool) → Bool := List.rec (motive := fun _ => sx_T → (sx_T → Bool) → Bool) (fun tb k => k tb) (fun q _ ih tb k => Bool.rec (motive := fun _ => Bool)
    (Bool.rec (motive := fun _ => Bool) (ih tb k) (sx_fI ((top - q.2 * (sx_rg sr tb0 q.1).1) / (-q.2)) (fun u => Bool.rec (motive := fun _ => Bool) (ih tb k) (Bool.rec (motive := fun _ => Bool) true (sx_fI (sx_rg sr tb0 q.1).1 (fun w => ih ((q.1, w, u) :: tb) k)) (sx_p (u - (sx_rg sr tb0 q.1).1))) (sx_p ((sx_rg sr tb0 q.1).2 - 1 - u)))) (sx_p (-1 - q.2)))
    (sx_fI (-((top - q.2 * (sx_rg sr tb0 q.1).2) / q.2)) (fun u => Bool.rec (motive := fun _ => Bool) (ih tb k) (Bool.rec (motive := fun _ => Bool) true (sx_fI (sx_rg sr tb0 q.1).2 (fun w => ih ((q.1, u, w) :: tb) k)) (sx_p ((sx_rg sr tb0 q.1).2 - u))) (sx_p (u - 1 - (sx_rg sr tb0 q.1).1)))) (sx_p (q.2 - 1))) l
theorem sx_hil_at (h : ∀ s, (sx_rg sr tb s).1 ≤ σ s ∧ σ s ≤ (sx_rg sr tb s).2) : ∀ {l : List (Nat × Int)} {q : Nat × Int}, q ∈ l → (0 ≤ q.2 → sx_dl σ l ≤ sx_hil sr tb l - q.2 * (sx_rg sr tb q.1).2 + q.2 * σ q.1) ∧ (q.2 < 0 → sx_dl σ l ≤ sx_hil sr tb l - q.2 * (sx_rg sr tb q.1).1 + q.2 * σ q.1) := by
  intro l
  induction l with
  | nil => intro q hq; cases hq
  | cons q0 t ih =>
    intro q hq
    have e2 : sx_hil sr tb (q0 :: t) = Bool.rec (motive := fun _ => Int) (q0.2 * (sx_rg sr tb q0.1).1 + sx_hil sr tb t) (q0.2 * (sx_rg sr tb q0.1).2 + sx_hil sr tb t) (sx_p q0.2) := rfl
    have e3 : sx_dl σ (q0 :: t) = q0.2 * σ q0.1 + sx_dl σ t := rfl
    have h0 := h q0.1
    have ht := (sx_lol_ok h t).2
    rcases List.mem_cons.mp hq with rfl | hq
    · refine ⟨fun hc => ?_, fun hc => ?_⟩
      · cases hp : sx_p q.2 with
        | true => rw [hp] at e2; have e2 : sx_hil sr tb (q :: t) = q.2 * (sx_rg sr tb q.1).2 + sx_hil sr tb t := e2; omega
        | false => have := sx_p_f hp; omega
      · cases hp : sx_p q.2 with
        | true => have := sx_p_t hp; omega
        | false => rw [hp] at e2; have e2 : sx_hil sr tb (q :: t) = q.2 * (sx_rg sr tb q.1).1 + sx_hil sr tb t := e2; omega
    · obtain ⟨i1, i2⟩ := ih hq
      cases hp : sx_p q0.2 with
      | true =>
        rw [hp] at e2
        have e2 : sx_hil sr tb (q0 :: t) = q0.2 * (sx_rg sr tb q0.1).2 + sx_hil sr tb t := e2
        have h1 := sx_mulP (sx_p_t hp) h0.2
        exact ⟨fun hc => by have := i1 hc; omega, fun hc => by have := i2 hc; omega⟩
      | false =>
        rw [hp] at e2
        have e2 : sx_hil sr tb (q0 :: t) = q0.2 * (sx_rg sr tb q0.1).1 + sx_hil sr tb t := e2
        have h1 := sx_mulN (sx_p_f hp) h0.1
        exact ⟨fun hc => by have := i1 hc; omega, fun hc => by have := i2 hc; omega⟩
theorem sx_nr_ok {tb0 : sx_T} {top : Int} (h0 : ∀ s, (sx_rg sr tb0 s).1 ≤ σ s ∧ σ s ≤ (sx_rg sr tb0 s).2) : ∀ {l : List (Nat × Int)} {tb : sx_T} {k : sx_T → Bool}, (∀ q ∈ l, q.1 < n ∧ (0 ≤ q.2 → 0 ≤ top - q.2 * (sx_rg sr tb0 q.1).2 + q.2 * σ q.1) ∧ (q.2 < 0 → 0 ≤ top - q.2 * (sx_rg sr tb0 q.1).1 + q.2 * σ q.1)) → sx_nr sr tb0 top l tb k = true → (∀ q ∈ tb, q.1 < n ∧ q.2.1 ≤ σ q.1 ∧ σ q.1 ≤ q.2.2) → ∃ tb', k tb' = true ∧ ∀ q ∈ tb', q.1 < n ∧ q.2.1 ≤ σ q.1 ∧ σ q.1 ≤ q.2.2 := by
  intro l
  induction l with
  | nil => intro tb k _ hk ht; exact ⟨tb, hk, ht⟩
  | cons q t ih =>
    intro tb k hl hk ht
    obtain ⟨hqn, hP, hN⟩ := hl q List.mem_cons_self
    have hl2 : ∀ q ∈ t, q.1 < n ∧ (0 ≤ q.2 → 0 ≤ top - q.2 * (sx_rg sr tb0 q.1).2 + q.2 * σ q.1) ∧ (q.2 < 0 → 0 ≤ top - q.2 * (sx_rg sr tb0 q.1).1 + q.2 * σ q.1) := fun q hq => hl q (List.mem_cons_of_mem _ hq)
    have hs := h0 q.1
    have e : sx_nr sr tb0 top (q :: t) tb k = Bool.rec (motive := fun _ => Bool)
      (Bool.rec (motive := fun _ => Bool) (sx_nr sr tb0 top t tb k) (sx_fI ((top - q.2 * (sx_rg sr tb0 q.1).1) / (-q.2)) (fun u => Bool.rec (motive := fun _ => Bool) (sx_nr sr tb0 top t tb k) (Bool.rec (motive := fun _ => Bool) true (sx_fI (sx_rg sr tb0 q.1).1 (fun w => sx_nr sr tb0 top t ((q.1, w, u) :: tb) k)) (sx_p (u - (sx_rg sr tb0 q.1).1))) (sx_p ((sx_rg sr tb0 q.1).2 - 1 - u)))) (sx_p (-1 - q.2)))
      (sx_fI (-((top - q.2 * (sx_rg sr tb0 q.1).2) / q.2)) (fun u => Bool.rec (motive := fun _ => Bool) (sx_nr sr tb0 top t tb k) (Bool.rec (motive := fun _ => Bool) true (sx_fI (sx_rg sr tb0 q.1).2 (fun w => sx_nr sr tb0 top t ((q.1, u, w) :: tb) k)) (sx_p ((sx_rg sr tb0 q.1).2 - u))) (sx_p (u - 1 - (sx_rg sr tb0 q.1).1)))) (sx_p (q.2 - 1)) := rfl
    rw [e] at hk
    clear e
    cases hp : sx_p (q.2 - 1) with
    | true =>
      rw [hp] at hk
      have hc := sx_p_t hp
      have hk := (sx_fI_eq _ _).symm.trans hk
      have h1 : -(σ q.1) ≤ (top - q.2 * (sx_rg sr tb0 q.1).2) / q.2 := by
        apply Int.le_ediv_of_mul_le (by omega)
        have h2 := hP (by omega)
        have h3 : -(σ q.1) * q.2 = -(q.2 * σ q.1) := by rw [Int.neg_mul, Int.mul_comm]
        omega
      generalize hu : -((top - q.2 * (sx_rg sr tb0 q.1).2) / q.2) = u at hk
      have h4 : u ≤ σ q.1 := by omega
      cases hp2 : sx_p (u - 1 - (sx_rg sr tb0 q.1).1) with
      | false => rw [hp2] at hk; exact ih hl2 hk ht
      | true =>
        rw [hp2] at hk
        cases hp3 : sx_p ((sx_rg sr tb0 q.1).2 - u) with
        | false => have := sx_p_f hp3; omega
        | true =>
          rw [hp3] at hk
          have hk := (sx_fI_eq _ _).symm.trans hk
          refine ih hl2 hk (fun q2 hq2 => ?_)
          rcases List.mem_cons.mp hq2 with rfl | hq2
          · exact ⟨hqn, h4, hs.2⟩
          · exact ht q2 hq2
    | false =>
      rw [hp] at hk
      cases hp1 : sx_p (-1 - q.2) with
      | false => rw [hp1] at hk; exact ih hl2 hk ht
      | true =>
        rw [hp1] at hk
        have hc := sx_p_t hp1
        have hk := (sx_fI_eq _ _).symm.trans hk
        have h1 : σ q.1 ≤ (top - q.2 * (sx_rg sr tb0 q.1).1) / (-q.2) := by
          apply Int.le_ediv_of_mul_le (by omega)
          have h2 := hN (by omega)
          have h3 : σ q.1 * -q.2 = -(q.2 * σ q.1) := by rw [Int.mul_neg, Int.mul_comm]
          omega
        generalize hu : (top - q.2 * (sx_rg sr tb0 q.1).1) / (-q.2) = u at hk h1
        cases hp2 : sx_p ((sx_rg sr tb0 q.1).2 - 1 - u) with
        | false => rw [hp2] at hk; exact ih hl2 hk ht
        | true =>
          rw [hp2] at hk
          cases hp3 : sx_p (u - (sx_rg sr tb0 q.1).1) with
          | false => have := sx_p_f hp3; omega
          | true =>
            rw [hp3] at hk
            have hk := (sx_fI_eq _ _).symm.trans hk
            refine ih hl2 hk (fun q2 hq2 => ?_)
            rcases List.mem_cons.mp hq2 with rfl | hq2
            · exact ⟨hqn, hs.1, h1⟩
            · exact ht q2 hq2
abbrev sx_KT : Type := sx_T → List sx_F → Bool
/-- a form is not below 0: what is known then -/
noncomputable def sx_asm (sr : Nat → Int × Int) (tb : sx_T) (cs : List sx_F) (f : sx_F) (k : sx_KT) : Bool := Bool.rec (motive := fun _ => Bool) (sx_fI (sx_hi sr tb f) (fun top => Bool.rec (motive := fun _ => Bool) true (match f.2 with
  | _ :: _ :: _ => Bool.rec (motive := fun _ => Bool) (Bool.rec (motive := fun _ => Bool) (sx_nr sr tb top f.2 tb (fun tb' => k tb' (f :: cs))) true (sx_ad (-1) (-1, []) f (fun g => sx_ge1 sr tb cs g))) (k tb cs) (sx_ge1 sr tb cs f)
  | _ => sx_nr sr tb top f.2 tb (fun tb' => k tb' cs)) (sx_p top))) (k tb cs) (sx_p (sx_lo sr tb f))
theorem sx_asm_ok {f : sx_F} {k : sx_KT} (h : sx_S sr n tb cs σ) (hb : sx_b n f) (hf : 0 ≤ sx_d σ f) (hh : sx_asm sr tb cs f k = true) : ∃ tb' cs', k tb' cs' = true ∧ sx_S sr n tb' cs' σ := by
  unfold sx_asm at hh
  cases hp : sx_p (sx_lo sr tb f) with
  | true => rw [hp] at hh; exact ⟨tb, cs, hh, h⟩
  | false =>
    rw [hp] at hh
    have hh := (sx_fI_eq _ _).symm.trans hh
    have hhi := (sx_lo_ok h f).2
    cases hp2 : sx_p (sx_hi sr tb f) with
    | false => have := sx_p_f hp2; omega
    | true =>
      rw [hp2] at hh
      have hrg := sx_S_rg h
      have hnr : ∀ {k2 : sx_T → Bool}, sx_nr sr tb (sx_hi sr tb f) f.2 tb k2 = true → ∃ tb', k2 tb' = true ∧ ∀ q ∈ tb', q.1 < n ∧ q.2.1 ≤ σ q.1 ∧ σ q.1 ≤ q.2.2 := fun hk => sx_nr_ok (n := n) (σ := σ) hrg (l := f.2) (tb := tb) (fun q hq => by
        obtain ⟨i1, i2⟩ := sx_hil_at hrg hq
        have e1 : sx_hi sr tb f = f.1 + sx_hil sr tb f.2 := rfl
        have e2 : sx_d σ f = f.1 + sx_dl σ f.2 := rfl
        exact ⟨hb q hq, fun hc => by have := i1 hc; omega, fun hc => by have := i2 hc; omega⟩) hk h.2.1
      have hcs : ∀ g ∈ cs, 0 ≤ sx_d σ g := fun g hg => (h.2.2 g hg).2
      split at hh
      · cases hg : sx_ge1 sr tb cs f with
        | true => rw [hg] at hh; exact ⟨tb, cs, hh, h⟩
        | false =>
          rw [hg] at hh
          cases hd : sx_ad (-1) (-1, []) f (fun g => sx_ge1 sr tb cs g) with
          | true =>
            obtain ⟨g, g1, g2, -⟩ := sx_ad_ok (β := Bool) (-1) (-1, []) f
            rw [g1] at hd
            have h9 := sx_ge1_ok h hcs hd
            have hd1 : sx_d σ ((-1, []) : sx_F) = -1 := by simp [sx_d, sx_dl]
            rw [g2, hd1] at h9
            omega
          | false =>
            rw [hd] at hh
            obtain ⟨tb', hk, ht⟩ := hnr hh
            refine ⟨tb', _, hk, h.1, ht, fun g hg => ?_⟩
            rcases List.mem_cons.mp hg with rfl | hg
            · exact ⟨hb, hf⟩
            · exact h.2.2 g hg
      · obtain ⟨tb', hk, ht⟩ := hnr hh
        exact ⟨tb', cs, hk, h.1, ht, h.2.2⟩
/-- a form is not 0 -/
noncomputable def sx_ne (sr : Nat → Int × Int) (tb : sx_T) (cs : List sx_F) (f : sx_F) (k : sx_KT) : Bool := Bool.rec (motive := fun _ => Bool) (Bool.rec (motive := fun _ => Bool) (k tb cs) (sx_ad (-1) (-1, []) f (fun g => sx_asm sr tb cs g k)) (sx_ad (-1) (0, []) f (fun g => sx_ge 1 sr tb cs g))) (sx_ad 1 (-1, []) f (fun g => sx_asm sr tb cs g k)) (sx_ge 1 sr tb cs f)
theorem sx_ne_ok {f : sx_F} {k : sx_KT} (h : sx_S sr n tb cs σ) (hb : sx_b n f) (hf : sx_d σ f ≠ 0) (hh : sx_ne sr tb cs f k = true) : ∃ tb' cs', k tb' cs' = true ∧ sx_S sr n tb' cs' σ := by
  unfold sx_ne at hh
  have hb1 : sx_b n ((-1, []) : sx_F) := fun q hq => by cases hq
  have hd1 : sx_d σ ((-1, []) : sx_F) = -1 := by simp [sx_d, sx_dl]
  have hd0 : sx_d σ ((0, []) : sx_F) = 0 := by simp [sx_d, sx_dl]
  cases hp : sx_ge 1 sr tb cs f with
  | true =>
    rw [hp] at hh
    have h0 := sx_ge_ok h hp
    obtain ⟨g, g1, g2, g3⟩ := sx_ad_ok (β := Bool) 1 (-1, []) f
    have hh := (g1 _).symm.trans hh
    exact sx_asm_ok h (g3 n hb1 hb) (by rw [g2, hd1]; omega) hh
  | false =>
    rw [hp] at hh
    cases hp2 : sx_ad (-1) (0, []) f (fun g => sx_ge 1 sr tb cs g) with
    | true =>
      rw [hp2] at hh
      obtain ⟨q, q1, q2, -⟩ := sx_ad_ok (β := Bool) (-1) (0, []) f
      rw [q1] at hp2
      have h0 := sx_ge_ok h hp2
      rw [q2, hd0] at h0
      obtain ⟨g, g1, g2, g3⟩ := sx_ad_ok (β := Bool) (-1) (-1, []) f
      have hh := (g1 _).symm.trans hh
      exact sx_asm_ok h (g3 n hb1 hb) (by rw [g2, hd1]; omega) hh
    | false => rw [hp2] at hh; exact ⟨tb, cs, hh, h⟩
/-- a form stands so to 0 -/
noncomputable def sx_cd (sr : Nat → Int × Int) (tb : sx_T) (cs : List sx_F) (c : ClassFile.Cond) (f : sx_F) (k : sx_KT) : Bool := match c with
  | .eq => sx_asm sr tb cs f (fun tb' cs' => sx_ad (-1) (0, []) f (fun g => sx_asm sr tb' cs' g k))
  | .ne => sx_ne sr tb cs f k
  | .ge => sx_asm sr tb cs f k
  | .lt => sx_ad (-1) (-1, []) f (fun g => sx_asm sr tb cs g k)
  | .gt => sx_ad 1 (-1, []) f (fun g => sx_asm sr tb cs g k)
  | .le => sx_ad (-1) (0, []) f (fun g => sx_asm sr tb cs g k)
def sx_ct1 (c : ClassFile.Cond) (x : Int) : Prop := match c with
  | .eq => x = 0
  | .ne => x ≠ 0
  | .ge => 0 ≤ x
  | .lt => x < 0
  | .gt => 0 < x
  | .le => x ≤ 0
theorem sx_cd_ok {c : ClassFile.Cond} {f : sx_F} {k : sx_KT} (h : sx_S sr n tb cs σ) (hb : sx_b n f) (hf : sx_ct1 c (sx_d σ f)) (hh : sx_cd sr tb cs c f k = true) : ∃ tb' cs', k tb' cs' = true ∧ sx_S sr n tb' cs' σ := by
  have hb1 : sx_b n ((-1, []) : sx_F) := fun q hq => by cases hq
  have hd1 : sx_d σ ((-1, []) : sx_F) = -1 := by simp [sx_d, sx_dl]
  have hb0 : sx_b n ((0, []) : sx_F) := fun q hq => by cases hq
  have hd0 : sx_d σ ((0, []) : sx_F) = 0 := by simp [sx_d, sx_dl]
  cases c with
  | eq =>
    have hf : sx_d σ f = 0 := hf
    replace hh : sx_asm sr tb cs f (fun tb' cs' => sx_ad (-1) (0, []) f (fun g => sx_asm sr tb' cs' g k)) = true := hh
    obtain ⟨tb1, cs1, hk, h1⟩ := sx_asm_ok h hb (by omega) hh
    obtain ⟨g, g1, g2, g3⟩ := sx_ad_ok (β := Bool) (-1) (0, []) f
    have hk := (g1 _).symm.trans hk
    exact sx_asm_ok h1 (g3 n hb0 hb) (by rw [g2, hd0]; omega) hk
  | ne => exact sx_ne_ok h hb hf hh
  | ge => exact sx_asm_ok h hb hf hh
  | lt =>
    have hf : sx_d σ f < 0 := hf
    replace hh : sx_ad (-1) (-1, []) f (fun g => sx_asm sr tb cs g k) = true := hh
    obtain ⟨g, g1, g2, g3⟩ := sx_ad_ok (β := Bool) (-1) (-1, []) f
    have hh := (g1 _).symm.trans hh
    exact sx_asm_ok h (g3 n hb1 hb) (by rw [g2, hd1]; omega) hh
  | gt =>
    have hf : 0 < sx_d σ f := hf
    replace hh : sx_ad 1 (-1, []) f (fun g => sx_asm sr tb cs g k) = true := hh
    obtain ⟨g, g1, g2, g3⟩ := sx_ad_ok (β := Bool) 1 (-1, []) f
    have hh := (g1 _).symm.trans hh
    exact sx_asm_ok h (g3 n hb1 hb) (by rw [g2, hd1]; omega) hh
  | le =>
    have hf : sx_d σ f ≤ 0 := hf
    replace hh : sx_ad (-1) (0, []) f (fun g => sx_asm sr tb cs g k) = true := hh
    obtain ⟨g, g1, g2, g3⟩ := sx_ad_ok (β := Bool) (-1) (0, []) f
    have hh := (g1 _).symm.trans hh
    exact sx_asm_ok h (g3 n hb0 hb) (by rw [g2, hd0]; omega) hh
/-- a new symbol, of a stretch -/
def sx_up (σ : Nat → Int) (n : Nat) (v : Int) : Nat → Int := fun s => if s = n then v else σ s
theorem sx_up_al {v : Int} : sx_al n σ (sx_up σ n v) := fun s hs => by
  unfold sx_up
  rw [if_neg (Nat.ne_of_lt hs)]
theorem sx_up_n {v : Int} : sx_up σ n v n = v := by unfold sx_up; rw [if_pos rfl]
theorem sx_S_up {v lo hi : Int} (h : sx_S sr n tb cs σ) (hv : lo ≤ v ∧ v ≤ hi) (hr : (sr n).1 ≤ v ∧ v ≤ (sr n).2) : sx_S sr (n + 1) ((n, lo, hi) :: tb) cs (sx_up σ n v) := by
  refine ⟨fun s => ?_, fun q hq => ?_, fun f hf => ?_⟩
  · unfold sx_up
    by_cases e : s = n
    · rw [if_pos e, e]; exact hr
    · rw [if_neg e]; exact h.1 s
  · rcases List.mem_cons.mp hq with rfl | hq
    · show n < n + 1 ∧ lo ≤ sx_up σ n v n ∧ sx_up σ n v n ≤ hi
      rw [sx_up_n]
      exact ⟨Nat.lt_succ_self n, hv⟩
    · obtain ⟨h1, h2⟩ := h.2.1 q hq
      rw [← sx_up_al q.1 h1]
      exact ⟨Nat.lt_succ_of_lt h1, h2⟩
  · obtain ⟨h1, h2⟩ := h.2.2 f hf
    refine ⟨sx_b_m h1 (Nat.le_succ n), ?_⟩
    rw [← sx_d_al sx_up_al h1]
    exact h2
theorem sx_S_m {m : Nat} (h : sx_S sr n tb cs σ) (hm : n ≤ m) : sx_S sr m tb cs σ := ⟨h.1, fun q hq => ⟨Nat.lt_of_lt_of_le (h.2.1 q hq).1 hm, (h.2.1 q hq).2⟩, fun f hf => ⟨sx_b_m (h.2.2 f hf).1 hm, (h.2.2 f hf).2⟩⟩
end SXS
