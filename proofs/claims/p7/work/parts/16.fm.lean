/-! LINEAR FORMS over symbols -/
abbrev sx_F : Type := Int × List (Nat × Int)
def sx_dl (σ : Nat → Int) : List (Nat × Int) → Int
  | [] => 0
  | q :: t => q.2 * σ q.1 + sx_dl σ t
/-- what a form is worth -/
def sx_d (σ : Nat → Int) (f : sx_F) : Int := f.1 + sx_dl σ f.2
def sx_c (x : Int) : sx_F := (x, [])
def sx_s (s : Nat) : sx_F := (0, [(s, 1)])
/-- all its symbols are below n -/
def sx_b (n : Nat) (f : sx_F) : Prop := ∀ q ∈ f.2, q.1 < n
theorem sx_d_c (σ : Nat → Int) (x : Int) : sx_d σ (sx_c x) = x := by simp [sx_d, sx_c, sx_dl]
theorem sx_d_s (σ : Nat → Int) (s : Nat) : sx_d σ (sx_s s) = σ s := by simp [sx_d, sx_s, sx_dl]
theorem sx_b_c (n : Nat) (x : Int) : sx_b n (sx_c x) := fun q h => by cases h
theorem sx_b_s {n s : Nat} (h : s < n) : sx_b n (sx_s s) := fun q hq => by
  rcases List.mem_cons.mp hq with rfl | hq
  · exact h
  · cases hq
theorem sx_b_m {n m : Nat} {f : sx_F} (h : sx_b n f) (hm : n ≤ m) : sx_b m f := fun q hq => Nat.lt_of_lt_of_le (h q hq) hm
/-- two meanings that are alike below n -/
def sx_al (n : Nat) (σ τ : Nat → Int) : Prop := ∀ s, s < n → σ s = τ s
theorem sx_al_r {n : Nat} {σ : Nat → Int} : sx_al n σ σ := fun _ _ => rfl
theorem sx_al_t {n m : Nat} {σ τ υ : Nat → Int} (h1 : sx_al n σ τ) (h2 : sx_al m τ υ) (hm : n ≤ m) : sx_al n σ υ := fun s hs => (h1 s hs).trans (h2 s (Nat.lt_of_lt_of_le hs hm))
theorem sx_dl_al {n : Nat} {σ τ : Nat → Int} (h : sx_al n σ τ) : ∀ {l : List (Nat × Int)}, (∀ q ∈ l, q.1 < n) → sx_dl σ l = sx_dl τ l := by
  intro l
  induction l with
  | nil => intro _; rfl
  | cons q t ih =>
    intro hb
    show q.2 * σ q.1 + sx_dl σ t = q.2 * τ q.1 + sx_dl τ t
    rw [h q.1 (hb q List.mem_cons_self), ih (fun q hq => hb q (List.mem_cons_of_mem _ hq))]
theorem sx_d_al {n : Nat} {σ τ : Nat → Int} {f : sx_F} (h : sx_al n σ τ) (hb : sx_b n f) : sx_d σ f = sx_d τ f := by
  unfold sx_d
  rw [sx_dl_al h hb]
-- numbers are worked out before they go on
noncomputable def sx_fI {β : Type} (x : Int) (k : Int → β) : β := Int.rec (motive := fun _ => β) (fun n => rv_fN n (fun m => k (Int.ofNat m))) (fun n => rv_fN n (fun m => k (Int.negSucc m))) x
theorem sx_fI_eq {β : Type} (x : Int) (k : Int → β) : sx_fI x k = k x := by
  cases x with
  | ofNat n => exact rv_fN_eq n (fun m => k (Int.ofNat m))
  | negSucc n => exact rv_fN_eq n (fun m => k (Int.negSucc m))
/-- is it 0, is it not below 0 -/
noncomputable def sx_z (x : Int) : Bool := Int.rec (motive := fun _ => Bool) (fun n => n.beq 0) (fun _ => false) x
noncomputable def sx_p (x : Int) : Bool := Int.rec (motive := fun _ => Bool) (fun _ => true) (fun _ => false) x
theorem sx_z_t {x : Int} (h : sx_z x = true) : x = 0 := by
  cases x with
  | ofNat n => rw [Nat.eq_of_beq_eq_true (show n.beq 0 = true from h)]; rfl
  | negSucc n => cases h
theorem sx_z_f {x : Int} (h : sx_z x = false) : x ≠ 0 := by
  intro e
  subst e
  cases h
theorem sx_p_t {x : Int} (h : sx_p x = true) : 0 ≤ x := by
  cases x with
  | ofNat n => exact Int.natCast_nonneg n
  | negSucc n => cases h
theorem sx_p_f {x : Int} (h : sx_p x = false) : x < 0 := by
  cases x with
  | ofNat n => cases h
  | negSucc n => exact Int.negSucc_lt_zero n
-- a term more
noncomputable def sx_ins {β : Type} (s : Nat) (c : Int) (l : List (Nat × Int)) : (List (Nat × Int) → β) → β := List.rec (motive := fun _ => (List (Nat × Int) → β) → β) (fun k => k [(s, c)]) (fun q t ih k => Bool.rec (motive := fun _ => β) (ih (fun t' => k (q :: t'))) (sx_fI (q.2 + c) (fun z => Bool.rec (motive := fun _ => β) (k ((s, z) :: t)) (k t) (sx_z z))) (q.1.beq s)) l
noncomputable def sx_insD (s : Nat) (c : Int) (l : List (Nat × Int)) : List (Nat × Int) := sx_ins s c l (fun t => t)
theorem sx_ins_eq (s : Nat) (c : Int) : ∀ (l : List (Nat × Int)) {γ : Type} (k : List (Nat × Int) → γ), sx_ins s c l k = k (sx_insD s c l) := by
  intro l
  induction l with
  | nil => intro γ k; rfl
  | cons q t ih =>
    intro γ k
    show Bool.rec (motive := fun _ => γ) (sx_ins s c t (fun t' => k (q :: t'))) (sx_fI (q.2 + c) (fun z => Bool.rec (motive := fun _ => γ) (k ((s, z) :: t)) (k t) (sx_z z))) (q.1.beq s) = k (Bool.rec (motive := fun _ => List (Nat × Int)) (sx_ins s c t (fun t' => q :: t')) (sx_fI (q.2 + c) (fun z => Bool.rec (motive := fun _ => List (Nat × Int)) ((s, z) :: t) t (sx_z z))) (q.1.beq s))
    cases q.1.beq s with
    | false =>
      show sx_ins s c t (fun t' => k (q :: t')) = k (sx_ins s c t (fun t' => q :: t'))
      rw [ih (fun t' => k (q :: t')), ih (fun t' => q :: t')]
    | true =>
      show sx_fI _ _ = k (sx_fI _ _)
      rw [sx_fI_eq, sx_fI_eq]
      cases sx_z (q.2 + c) <;> rfl
theorem sx_insD_ok (s : Nat) (c : Int) : ∀ (l : List (Nat × Int)), (∀ σ, sx_dl σ (sx_insD s c l) = sx_dl σ l + c * σ s) ∧ ∀ n, s < n → (∀ q ∈ l, q.1 < n) → ∀ q ∈ sx_insD s c l, q.1 < n := by
  intro l
  induction l with
  | nil =>
    refine ⟨fun σ => ?_, fun n hs _ q hq => ?_⟩
    · show c * σ s + 0 = 0 + c * σ s
      omega
    · rcases List.mem_cons.mp hq with rfl | hq
      · exact hs
      · cases hq
  | cons q t ih =>
    have e : sx_insD s c (q :: t) = Bool.rec (motive := fun _ => List (Nat × Int)) (sx_ins s c t (fun t' => q :: t')) (sx_fI (q.2 + c) (fun z => Bool.rec (motive := fun _ => List (Nat × Int)) ((s, z) :: t) t (sx_z z))) (q.1.beq s) := rfl
    cases hb : q.1.beq s with
    | false =>
      rw [hb] at e
      have e : sx_insD s c (q :: t) = sx_ins s c t (fun t' => q :: t') := e
      rw [sx_ins_eq] at e
      rw [e]
      refine ⟨fun σ => ?_, fun n hs hn q2 hq => ?_⟩
      · show q.2 * σ q.1 + sx_dl σ (sx_insD s c t) = q.2 * σ q.1 + sx_dl σ t + c * σ s
        rw [ih.1]
        omega
      · rcases List.mem_cons.mp hq with rfl | hq
        · exact hn _ List.mem_cons_self
        · exact ih.2 n hs (fun q hq => hn q (List.mem_cons_of_mem _ hq)) q2 hq
    | true =>
      rw [hb] at e
      have e : sx_insD s c (q :: t) = sx_fI (q.2 + c) (fun z => Bool.rec (motive := fun _ => List (Nat × Int)) ((s, z) :: t) t (sx_z z)) := e
      rw [sx_fI_eq] at e
      have hqs : q.1 = s := Nat.eq_of_beq_eq_true hb
      rw [e]
      cases hz : sx_z (q.2 + c) with
      | true =>
        refine ⟨fun σ => ?_, fun n hs hn q2 hq => hn q2 (List.mem_cons_of_mem _ hq)⟩
        show sx_dl σ t = q.2 * σ q.1 + sx_dl σ t + c * σ s
        have h0 := sx_z_t hz
        rw [hqs]
        have : q.2 * σ s + c * σ s = 0 := by rw [← Int.add_mul, h0, Int.zero_mul]
        omega
      | false =>
        refine ⟨fun σ => ?_, fun n hs hn q2 hq => ?_⟩
        · show (q.2 + c) * σ s + sx_dl σ t = q.2 * σ q.1 + sx_dl σ t + c * σ s
          rw [hqs, Int.add_mul]
          omega
        · rcases List.mem_cons.mp hq with rfl | hq
          · exact hs
          · exact hn q2 (List.mem_cons_of_mem _ hq)
-- a form, and so many times another
noncomputable def sx_adl {β : Type} (kb : Int) (b : List (Nat × Int)) : List (Nat × Int) → (List (Nat × Int) → β) → β := List.rec (motive := fun _ => List (Nat × Int) → (List (Nat × Int) → β) → β) (fun l k => k l) (fun q _ ih l k => sx_fI (kb * q.2) (fun c => rv_fN q.1 (fun s => sx_ins s c l (fun l' => ih l' k)))) b
noncomputable def sx_ad {β : Type} (kb : Int) (a b : sx_F) (k : sx_F → β) : β := sx_fI (a.1 + kb * b.1) (fun c => sx_adl kb b.2 a.2 (fun l => k (c, l)))
theorem sx_adl_ok {β : Type} (kb : Int) : ∀ (b l : List (Nat × Int)), ∃ r, (∀ k : List (Nat × Int) → β, sx_adl kb b l k = k r) ∧ (∀ σ, sx_dl σ r = sx_dl σ l + kb * sx_dl σ b) ∧ ∀ n, (∀ q ∈ b, q.1 < n) → (∀ q ∈ l, q.1 < n) → ∀ q ∈ r, q.1 < n := by
  intro b
  induction b with
  | nil => intro l; exact ⟨l, fun _ => rfl, fun σ => by show sx_dl σ l = sx_dl σ l + kb * 0; rw [Int.mul_zero, Int.add_zero], fun n _ h => h⟩
  | cons q t ih =>
    intro l
    obtain ⟨r, h1, h2, h3⟩ := ih (sx_insD q.1 (kb * q.2) l)
    obtain ⟨g1, g2⟩ := sx_insD_ok q.1 (kb * q.2) l
    refine ⟨r, fun k => ?_, fun σ => ?_, fun n hb hl => ?_⟩
    · show sx_fI (kb * q.2) (fun c => rv_fN q.1 (fun s => sx_ins s c l (fun l' => sx_adl kb t l' k))) = k r
      rw [sx_fI_eq, rv_fN_eq, sx_ins_eq]
      exact h1 k
    · rw [h2, g1]
      show sx_dl σ l + kb * q.2 * σ q.1 + kb * sx_dl σ t = sx_dl σ l + kb * (q.2 * σ q.1 + sx_dl σ t)
      rw [Int.mul_add, Int.mul_assoc, Int.add_assoc]
    · exact h3 n (fun q hq => hb q (List.mem_cons_of_mem _ hq)) (g2 n (hb q List.mem_cons_self) hl)
theorem sx_ad_ok {β : Type} (kb : Int) (a b : sx_F) : ∃ r, (∀ k : sx_F → β, sx_ad kb a b k = k r) ∧ (∀ σ, sx_d σ r = sx_d σ a + kb * sx_d σ b) ∧ ∀ n, sx_b n a → sx_b n b → sx_b n r := by
  obtain ⟨r, h1, h2, h3⟩ := sx_adl_ok (β := β) kb b.2 a.2
  refine ⟨(a.1 + kb * b.1, r), fun k => ?_, fun σ => ?_, fun n ha hb => h3 n hb ha⟩
  · show sx_fI _ _ = _
    rw [sx_fI_eq]
    exact h1 _
  · show a.1 + kb * b.1 + sx_dl σ r = a.1 + sx_dl σ a.2 + kb * (b.1 + sx_dl σ b.2)
    rw [h2, Int.mul_add]
    omega
-- other forms laid in for the symbols
noncomputable def sx_sbl {β : Type} (θ : Nat → sx_F) (b : List (Nat × Int)) : sx_F → (sx_F → β) → β := List.rec (motive := fun _ => sx_F → (sx_F → β) → β) (fun f k => k f) (fun q _ ih f k => sx_ad q.2 f (θ q.1) (fun g => ih g k)) b
noncomputable def sx_sb {β : Type} (θ : Nat → sx_F) (f : sx_F) (k : sx_F → β) : β := sx_sbl θ f.2 (f.1, []) k
theorem sx_sbl_ok {β : Type} (θ : Nat → sx_F) : ∀ (b : List (Nat × Int)) (f : sx_F), ∃ r, (∀ k : sx_F → β, sx_sbl θ b f k = k r) ∧ (∀ σ, sx_d σ r = sx_d σ f + sx_dl (fun s => sx_d σ (θ s)) b) ∧ ∀ n, (∀ q ∈ b, sx_b n (θ q.1)) → sx_b n f → sx_b n r := by
  intro b
  induction b with
  | nil => intro f; exact ⟨f, fun _ => rfl, fun σ => by show sx_d σ f = sx_d σ f + 0; omega, fun n _ h => h⟩
  | cons q t ih =>
    intro f
    obtain ⟨g, g1, g2, g3⟩ := sx_ad_ok (β := β) q.2 f (θ q.1)
    obtain ⟨r, h1, h2, h3⟩ := ih g
    refine ⟨r, fun k => ?_, fun σ => ?_, fun n hb hf => ?_⟩
    · show sx_ad q.2 f (θ q.1) (fun g => sx_sbl θ t g k) = k r
      rw [g1]
      exact h1 k
    · rw [h2, g2]
      show sx_d σ f + q.2 * sx_d σ (θ q.1) + sx_dl (fun s => sx_d σ (θ s)) t = sx_d σ f + (q.2 * sx_d σ (θ q.1) + sx_dl (fun s => sx_d σ (θ s)) t)
      omega
    · exact h3 n (fun q hq => hb q (List.mem_cons_of_mem _ hq)) (g3 n hf (hb q List.mem_cons_self))
theorem sx_sb_ok {β : Type} (θ : Nat → sx_F) (f : sx_F) : ∃ r, (∀ k : sx_F → β, sx_sb θ f k = k r) ∧ (∀ σ, sx_d σ r = sx_d (fun s => sx_d σ (θ s)) f) ∧ ∀ n, (∀ q ∈ f.2, sx_b n (θ q.1)) → sx_b n r := by
  obtain ⟨r, h1, h2, h3⟩ := sx_sbl_ok (β := β) θ f.2 (f.1, [])
  refine ⟨r, h1, fun σ => ?_, fun n hb => h3 n hb (fun q hq => by cases hq)⟩
  rw [h2]
  show f.1 + 0 + _ = _
  unfold sx_d
  omega
