/-! THE RULES AT WORK -/
noncomputable def sx_gfr (q : Nat) : Bool := match sx_rs.get q with
  | [] => true
  | _ => false
/-- behind a load of v out of place i of cell q -/
noncomputable def sx_gld (lv q : Nat) (i v : sx_F) (n : Nat) (tb : sx_T) (cs : List sx_F) (hp : sx_Hp) (k : sx_Kg) : Bool := sx_run lv i v n tb cs hp k (k v n tb cs hp) (sx_rl.get q)
/-- ahead of a store of v into place i of cell q -/
noncomputable def sx_gst (lv q : Nat) (i v : sx_F) (n : Nat) (tb : sx_T) (cs : List sx_F) (hp : sx_Hp) (k : Nat → sx_T → List sx_F → sx_Hp → Bool) : Bool := Bool.rec (motive := fun _ => Bool) (sx_run lv i v n tb cs hp (fun _ n' tb' cs' hp' => k n' tb' cs' hp') false (sx_rs.get q)) (k n tb cs hp) (sx_gfr q)
/-! WHAT THE NUMBERS SAY: A q j is the int at place j of cell q -/
def sx_au (A : Nat → Nat → Int) (q j : Nat) (y : Int) (q2 j2 : Nat) : Int := if q2 = q ∧ j2 = j then y else A q2 j2
def sx_th (γ : Nat → Int) (x y : Int) (w : Nat → Int) (s : Nat) : Int := if s < 19000 then γ s else if s = 19000 then x else if s = 19001 then y else w (s - 19002)
def sx_gu (γ θ : Nat → Int) : List (Nat × sx_F) → Nat → Int
  | [], c => γ c
  | q :: t, c => if c = q.1 then sx_d θ q.2 else sx_gu γ θ t c
def sx_gran (γ : Nat → Int) : Prop := ∀ s, s < 19000 → (sx_sr s).1 ≤ γ s ∧ γ s ≤ (sx_sr s).2
/-- a rule of cell q holds (st: a store) -/
def sx_okr (GG : (Nat → Int) → (Nat → Nat → Int) → Prop) (st : Bool) (q : Nat) (r : sx_Ru) : Prop := ∀ (γ : Nat → Int) (A : Nat → Nat → Int) (j : Nat) (y : Int), GG γ A → sx_gran γ → j < (sx_cell.get q).2.2.1 → (sx_cell.get q).2.2.2.1 ≤ y → y ≤ (sx_cell.get q).2.2.2.2.1 → (st = false → A q j = y) → (∀ f ∈ r.1, 0 ≤ sx_d (sx_th γ j y (fun _ => 0)) f) → ∃ a ∈ r.2, ∃ w : Nat → Int, (∀ (i : Nat) p, a.1[i]? = some p → p.2.1 ≤ w i ∧ w i ≤ p.2.2) ∧ (∀ f ∈ a.2.1, 0 ≤ sx_d (sx_th γ j y w) f) ∧ (∀ e, a.2.2.2.head? = some e → sx_d (sx_th γ j y w) e = y) ∧ GG (sx_gu γ (sx_th γ j y w) a.2.2.1) (if st = true then sx_au A q j y else A)
/-- a turn of the numbers at the head of a loop holds (19000: a local) -/
def sx_okm (GG : (Nat → Int) → (Nat → Nat → Int) → Prop) (r : sx_Ru) : Prop := ∀ (γ : Nat → Int) (A : Nat → Nat → Int) (x : Int), GG γ A → sx_gran γ → (∀ f ∈ r.1, 0 ≤ sx_d (sx_th γ x 0 (fun _ => 0)) f) → ∃ a ∈ r.2, ∃ w : Nat → Int, (∀ (i : Nat) p, a.1[i]? = some p → p.2.1 ≤ w i ∧ w i ≤ p.2.2) ∧ (∀ f ∈ a.2.1, 0 ≤ sx_d (sx_th γ x 0 w) f) ∧ GG (sx_gu γ (sx_th γ x 0 w) a.2.2.1) A
/-- a rule of a function of one number holds -/
def sx_okq (g : Int → Int) (GG : (Nat → Int) → (Nat → Nat → Int) → Prop) (r : sx_Ru) : Prop := ∀ (γ : Nat → Int) (A : Nat → Nat → Int) (x : Int), GG γ A → sx_gran γ → 0 ≤ x → x ≤ 9223372036854775807 → (∀ f ∈ r.1, 0 ≤ sx_d (sx_th γ x 0 (fun _ => 0)) f) → ∃ a ∈ r.2, ∃ w : Nat → Int, (∀ (i : Nat) p, a.1[i]? = some p → p.2.1 ≤ w i ∧ w i ≤ p.2.2) ∧ (∀ f ∈ a.2.1, 0 ≤ sx_d (sx_th γ x 0 w) f) ∧ (∃ e, a.2.2.2.head? = some e ∧ sx_d (sx_th γ x 0 w) e = g x) ∧ GG (sx_gu γ (sx_th γ x 0 w) a.2.2.1) A
/-- a rule of what two numbers have in common holds -/
def sx_okn (GG : (Nat → Int) → (Nat → Nat → Int) → Prop) (r : sx_Ru) : Prop := ∀ (γ : Nat → Int) (A : Nat → Nat → Int) (x y : Int), GG γ A → sx_gran γ → 0 ≤ x → x ≤ 255 → 0 ≤ y → y ≤ 255 → (∀ f ∈ r.1, 0 ≤ sx_d (sx_th γ x y (fun _ => 0)) f) → ∃ a ∈ r.2, ∃ w : Nat → Int, (∀ (i : Nat) p, a.1[i]? = some p → p.2.1 ≤ w i ∧ w i ≤ p.2.2) ∧ (∀ f ∈ a.2.1, 0 ≤ sx_d (sx_th γ x y w) f) ∧ (∃ e, a.2.2.2.head? = some e ∧ sx_d (sx_th γ x y w) e = ((x.toNat &&& y.toNat : Nat) : Int)) ∧ GG (sx_gu γ (sx_th γ x y w) a.2.2.1) A
