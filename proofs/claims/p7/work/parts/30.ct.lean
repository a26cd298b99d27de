/-! CONTRACTS: their data, and how a walk uses them -/
/-- an argument: 0 an int, 1 a long, 2 a reference; its stretch, or the cells -/
abbrev sx_Sp : Type := Nat × Int × Int × List Nat
/-- one of the ways it may end: new symbols (where each stands then, its stretch), forms that are not below 0, the fields' forms, the answer (true: a long) -/
abbrev sx_Gr : Type := List (Nat × Int × Int) × List sx_F × List (Nat × sx_F) × Option (Bool × sx_F)
/-- its number, how deep it goes, its arguments, forms that must not be below 0, the ways it may end -/
abbrev sx_Cn : Type := Nat × Nat × List sx_Sp × List sx_F × List sx_Gr
/-- is it walked in place? which arguments are taken number by number; its contracts -/
abbrev sx_Me : Type := Bool × List Nat × List sx_Cn
noncomputable def sx_af (as : List sx_V) (i : Nat) : sx_F := match rv_nth as i with
  | some (.inl f) => f
  | some (.inr (.inl f)) => f
  | _ => (0, [])
/-- what a contract's symbols are here: the fields, the arguments, then the new ones -/
noncomputable def sx_t0 (hp : sx_Hp) (as : List sx_V) (s : Nat) : sx_F := Bool.rec (motive := fun _ => sx_F) (Bool.rec (motive := fun _ => sx_F) (0, []) (sx_af as (s - 19000)) (Nat.blt s 20000)) (sx_hg hp s) (Nat.blt s 19000)
noncomputable def sx_tu (hp : sx_Hp) (as : List sx_V) (n s : Nat) : sx_F := Bool.rec (motive := fun _ => sx_F) (sx_t0 hp as s) (0, [(n + (s - 1000000), 1)]) (Nat.ble 1000000 s)
noncomputable def sx_ams (lv : Nat) (tb : sx_T) (cs : List sx_F) (sps : List sx_Sp) (as : List sx_V) : Bool := match sps, as with
  | [], [] => true
  | (0, lo, hi, _) :: ps, .inl f :: t => sx_in lv tb cs lo hi f && sx_ams lv tb cs ps t
  | (1, lo, hi, _) :: ps, .inr (.inl f) :: t => sx_in lv tb cs lo hi f && sx_ams lv tb cs ps t
  | (2, _, _, qs) :: ps, .inr (.inr (.inr ks)) :: t => sx_sub ks qs && sx_ams lv tb cs ps t
  | _, _ => false
noncomputable def sx_rtv (θ : Nat → sx_F) (r : Option (Bool × sx_F)) (k : Option sx_V → Bool) : Bool := match r with
  | none => k none
  | some (false, f) => sx_sb θ f (fun g => k (some (sx_vi g)))
  | some (true, f) => sx_sb θ f (fun g => k (some (sx_vl g)))
noncomputable def sx_grp (as : List sx_V) (k : sx_Kr) (n : Nat) (tb : sx_T) (cs : List sx_F) (hp : sx_Hp) (g : sx_Gr) : Bool := sx_frs g.1 n tb (fun n' tb' => sx_asl (sx_tu hp as n) g.2.1 tb' cs (fun tb2 cs2 => sx_mds (sx_tu hp as n) g.2.2.1 hp (fun hp' => sx_rtv (sx_tu hp as n) g.2.2.2 (fun rv => k rv n' tb2 cs2 hp'))))
noncomputable def sx_use (lv B i0 : Nat) (as : List sx_V) (k : sx_Kr) (n : Nat) (tb : sx_T) (cs : List sx_F) (hp : sx_Hp) (c : sx_Cn) : Bool := Nat.blt c.1 i0 && Nat.ble c.2.1 B && sx_ams lv tb cs c.2.2.1 as && c.2.2.2.1.all (fun f => sx_sb (sx_t0 hp as) f (fun g => sx_ge lv sx_sr tb cs g)) && c.2.2.2.2.all (fun g => sx_grp as k n tb cs hp g)
/-! what a contract says -/
def sx_am (σ : Nat → Int) : Nat → List sx_Sp → List rv_A → Prop
  | _, [], [] => True
  | i, p :: ps, a :: t => (match p with
    | (0, lo, hi, _) => ∃ x : Int32, a = .inl x ∧ x.toInt = σ (19000 + i) ∧ lo ≤ x.toInt ∧ x.toInt ≤ hi
    | (1, lo, hi, _) => ∃ x : Int64, a = rv_lng x ∧ x.toInt = σ (19000 + i) ∧ lo ≤ x.toInt ∧ x.toInt ≤ hi
    | (_, _, _, qs) => ∃ q ∈ qs, a = rv_ref q) ∧ sx_am σ (i + 1) ps t
  | _, _, _ => False
def sx_rm (τ : Nat → Int) (r : Option (Bool × sx_F)) (o : Option rv_A) : Prop := match r, o with
  | none, none => True
  | some (false, f), some a => ∃ x : Int32, a = .inl x ∧ x.toInt = sx_d τ f
  | some (true, f), some a => ∃ x : Int64, a = rv_lng x ∧ x.toInt = sx_d τ f
  | _, _ => False
def sx_gm (σ : Nat → Int) (g : sx_Gr) (o : rv_O) : Prop := ∃ τ : Nat → Int, sx_al 20000 σ τ ∧ (∀ i q, g.1[i]? = some q → q.2.1 ≤ τ (1000000 + i) ∧ τ (1000000 + i) ≤ q.2.2) ∧ (∀ f ∈ g.2.1, 0 ≤ sx_d τ f) ∧ sx_H 2000000 τ g.2.2.1 o.2 ∧ sx_rm τ g.2.2.2 o.1
def sx_CtOK (l : Launch) (ρ : rv_ρ) (mi : Nat) (c : sx_Cn) : Prop := ∀ d, c.2.1 ≤ d → ∀ (as : List rv_A) (h : List rv_C) (σ : Nat → Int), sx_am σ 0 c.2.2.1 as → (∀ s, (sx_sr s).1 ≤ σ s ∧ σ s ≤ (sx_sr s).2) → sx_H 20000 σ [] h → (∀ f ∈ c.2.2.2.1, 0 ≤ sx_d σ f) → sx_Ct l ρ d mi as h (fun o => ∃ g ∈ c.2.2.2.2, sx_gm σ g o)
/-- its symbols are the fields, the arguments and m new ones -/
def sx_wf (m : Nat) (f : sx_F) : Bool := f.2.all (fun q => Nat.blt q.1 20000 || (Nat.ble 1000000 q.1 && Nat.blt q.1 (1000000 + m)))
def sx_wfo (m : Nat) (r : Option (Bool × sx_F)) : Bool := match r with
  | none => true
  | some q => sx_wf m q.2
noncomputable def sx_wfg (g : sx_Gr) : Bool := g.1.all (fun q => sx_p (q.2.1 + 9223372036854775808) && sx_p (9223372036854775807 - q.2.2)) && g.2.1.all (sx_wf g.1.length) && g.2.2.1.all (fun q => Nat.blt q.1 19000 && sx_wf g.1.length q.2) && sx_wfo g.1.length g.2.2.2
noncomputable def sx_wfc (c : sx_Cn) : Bool := c.2.2.2.1.all (sx_wf 0) && c.2.2.2.2.all sx_wfg
section SXU
variable {n : Nat} {tb : sx_T} {cs : List sx_F} {hp : sx_Hp} {σ τ : Nat → Int} {h : List rv_C}
theorem sx_wf_i {m : Nat} {f : sx_F} (h : sx_wf m f = true) : ∀ q ∈ f.2, q.1 < 20000 ∨ (1000000 ≤ q.1 ∧ q.1 < 1000000 + m) := by
  intro q hq
  have h1 := List.all_eq_true.mp h q hq
  rw [Bool.or_eq_true, Bool.and_eq_true] at h1
  rcases h1 with h1 | h1
  · exact Or.inl (sx_blt h1)
  · exact Or.inr ⟨Nat.le_of_ble_eq_true h1.1, sx_blt h1.2⟩
theorem sx_af_b {as : List sx_V} {ac : List rv_A} (ha : sx_vs n σ as ac) (i : Nat) : sx_b n (sx_af as i) ∧ -9223372036854775808 ≤ sx_d σ (sx_af as i) ∧ sx_d σ (sx_af as i) ≤ 9223372036854775807 := by
  have h0 : sx_b n ((0, []) : sx_F) ∧ -9223372036854775808 ≤ sx_d σ ((0, []) : sx_F) ∧ sx_d σ ((0, []) : sx_F) ≤ 9223372036854775807 := ⟨fun q hq => (by cases hq), by rw [sx_d0]; decide, by rw [sx_d0]; decide⟩
  unfold sx_af
  rw [rv_nth_eq]
  induction as generalizing ac i with
  | nil => rw [List.getElem?_nil]; exact h0
  | cons v t ih =>
    obtain ⟨a, s, rfl, hv, hs⟩ := sx_vs_c ha
    cases i with
    | zero =>
      rw [List.getElem?_cons_zero]
      rcases v with f | f | f | ks
      · obtain ⟨hb, x, -, hx⟩ := hv
        have := sx_r32 x
        exact ⟨hb, by rw [← hx]; omega, by rw [← hx]; omega⟩
      · obtain ⟨hb, x, -, hx⟩ := hv
        have := sx_r64 x
        exact ⟨hb, by rw [← hx]; omega, by rw [← hx]; omega⟩
      · exact h0
      · exact h0
    | succ i => rw [List.getElem?_cons_succ]; exact ih hs i
theorem sx_t0_lo {as : List sx_V} {s : Nat} (hs : s < 19000) : sx_t0 hp as s = sx_hg hp s := by
  unfold sx_t0
  rw [show Nat.blt s 19000 = true from Nat.ble_eq_true_of_le hs]
theorem sx_t0_hi {as : List sx_V} {s : Nat} (h1 : 19000 ≤ s) (hs : s < 20000) : sx_t0 hp as s = sx_af as (s - 19000) := by
  unfold sx_t0
  rw [sx_blt_f h1, show Nat.blt s 20000 = true from Nat.ble_eq_true_of_le hs]
theorem sx_t0_z {as : List sx_V} {s : Nat} (h1 : 20000 ≤ s) : sx_t0 hp as s = (0, []) := by
  unfold sx_t0
  rw [sx_blt_f (show 19000 ≤ s by omega), sx_blt_f h1]
theorem sx_t0_b {as : List sx_V} {ac : List rv_A} (hS : sx_St n tb cs hp σ h) (ha : sx_vs n σ as ac) (s : Nat) : sx_b n (sx_t0 hp as s) := by
  by_cases h1 : s < 19000
  · rw [sx_t0_lo h1]
    exact sx_hg_b (by have := hS.1; omega) hS.2.2.2.1
  · by_cases h2 : s < 20000
    · rw [sx_t0_hi (by omega) h2]
      exact (sx_af_b ha _).1
    · rw [sx_t0_z (by omega)]
      exact fun q hq => by cases hq
theorem sx_t0_sr {as : List sx_V} {ac : List rv_A} (hS : sx_St n tb cs hp σ h) (ha : sx_vs n σ as ac) (s : Nat) : (sx_sr s).1 ≤ sx_d σ (sx_t0 hp as s) ∧ sx_d σ (sx_t0 hp as s) ≤ (sx_sr s).2 := by
  by_cases h1 : s < 19000
  · rw [sx_t0_lo h1]
    exact hS.2.2.2.2.2.1 s h1
  · have hsr : sx_sr s = (-9223372036854775808, 9223372036854775807) := by
      unfold sx_sr
      rw [sx_blt_f (show 19000 ≤ s by omega)]
    rw [hsr]
    by_cases h2 : s < 20000
    · rw [sx_t0_hi (by omega) h2]
      exact (sx_af_b ha _).2
    · rw [sx_t0_z (by omega), sx_d0]
      exact ⟨by decide, by decide⟩
theorem sx_ams_ok {lv : Nat} {as0 : List sx_V} (hS : sx_S sx_sr n tb cs σ) : ∀ {sps : List sx_Sp} {as : List sx_V} {ac : List rv_A} {i : Nat}, sx_ams lv tb cs sps as = true → sx_vs n σ as ac → (∀ j, sx_af as j = sx_af as0 (i + j)) → i + as.length ≤ 1000 → sx_am (fun s => sx_d σ (sx_t0 hp as0 s)) i sps ac := by
  intro sps
  induction sps with
  | nil =>
    intro as ac i hh ha _ _
    cases as with
    | nil => rw [sx_vs_n ha]; exact True.intro
    | cons v t => unfold sx_ams at hh; cases hh
  | cons p ps ih =>
    intro as ac i hh ha hj hlen
    cases as with
    | nil =>
      obtain ⟨ty, lo, hi, qs⟩ := p
      match ty, hh with
      | 0, hh => unfold sx_ams at hh; cases hh
      | 1, hh => unfold sx_ams at hh; cases hh
      | 2, hh => unfold sx_ams at hh; cases hh
      | ty + 3, hh => unfold sx_ams at hh; cases hh
    | cons v t =>
      obtain ⟨a, s, rfl, hv, hs⟩ := sx_vs_c ha
      have hj2 : ∀ j, sx_af t j = sx_af as0 (i + 1 + j) := fun j => by
        have := hj (j + 1)
        rw [show i + (j + 1) = i + 1 + j by omega] at this
        rw [← this]
        unfold sx_af
        rw [rv_nth_eq, rv_nth_eq, List.getElem?_cons_succ]
      have hl2 : i + 1 + t.length ≤ 1000 := by rw [List.length_cons] at hlen; omega
      have h0 : sx_af (v :: t) 0 = sx_af as0 i := hj 0
      have hth : sx_t0 hp as0 (19000 + i) = sx_af as0 i := by
        rw [sx_t0_hi (by omega) (by rw [List.length_cons] at hlen; omega), show 19000 + i - 19000 = i by omega]
      obtain ⟨ty, lo, hi, qs⟩ := p
      rcases v with f | f | f | ks
      · match ty, hh with
        | 0, hh =>
          replace hh : (sx_in lv tb cs lo hi f && sx_ams lv tb cs ps t) = true := by unfold sx_ams at hh; exact hh
          rw [Bool.and_eq_true] at hh
          obtain ⟨hb, x, rfl, hx⟩ := hv
          have hin := sx_in_ok hS hh.1
          refine ⟨⟨x, rfl, ?_, by omega, by omega⟩, ih hh.2 hs hj2 hl2⟩
          show x.toInt = sx_d σ (sx_t0 hp as0 (19000 + i))
          rw [hth, ← h0]
          exact hx
        | 1, hh => unfold sx_ams at hh; cases hh
        | 2, hh => unfold sx_ams at hh; cases hh
        | ty + 3, hh => unfold sx_ams at hh; cases hh
      · match ty, hh with
        | 0, hh => unfold sx_ams at hh; cases hh
        | 1, hh =>
          replace hh : (sx_in lv tb cs lo hi f && sx_ams lv tb cs ps t) = true := by unfold sx_ams at hh; exact hh
          rw [Bool.and_eq_true] at hh
          obtain ⟨hb, x, rfl, hx⟩ := hv
          have hin := sx_in_ok hS hh.1
          refine ⟨⟨x, rfl, ?_, by omega, by omega⟩, ih hh.2 hs hj2 hl2⟩
          show x.toInt = sx_d σ (sx_t0 hp as0 (19000 + i))
          rw [hth, ← h0]
          exact hx
        | 2, hh => unfold sx_ams at hh; cases hh
        | ty + 3, hh => unfold sx_ams at hh; cases hh
      · match ty, hh with
        | 0, hh => unfold sx_ams at hh; cases hh
        | 1, hh => unfold sx_ams at hh; cases hh
        | 2, hh => unfold sx_ams at hh; cases hh
        | ty + 3, hh => unfold sx_ams at hh; cases hh
      · match ty, hh with
        | 0, hh => unfold sx_ams at hh; cases hh
        | 1, hh => unfold sx_ams at hh; cases hh
        | 2, hh =>
          replace hh : (sx_sub ks qs && sx_ams lv tb cs ps t) = true := by unfold sx_ams at hh; exact hh
          rw [Bool.and_eq_true] at hh
          obtain ⟨q, hq, rfl⟩ := hv
          exact ⟨⟨q, sx_sub_i hh.1 hq, rfl⟩, ih hh.2 hs hj2 hl2⟩
        | ty + 3, hh => unfold sx_ams at hh; cases hh
end SXU
