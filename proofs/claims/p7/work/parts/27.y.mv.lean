/-! WORDS that rules and contracts use -/
section SXU0
variable {n : Nat} {tb : sx_T} {cs : List sx_F} {hp : sx_Hp} {σ τ : Nat → Int} {h : List rv_C}
theorem sx_d0 (σ : Nat → Int) : sx_d σ ((0, []) : sx_F) = 0 := by simp [sx_d, sx_dl]
theorem sx_dl_c {ρ1 ρ2 : Nat → Int} : ∀ {l : List (Nat × Int)}, (∀ q ∈ l, ρ1 q.1 = ρ2 q.1) → sx_dl ρ1 l = sx_dl ρ2 l := by
  intro l
  induction l with
  | nil => intro _; rfl
  | cons q t ih =>
    intro hq
    show q.2 * ρ1 q.1 + sx_dl ρ1 t = q.2 * ρ2 q.1 + sx_dl ρ2 t
    rw [hq q List.mem_cons_self, ih (fun q h => hq q (List.mem_cons_of_mem _ h))]
theorem sx_d_cg {ρ1 ρ2 : Nat → Int} {f : sx_F} (hq : ∀ q ∈ f.2, ρ1 q.1 = ρ2 q.1) : sx_d ρ1 f = sx_d ρ2 f := by
  unfold sx_d
  rw [sx_dl_c hq]
theorem sx_frs_ok : ∀ {fs : List (Nat × Int × Int)} {n : Nat} {tb : sx_T} {σ : Nat → Int} {k : Nat → sx_T → Bool} (vals : Nat → Int), (∀ i q, fs[i]? = some q → q.2.1 ≤ vals i ∧ vals i ≤ q.2.2 ∧ -9223372036854775808 ≤ vals i ∧ vals i ≤ 9223372036854775807) → sx_S sx_sr n tb cs σ → sx_wide sx_sr n → sx_frs fs n tb k = true → ∃ tb' σ', k (n + fs.length) tb' = true ∧ sx_S sx_sr (n + fs.length) tb' cs σ' ∧ sx_al n σ σ' ∧ ∀ i, i < fs.length → σ' (n + i) = vals i := by
  intro fs
  induction fs with
  | nil => intro n tb σ k vals _ hS _ hh; exact ⟨tb, σ, hh, hS, sx_al_r, fun i hi => absurd hi (Nat.not_lt_zero i)⟩
  | cons q t ih =>
    intro n tb σ k vals hv hS hw hh
    replace hh : rv_fN (n + 1) (fun m => sx_frs t m ((n, q.2.1, q.2.2) :: tb) k) = true := hh
    rw [rv_fN_eq] at hh
    have hv0 := hv 0 q rfl
    have hs := hw n (Nat.le_refl n)
    have hS1 := sx_S_up (v := vals 0) hS ⟨hv0.1, hv0.2.1⟩ ⟨by omega, by omega⟩
    obtain ⟨tb', σ', h1, h2, h3, h4⟩ := ih (fun i => vals (i + 1)) (fun i q2 hi => hv (i + 1) q2 (by simpa using hi)) hS1 (fun m hm => hw m (by omega)) hh
    have hl : n + 1 + t.length = n + (q :: t).length := by rw [List.length_cons]; omega
    rw [hl] at h1 h2
    refine ⟨tb', σ', h1, h2, fun s hs => (sx_up_al s hs).trans (h3 s (by omega)), fun i hi => ?_⟩
    cases i with
    | zero =>
      rw [Nat.add_zero, ← h3 n (Nat.lt_succ_self n)]
      exact sx_up_n
    | succ i =>
      rw [show n + (i + 1) = n + 1 + i by omega]
      exact h4 i (by rw [List.length_cons] at hi; omega)
theorem sx_asl_ok {θ : Nat → sx_F} {n : Nat} {σ : Nat → Int} {k : sx_KT} : ∀ {l : List sx_F} {tb : sx_T} {cs : List sx_F}, sx_asl θ l tb cs k = true → sx_S sx_sr n tb cs σ → (∀ f ∈ l, (∀ q ∈ f.2, sx_b n (θ q.1)) ∧ 0 ≤ sx_d (fun s => sx_d σ (θ s)) f) → ∃ tb' cs', k tb' cs' = true ∧ sx_S sx_sr n tb' cs' σ := by
  intro l
  induction l with
  | nil => intro tb cs hh hS _; exact ⟨tb, cs, hh, hS⟩
  | cons f t ih =>
    intro tb cs hh hS hl
    replace hh : sx_sb θ f (fun g => sx_asm sx_sr tb cs g (fun tb' cs' => sx_asl θ t tb' cs' k)) = true := hh
    obtain ⟨g, g1, g2, g3⟩ := sx_sb_ok (β := Bool) θ f
    rw [g1] at hh
    obtain ⟨hb, hf⟩ := hl f List.mem_cons_self
    obtain ⟨tb1, cs1, hk, hS1⟩ := sx_asm_ok hS (g3 n hb) (by rw [g2]; exact hf) hh
    exact ih hk hS1 (fun f hf => hl f (List.mem_cons_of_mem _ hf))
theorem sx_mds_ok {θ : Nat → sx_F} {n : Nat} {σ : Nat → Int} : ∀ {l : List (Nat × sx_F)} {hp : sx_Hp} {k : sx_Hp → Bool}, sx_mds θ l hp k = true → (∀ q ∈ l, ∀ p ∈ q.2.2, sx_b n (θ p.1)) → (∀ q ∈ hp, sx_b n q.2) → ∃ hp', k hp' = true ∧ (∀ q ∈ hp', sx_b n q.2) ∧ ∀ c, sx_d σ (sx_hg hp' c) = if (∃ q ∈ l, q.1 = c) then sx_d (fun s => sx_d σ (θ s)) (sx_hg l c) else sx_d σ (sx_hg hp c) := by
  intro l
  induction l with
  | nil => intro hp k hh _ hb; exact ⟨hp, hh, hb, fun c => by rw [if_neg (fun ⟨q, hq, _⟩ => by cases hq)]⟩
  | cons q t ih =>
    intro hp k hh hl hb
    replace hh : sx_mds θ t hp (fun hp' => sx_sb θ q.2 (fun g => sx_hs hp' q.1 g k)) = true := hh
    obtain ⟨hp1, hk, hb1, h1⟩ := ih hh (fun q hq => hl q (List.mem_cons_of_mem _ hq)) hb
    obtain ⟨g, g1, g2, g3⟩ := sx_sb_ok (β := Bool) θ q.2
    rw [g1] at hk
    obtain ⟨hp2, e1, e2, e3⟩ := sx_hs_eq (c := q.1) (f := g) hp1
    rw [e1] at hk
    refine ⟨hp2, hk, e3 n (g3 n (hl q List.mem_cons_self)) hb1, fun c => ?_⟩
    rw [e2]
    have eh : sx_hg (q :: t) c = Bool.rec (motive := fun _ => sx_F) (sx_hg t c) q.2 (q.1.beq c) := rfl
    by_cases hc : c = q.1
    · rw [if_pos hc, if_pos ⟨q, List.mem_cons_self, hc.symm⟩, eh, hc, Nat.beq_refl]
      exact g2 σ
    · rw [if_neg hc, h1, eh, show q.1.beq c = false from by
        cases hb : q.1.beq c with
        | false => rfl
        | true => exact absurd (Nat.eq_of_beq_eq_true hb).symm hc]
      by_cases ht : ∃ q ∈ t, q.1 = c
      · obtain ⟨q2, hq2, hq3⟩ := ht
        rw [if_pos ⟨q2, hq2, hq3⟩, if_pos ⟨q2, List.mem_cons_of_mem _ hq2, hq3⟩]
      · rw [if_neg ht, if_neg (fun ⟨q2, hq2, hq3⟩ => by
          rcases List.mem_cons.mp hq2 with rfl | hq2
          · exact hc hq3.symm
          · exact ht ⟨q2, hq2, hq3⟩)]
theorem sx_hg_k {l : sx_Hp} {c : Nat} (h : ¬ ∃ q ∈ l, q.1 = c) : sx_hg l c = (0, [(c, 1)]) := by
  induction l with
  | nil => rfl
  | cons q t ih =>
    have eh : sx_hg (q :: t) c = Bool.rec (motive := fun _ => sx_F) (sx_hg t c) q.2 (q.1.beq c) := rfl
    rw [eh, show q.1.beq c = false from by
      cases hb : q.1.beq c with
      | false => rfl
      | true => exact absurd ⟨q, List.mem_cons_self, Nat.eq_of_beq_eq_true hb⟩ h]
    exact ih (fun ⟨q2, h1, h2⟩ => h ⟨q2, List.mem_cons_of_mem _ h1, h2⟩)
theorem sx_blt_f {a b : Nat} (h : b ≤ a) : Nat.blt a b = false := by
  cases hb : Nat.blt a b with
  | false => rfl
  | true => have := sx_blt hb; omega
theorem sx_ble_f {a b : Nat} (h : b < a) : Nat.ble a b = false := by
  cases hb : Nat.ble a b with
  | false => rfl
  | true => have := Nat.le_of_ble_eq_true hb; omega
end SXU0
