/-! WORDS for the rules' proofs -/
section SXRL
variable {S S' F F' T T' R R' TF TF' TT TT' SF SF' ST ST' SY SY' : Nat → Int}
theorem sx_au_o {A : Nat → Nat → Int} {q j i : Nat} {y : Int} (h : i ≠ j) : sx_au A q j y q i = A q i := by
  rw [sx_au_eq]
  show (if i = j then y else A q i) = _
  rw [if_neg h]
theorem sx_au_s {A : Nat → Nat → Int} {q j i : Nat} {y : Int} (h : i = j) : sx_au A q j y q i = y := by
  rw [sx_au_eq]
  show (if i = j then y else A q i) = _
  rw [if_pos h]
theorem sx_hk_c {m m' k k' : Nat} {v v' : Int} (h : sx_hk S m k v) (e1 : m' = m) (e2 : k' = k) (e3 : v' = v) : sx_hk S m' k' v' := by
  subst e1; subst e2; subst e3; exact h
theorem sx_hk_sh : ∀ {m k k' : Nat} {v : Int}, (∀ i, i < m → S' (k' + i) = S (k + i)) → sx_hk S m k v → sx_hk S' m k' v := by
  intro m
  induction m with
  | zero => intro k k' v _ _; exact True.intro
  | succ m ih =>
    intro k k' v hS h
    have h0 : S' k' = S k := hS 0 (Nat.succ_pos m)
    have hi : ∀ i, i < m → S' (k' + 1 + i) = S (k + 1 + i) := fun i hi => by
      have := hS (i + 1) (by omega)
      rw [show k' + (i + 1) = k' + 1 + i by omega, show k + (i + 1) = k + 1 + i by omega] at this
      exact this
    unfold sx_hk at h ⊢
    rw [h0]
    by_cases e : S k ≤ 1
    · rw [if_pos e] at h ⊢; exact ih hi h
    · rw [if_neg e] at h ⊢; exact ⟨h.1, ih hi h.2⟩
theorem sx_hf_sh : ∀ {m k k' : Nat} {v : Int}, (∀ i, i < m → S' (k' + i) = S (k + i)) → sx_hf S' m k' v = sx_hf S m k v := by
  intro m
  induction m with
  | zero => intro k k' v _; rfl
  | succ m ih =>
    intro k k' v hS
    have h0 : S' k' = S k := hS 0 (Nat.succ_pos m)
    have hi : ∀ i, i < m → S' (k' + 1 + i) = S (k + 1 + i) := fun i hi => by
      have := hS (i + 1) (by omega)
      rw [show k' + (i + 1) = k' + 1 + i by omega, show k + (i + 1) = k + 1 + i by omega] at this
      exact this
    unfold sx_hf
    rw [h0]
    by_cases e : S k ≤ 1
    · rw [if_pos e, if_pos e]; exact ih hi
    · rw [if_neg e, if_neg e]; exact ih hi
theorem sx_hk_ap : ∀ {m k : Nat} {v : Int}, sx_hk S m k v → (S (k + m) ≤ 1 ∨ 2 ≤ sx_hf S m k v) → sx_hk S (m + 1) k v ∧ sx_hf S (m + 1) k v = if S (k + m) ≤ 1 then sx_hf S m k v + 1 else sx_hf S m k v - 1 := by
  intro m
  induction m with
  | zero =>
    intro k v _ h
    rw [Nat.add_zero] at h ⊢
    show (if S k ≤ 1 then True else 2 ≤ v ∧ True) ∧ (if S k ≤ 1 then v + 1 else v - 1) = if S k ≤ 1 then v + 1 else v - 1
    refine ⟨?_, rfl⟩
    by_cases e : S k ≤ 1
    · rw [if_pos e]; exact True.intro
    · rw [if_neg e]
      rcases h with h | h
      · exact absurd h e
      · exact ⟨h, True.intro⟩
  | succ m ih =>
    intro k v h h2
    have e1 : k + (m + 1) = k + 1 + m := by omega
    rw [e1] at h2 ⊢
    unfold sx_hk at h
    by_cases e : S k ≤ 1
    · rw [if_pos e] at h
      have e2 : sx_hf S (m + 1) k v = sx_hf S m (k + 1) (v + 1) := by
        show (if S k ≤ 1 then _ else _) = _
        rw [if_pos e]
      rw [e2] at h2 ⊢
      obtain ⟨i1, i2⟩ := ih h h2
      refine ⟨?_, ?_⟩
      · show (if S k ≤ 1 then _ else _)
        rw [if_pos e]
        exact i1
      · show (if S k ≤ 1 then _ else _) = _
        rw [if_pos e]
        exact i2
    · rw [if_neg e] at h
      have e2 : sx_hf S (m + 1) k v = sx_hf S m (k + 1) (v - 1) := by
        show (if S k ≤ 1 then _ else _) = _
        rw [if_neg e]
      rw [e2] at h2 ⊢
      obtain ⟨i1, i2⟩ := ih h.2 h2
      refine ⟨?_, ?_⟩
      · show (if S k ≤ 1 then _ else _)
        rw [if_neg e]
        exact ⟨h.1, i1⟩
      · show (if S k ≤ 1 then _ else _) = _
        rw [if_neg e]
        exact i2
theorem sx_ho_s {a b a' b' : Int} (h0 : 0 ≤ a) (h0' : 0 ≤ a') (e : b' - a' = b - a) (hS : ∀ i : Nat, a ≤ i → (i : Int) < b → S' (i + a'.toNat - a.toNat) = S i) (h : sx_ho S a b) : sx_ho S' a' b' := by
  unfold sx_ho at h ⊢
  rw [e]
  refine sx_hk_sh (fun i hi => ?_) h
  have := hS (a.toNat + i) (by omega) (by omega)
  rw [show a.toNat + i + a'.toNat - a.toNat = a'.toNat + i by omega] at this
  exact this
theorem sx_ho_c {a b : Int} (h0 : 0 ≤ a) (hS : ∀ i : Nat, a ≤ i → (i : Int) < b → S' i = S i) (h : sx_ho S a b) : sx_ho S' a b := sx_ho_s h0 h0 rfl (fun i h1 h2 => by rw [show i + a.toNat - a.toNat = i by omega]; exact hS i h1 h2) h
theorem sx_ho_e {a b a' b' : Int} (h : sx_ho S a b) (e1 : a' = a) (e2 : b' = b) : sx_ho S a' b' := by
  subst e1; subst e2; exact h
theorem sx_ho_0 {a b : Int} (h : b ≤ a) : sx_ho S a b := by
  unfold sx_ho
  rw [show (b - a).toNat = 0 by omega]
  exact True.intro
theorem sx_o1_c {a b b' : Int} {q : Nat} (h0 : 0 ≤ a) (hb : b ≤ b') (hS : ∀ i : Nat, a ≤ i → (i : Int) < b → S' i = S i) (hF : F' q = F q) (hT : T' q = T q) (hR : R' q = R q) (h : sx_o1 S F T R a b q) : sx_o1 S' F' T' R' a b' q := by
  obtain ⟨h1, h2, h3, h4, h5, h6⟩ := h
  unfold sx_o1
  rw [hF, hT, hR]
  exact ⟨h1, h2, h3, by omega, sx_ho_c (by omega) (fun i a1 a2 => hS i (by omega) (by omega)) h5, sx_ho_c (by omega) (fun i a1 a2 => hS i (by omega) (by omega)) h6⟩
theorem sx_s1_c {a b b' : Int} {s : Nat} (h0 : 0 ≤ a) (hb : b ≤ b') (hS : ∀ i : Nat, a ≤ i → (i : Int) < b → S' i = S i) (hF : SF' s = SF s) (hT : ST' s = ST s) (h : sx_s1 S SF ST a b s) : sx_s1 S' SF' ST' a b' s := by
  obtain ⟨h1, h2, h3, h4⟩ := h
  unfold sx_s1
  rw [hF, hT]
  exact ⟨h1, h2, by omega, sx_ho_c (by omega) (fun i a1 a2 => hS i (by omega) (by omega)) h4⟩
theorem sx_x1_c {D D' : Int} (hp : ∀ p : Nat, p < 8 → (p : Int) ≠ D' → (p : Int) ≠ D ∧ SY' p = SY p ∧ (∀ i : Nat, 320 * p ≤ i → i < 320 * p + 320 → S' i = S i) ∧ (∀ q : Nat, 160 * p ≤ q → q < 160 * p + 160 → F' q = F q ∧ T' q = T q ∧ R' q = R q) ∧ (∀ s : Nat, 12 * p ≤ s → s < 12 * p + 12 → TF' s = TF s ∧ TT' s = TT s ∧ SF' s = SF s ∧ ST' s = ST s)) (h : sx_x1 D S F T R TF TT SF ST SY) : sx_x1 D' S' F' T' R' TF' TT' SF' ST' SY' := by
  intro p hp8 hne
  obtain ⟨p1, p2, p3, p4, p5⟩ := hp p hp8 hne
  obtain ⟨h1, h2⟩ := h p hp8 p1
  rw [p2]
  refine ⟨h1, fun s s1 s2 => ?_⟩
  obtain ⟨b1, b2, b3, b4⟩ := p5 s s1 (by omega)
  obtain ⟨c1, c2, c3, c4, c5⟩ := h2 s s1 s2
  unfold sx_p1
  rw [b1, b2]
  refine ⟨sx_s1_c (by omega) (Int.le_refl _) (fun i a1 a2 => p3 i (by omega) (by omega)) b3 b4 c1, c2, c3, c4, fun q q1 q2 => ?_⟩
  obtain ⟨d1, d2, d3⟩ := p4 q (by omega) (by omega)
  exact sx_o1_c (by omega) (Int.le_refl _) (fun i a1 a2 => p3 i (by omega) (by omega)) d1 d2 d3 (c5 q q1 q2)
theorem sx_x2_z {D rK rV rE rQ rL rT0 rT1 rSq rSs rP rN rF : Int} (h1 : rE ≤ rK) (h2 : rQ < 0) (h3 : rT1 ≤ rT0) (h4 : rSq < 0) (h5 : rSs < 0) (h6 : rP < 0) : sx_x2 D rK rV rE rQ rL rT0 rT1 rSq rSs rP rN rF S F T R TT ST SY := by
  refine ⟨?_, fun h => (by omega), fun q a b => (by omega), fun h => (by omega), fun h => (by omega), fun h => (by omega)⟩
  rw [show (rE - rK).toNat = 0 by omega]
  exact True.intro
theorem sx_x5_0 {lw lI lV : Int} (h : lw = 0) : sx_x5 lw lI lV S F T R TF TT SF ST := ⟨fun e => (by omega), fun e => (by omega), fun e => (by omega), fun e => (by omega), fun e => (by omega), fun e => (by omega), fun e => (by omega), fun e => (by omega)⟩
theorem sx_x4_n {D cS cO cp cY yp : Int} (h : D < 0) : sx_x4 D cS cO cp cY yp S F T R TF TT SF ST := fun e => (by omega)
theorem sx_x3_c {w0 w1 wh wp wa tE sp sa sb tB sE : Int} (g0 : 2560 ≤ w0) (g1 : 2560 ≤ wa) (g2 : 2560 ≤ sa) (g3 : 1280 ≤ tE) (g4 : 96 ≤ sE) (hS : ∀ i : Nat, 2560 ≤ i → (i : Int) < w1 → S' i = S i) (hO : ∀ q : Nat, 1280 ≤ q → F' q = F q ∧ T' q = T q ∧ R' q = R q) (hY : ∀ s : Nat, 96 ≤ s → TF' s = TF s ∧ TT' s = TT s ∧ SF' s = SF s ∧ ST' s = ST s) (h : sx_x3 w0 w1 wh wp wa tE sp sa sb tB sE S F T R TF TT SF ST) : sx_x3 w0 w1 wh wp wa tE sp sa sb tB sE S' F' T' R' TF' TT' SF' ST' := by
  obtain ⟨h1, h2, h3, h4, h5, h6, h7, h8, h9, h10⟩ := h
  have hO' := hO tE.toNat (by omega)
  have hY' := hY sE.toNat (by omega)
  refine ⟨h1, sx_ho_c (by omega) (fun i a b => hS i (by omega) b) h2, ?_, fun e => ?_, fun e => ?_, fun q a b => ?_, fun e => ?_, fun e => ?_, fun e => ?_, fun s a b => ?_⟩
  · rw [← h3]
    exact sx_hf_sh (fun i hi => hS (w0.toNat + i) (by omega) (by omega))
  · rw [hO'.1]; exact h4 e
  · rw [hO'.2.1]
    exact ⟨(h5 e).1, sx_ho_c (by omega) (fun i a b => hS i (by omega) (by omega)) (h5 e).2⟩
  · obtain ⟨b1, b2, b3⟩ := hO q a
    exact sx_o1_c (by omega) (Int.le_refl _) (fun i a1 a2 => hS i (by omega) a2) b1 b2 b3 (h6 q a b)
  · rw [hY'.2.2.1]; exact h7 e
  · rw [hY'.2.2.2]
    obtain ⟨a1, a2, a3, a4⟩ := h8 e
    exact ⟨a1, a2, a3, sx_ho_c (by omega) (fun i a b => hS i (by omega) (by omega)) a4⟩
  · rw [hY'.1]; exact h9 e
  · obtain ⟨b1, b2, b3, b4⟩ := hY s a
    obtain ⟨c1, c2⟩ := h10 s a b
    rw [b1, b2]
    exact ⟨sx_s1_c (by omega) (Int.le_refl _) (fun i a1 a2 => hS i (by omega) a2) b3 b4 c1, c2⟩
-- the rooms
theorem sx_cnt_0 (c : Nat) : (0 : Int) ≤ (sx_cnt c : Int) := Int.natCast_nonneg _
theorem sx_all_i : ∀ {m k : Nat} {f : Nat → Nat} {p : Nat}, (∀ i, i < p → f i + 1 ≤ k) → (∀ j, p ≤ j → j < p + m → f j = 0 ∨ ∃ i, i < j ∧ f j ≤ f i + 1) → (List.range' p m).map f ∈ sx_all m k := by
  intro m
  induction m with
  | zero => intro k f p _ _; exact List.Mem.head _
  | succ m ih =>
    intro k f p h1 h2
    have e : (List.range' p (m + 1)).map f = f p :: (List.range' (p + 1) m).map f := by rw [List.range'_succ]; rfl
    rw [e]
    unfold sx_all
    have hk : f p ≤ k := by
      rcases h2 p (Nat.le_refl p) (by omega) with h | ⟨i, h3, h4⟩
      · omega
      · have := h1 i h3
        omega
    refine List.mem_flatMap.mpr ⟨f p, List.mem_range.mpr (by omega), List.mem_map.mpr ⟨_, ih (p := p + 1) (fun i hi => ?_) (fun j a b => h2 j (by omega) (by omega)), rfl⟩⟩
    by_cases e2 : i = p
    · rw [e2]; exact Nat.le_max_right _ _
    · exact Nat.le_trans (h1 i (by omega)) (Nat.le_max_left _ _)
theorem sx_t8_e (u : Int) (f : Nat → Int) : sx_t8 u f = (List.range' 0 8).map (sx_tr u f) := rfl
theorem sx_t8_i {u : Int} {f : Nat → Int} (h : ∀ j : Nat, (j : Int) < u → 0 ≤ f j ∧ f j ≤ j ∧ (f j = 0 ∨ ∃ i, i < j ∧ f j ≤ f i + 1)) : sx_t8 u f ∈ sx_all 8 0 := by
  rw [sx_t8_e]
  refine sx_all_i (fun i hi => absurd hi (Nat.not_lt_zero i)) (fun j _ _ => ?_)
  unfold sx_tr
  by_cases e : (j : Int) < u
  · rw [if_pos e]
    obtain ⟨h1, h2, h3⟩ := h j e
    rcases h3 with h3 | ⟨i, h3, h4⟩
    · left; omega
    · right
      refine ⟨i, h3, ?_⟩
      rw [if_pos (by omega)]
      have := h i (by omega)
      omega
  · rw [if_neg e]; left; rfl
theorem sx_cnt_lt {l : List Nat} (hl : l ∈ sx_all 8 0) {c : Nat} (hc : sx_c8 l < c) : sx_cnt (sx_c8 l) + 1 ≤ sx_cnt c := by
  unfold sx_cnt
  have gen : ∀ (L : List (List Nat)), l ∈ L → L.countP (fun x => Nat.blt (sx_c8 x) (sx_c8 l)) + 1 ≤ L.countP (fun x => Nat.blt (sx_c8 x) c) := by
    intro L
    induction L with
    | nil => intro h; cases h
    | cons x t ih =>
      intro h
      have mono : ∀ (L : List (List Nat)), L.countP (fun x => Nat.blt (sx_c8 x) (sx_c8 l)) ≤ L.countP (fun x => Nat.blt (sx_c8 x) c) := fun L => List.countP_mono_left (fun x _ hx => by
        have : sx_c8 x + 1 ≤ sx_c8 l := Nat.le_of_ble_eq_true hx
        exact Nat.ble_eq_true_of_le (by omega))
      rw [List.countP_cons, List.countP_cons]
      rcases List.mem_cons.mp h with e | e
      · subst e
        have h1 : Nat.blt (sx_c8 l) (sx_c8 l) = false := by
          cases hb : Nat.blt (sx_c8 l) (sx_c8 l) with
          | false => rfl
          | true => have : sx_c8 l + 1 ≤ sx_c8 l := Nat.le_of_ble_eq_true hb; omega
        have h2 : Nat.blt (sx_c8 l) c = true := Nat.ble_eq_true_of_le hc
        rw [h1, h2]
        have := mono t
        simp
        exact this
      · have i1 := ih e
        cases hb : Nat.blt (sx_c8 x) (sx_c8 l) with
        | false =>
          cases Nat.blt (sx_c8 x) c with
          | false => simp; exact i1
          | true => simp; omega
        | true =>
          have : sx_c8 x + 1 ≤ sx_c8 l := Nat.le_of_ble_eq_true hb
          have h2 : Nat.blt (sx_c8 x) c = true := Nat.ble_eq_true_of_le (by omega)
          rw [h2]
          simp
          omega
  exact gen _ hl
theorem sx_all_l : (sx_all 8 0).length = 4140 := by decide +kernel
theorem sx_cnt_b {l : List Nat} (hl : l ∈ sx_all 8 0) : sx_cnt (sx_c8 l) ≤ 4139 := by
  have h1 := sx_cnt_lt hl (c := sx_c8 l + 1) (by omega)
  have h2 : sx_cnt (sx_c8 l + 1) ≤ 4140 := by
    unfold sx_cnt
    rw [← sx_all_l]
    exact List.countP_le_length
  omega
theorem sx_c8_lt {u u' : Int} {f f' : Nat → Int} {j : Nat} (h : ∀ j : Nat, (j : Int) < u → 0 ≤ f j ∧ f j ≤ j) (hj : j < 8) (hu : (j : Int) < u) (hu8 : u ≤ 8) (hu' : u' = j + 1) (hf : ∀ i, i ≠ j → f' i = f i) (hf2 : f' j = f j + 1) : sx_c8 (sx_t8 u f) < sx_c8 (sx_t8 u' f') := by
  have hb : ∀ i, i < 8 → sx_tr u f i ≤ 7 := fun i hi => by
    unfold sx_tr
    by_cases e : (i : Int) < u
    · rw [if_pos e]; have := h i e; omega
    · rw [if_neg e]; omega
  have hl : ∀ i, i < j → sx_tr u' f' i = sx_tr u f i := fun i hi => by
    unfold sx_tr
    rw [if_pos (by omega), if_pos (by omega), hf i (by omega)]
  have he : sx_tr u' f' j = sx_tr u f j + 1 := by
    unfold sx_tr
    rw [if_pos (by omega), if_pos hu, hf2]
    have := h j hu
    omega
  have hz : ∀ i, j < i → sx_tr u' f' i = 0 := fun i hi => by
    unfold sx_tr
    rw [if_neg (by omega)]
  have b0 := hb 0 (by decide)
  have b1 := hb 1 (by decide)
  have b2 := hb 2 (by decide)
  have b3 := hb 3 (by decide)
  have b4 := hb 4 (by decide)
  have b5 := hb 5 (by decide)
  have b6 := hb 6 (by decide)
  have b7 := hb 7 (by decide)
  have ex : ∀ (u : Int) (f : Nat → Int), sx_c8 (sx_t8 u f) = (((((((0 * 10 + sx_tr u f 0) * 10 + sx_tr u f 1) * 10 + sx_tr u f 2) * 10 + sx_tr u f 3) * 10 + sx_tr u f 4) * 10 + sx_tr u f 5) * 10 + sx_tr u f 6) * 10 + sx_tr u f 7 := fun _ _ => rfl
  rw [ex, ex]
  match j, hj, hl, he, hz with
  | 0, _, hl, he, hz => rw [he, hz 1 (by decide), hz 2 (by decide), hz 3 (by decide), hz 4 (by decide), hz 5 (by decide), hz 6 (by decide), hz 7 (by decide)]; omega
  | 1, _, hl, he, hz => rw [hl 0 (by decide), he, hz 2 (by decide), hz 3 (by decide), hz 4 (by decide), hz 5 (by decide), hz 6 (by decide), hz 7 (by decide)]; omega
  | 2, _, hl, he, hz => rw [hl 0 (by decide), hl 1 (by decide), he, hz 3 (by decide), hz 4 (by decide), hz 5 (by decide), hz 6 (by decide), hz 7 (by decide)]; omega
  | 3, _, hl, he, hz => rw [hl 0 (by decide), hl 1 (by decide), hl 2 (by decide), he, hz 4 (by decide), hz 5 (by decide), hz 6 (by decide), hz 7 (by decide)]; omega
  | 4, _, hl, he, hz => rw [hl 0 (by decide), hl 1 (by decide), hl 2 (by decide), hl 3 (by decide), he, hz 5 (by decide), hz 6 (by decide), hz 7 (by decide)]; omega
  | 5, _, hl, he, hz => rw [hl 0 (by decide), hl 1 (by decide), hl 2 (by decide), hl 3 (by decide), hl 4 (by decide), he, hz 6 (by decide), hz 7 (by decide)]; omega
  | 6, _, hl, he, hz => rw [hl 0 (by decide), hl 1 (by decide), hl 2 (by decide), hl 3 (by decide), hl 4 (by decide), hl 5 (by decide), he, hz 7 (by decide)]; omega
  | 7, _, hl, he, hz => rw [hl 0 (by decide), hl 1 (by decide), hl 2 (by decide), hl 3 (by decide), hl 4 (by decide), hl 5 (by decide), hl 6 (by decide), he]; omega
  | j + 8, hj, _, _, _ => omega
end SXRL
theorem sx_gdn_x {n : Nat} (h0 : n ≠ 0) : sx_gdn n ↔ (1 ≤ n % 32 ∧ n % 32 ≤ 26) ∧ sx_gdn (n / 32) := by
  have e : ∀ k, n / 32 ^ (k + 1) = n / 32 / 32 ^ k := fun k => by rw [Nat.pow_succ, Nat.mul_comm, Nat.div_div_eq_div_mul]
  constructor
  · intro h
    refine ⟨?_, fun k hk => ?_⟩
    · have h1 := h 0 (by rw [Nat.pow_zero, Nat.div_one]; exact h0)
      rw [Nat.pow_zero, Nat.div_one] at h1
      exact h1
    · have h1 := h (k + 1) (by rw [e]; exact hk)
      rw [e] at h1
      exact h1
  · rintro ⟨h1, h2⟩ k hk
    cases k with
    | zero => rw [Nat.pow_zero, Nat.div_one]; exact h1
    | succ k =>
      rw [e] at hk ⊢
      exact h2 k hk
theorem sx_gdn_0 : sx_gdn 0 := fun k hk => absurd (Nat.zero_div _) hk
theorem sx_gdn_s {l q q' : Int} (h1 : 32 * q + 1 ≤ l) (h2 : l ≤ 32 * q + 26) (h3 : 0 ≤ q ∧ q' = q) : sx_gdn l.toNat ↔ sx_gdn q'.toNat := by
  rw [sx_gdn_x (show l.toNat ≠ 0 by omega), show l.toNat / 32 = q'.toNat by omega]
  exact ⟨fun h => h.2, fun h => ⟨by omega, h⟩⟩
theorem sx_gdn_b {l : Int} (h1 : 1 ≤ l) (h2 : l % 32 = 0 ∨ 27 ≤ l % 32) : ¬ sx_gdn l.toNat := by
  rw [sx_gdn_x (show l.toNat ≠ 0 by omega)]
  rintro ⟨h, -⟩
  omega
