/-! THE WALK IS RIGHT: fields -/
theorem sx_blt {a b : Nat} (h : Nat.blt a b = true) : a < b := Nat.le_of_ble_eq_true h
theorem sx_leq_i : ∀ {a b : List Nat}, sx_leq a b = true → a = b := by
  intro a
  induction a with
  | nil => intro b h; cases b with
    | nil => rfl
    | cons y t => cases h
  | cons x s ih => intro b h; cases b with
    | nil => cases h
    | cons y t =>
      have h : (x.beq y && sx_leq s t) = true := h
      rw [Bool.and_eq_true] at h
      rw [Nat.eq_of_beq_eq_true h.1, ih h.2]
theorem sx_zz {x y : Int} (h : sx_z (x - y) = true) : x = y := by
  have := sx_z_t h
  omega
theorem sx_fde_i {a b : sx_Fd} (h : sx_fde a b = true) : a = b := by
  unfold sx_fde at h
  simp only [Bool.and_eq_true] at h
  obtain ⟨⟨⟨h1, h2⟩, h3⟩, h4⟩ := h
  obtain ⟨a1, a2, a3, a4⟩ := a
  obtain ⟨b1, b2, b3, b4⟩ := b
  have e1 : a1 = b1 := Nat.eq_of_beq_eq_true h1
  have e2 : a2 = b2 := sx_zz h2
  have e3 : a3 = b3 := sx_zz h3
  have e4 : a4 = b4 := sx_leq_i h4
  rw [e1, e2, e3, e4]
theorem sx_oks_i {a b q : Nat} {fd : sx_Fd} {ks : List Nat} (h : sx_oks a b fd ks = true) (hq : q ∈ ks) : q < 143 ∧ (sx_cell.get q).1 = a ∧ a < 100 ∧ fd = sx_fld.get (q * 128 + b) := by
  unfold sx_oks at h
  rw [Bool.and_eq_true] at h
  have h1 := List.all_eq_true.mp h.2 q hq
  simp only [Bool.and_eq_true] at h1
  exact ⟨sx_blt h1.1.1, Nat.eq_of_beq_eq_true h1.1.2, sx_blt h.1, sx_fde_i h1.2⟩
/-- the object that a reference names -/
theorem sx_obj {h : List rv_C} (hI : sx_I h) {a b q : Nat} {fd : sx_Fd} {ks : List Nat} (ho : sx_oks a b fd ks = true) (hq : q ∈ ks) (hb : Nat.blt b (sx_nfl.get a) = true) : ∃ fs v, rv_hget h q = some (.inl (a, fs)) ∧ h[q]? = some (.inl (a, fs)) ∧ b < fs.length ∧ fs[b]? = some v ∧ sx_fok fd v ∧ fd = sx_fld.get (q * 128 + b) ∧ q < 143 := by
  obtain ⟨h1, h2, h3, h4⟩ := sx_oks_i ho hq
  obtain ⟨c, hc1, hc2, hc3⟩ := sx_I_at hI h1
  rcases c with ⟨ci, fs⟩ | ⟨t, m, dd, ups⟩
  · obtain ⟨g1, g2, g3, g4, g5⟩ := hc3
    have e : ci = a := by rw [← g1, h2]
    subst e
    have hl : b < fs.length := by rw [g3]; exact sx_blt hb
    refine ⟨fs, fs[b], hc1, hc2, hl, List.getElem?_eq_getElem hl, ?_, h4, h1⟩
    rw [h4]
    exact g5 b _ (List.getElem?_eq_getElem hl)
  · obtain ⟨g1, -⟩ := hc3
    omega
theorem sx_fv_at {h : List rv_C} {q a b : Nat} {fs : List rv_A} {v : rv_A} (hq : h[q]? = some (.inl (a, fs))) (hv : fs[b]? = some v) : sx_fv h q b = sx_num v := by
  unfold sx_fv
  rw [hq]
  dsimp only
  rw [hv]
section SXY
variable {l : Launch} {ρ : rv_ρ} {d : Nat} {m0 : Nat} {σ0 : Nat → Int} {body : List rv_I} {nL rt : Nat} {Q : rv_O → Prop} {ih : sx_Kw} {rest : List rv_I} {ls : sx_Ls} {st : List sx_V} {n : Nat} {tb : sx_T} {cs : List sx_F} {hp : sx_Hp} {σ : Nat → Int} {lc : rv_L} {sc : List rv_A} {h : List rv_C} {code : List rv_I}
theorem sx_fri {lo hi : Int} {t : List sx_V} {s : List rv_A} {x : Int32} (hP : sx_P l ρ d m0 σ0 body nL rt Q ih) (hsf : sx_sf body rest) (hal : sx_ba m0 σ0 n σ) (hS : sx_St n tb cs hp σ h) (hls : sx_lm n σ ls lc) (hs : sx_vs n σ t s) (hx : lo ≤ x.toInt ∧ x.toInt ≤ hi) (hk : sx_fr lo hi n tb cs (fun f n' tb' cs' => ih rest ls (sx_vi f :: t) n' tb' cs' hp) = true) : sx_G l ρ d body nL rt rest lc (.inl x :: s) h Q := by
  have h32 := sx_r32 x
  exact sx_goi hP hsf (sx_fr_ok hS.2.1 (sx_wide_ok hS.1) hx ⟨by omega, by omega⟩ hk) hal hS hls hs
theorem sx_frl {lo hi : Int} {t : List sx_V} {s : List rv_A} {x : Int64} (hP : sx_P l ρ d m0 σ0 body nL rt Q ih) (hsf : sx_sf body rest) (hal : sx_ba m0 σ0 n σ) (hS : sx_St n tb cs hp σ h) (hls : sx_lm n σ ls lc) (hs : sx_vs n σ t s) (hx : lo ≤ x.toInt ∧ x.toInt ≤ hi) (hk : sx_fr lo hi n tb cs (fun f n' tb' cs' => ih rest ls (sx_vl f :: t) n' tb' cs' hp) = true) : sx_G l ρ d body nL rt rest lc (rv_lng x :: s) h Q := by
  have h64 := sx_r64 x
  exact sx_gol hP hsf (sx_fr_ok hS.2.1 (sx_wide_ok hS.1) hx ⟨by omega, by omega⟩ hk) hal hS hls hs
theorem sx_gf_ok {a b : Nat} (hP : sx_P l ρ d m0 σ0 body nL rt Q ih) (hsf : sx_sf body rest) (hh : sx_gf a b st n tb cs hp (fun r n' tb' cs' => ih rest ls r n' tb' cs' hp) = true) (hal : sx_ba m0 σ0 n σ) (hS : sx_St n tb cs hp σ h) (hls : sx_lm n σ ls lc) (hst : sx_vs n σ st sc) (hstp : ∀ (cl : sx_K) (ih' : rv_K), rv_step cl rv_nw rv_ct body nL rt ih' code lc sc h 0 0 = rv_gf a b h sc (fun r => ih' rest lc r h 0 0)) : sx_G l ρ d body nL rt code lc sc h Q := by
  unfold sx_gf at hh
  split at hh
  · rename_i k0 kt r
    obtain ⟨av, s, rfl, ⟨q, hq, rfl⟩, hs⟩ := sx_vs_c hst
    rw [Bool.and_eq_true, Bool.and_eq_true] at hh
    obtain ⟨⟨ho, hb⟩, hh⟩ := hh
    obtain ⟨fs, v, o1, o2, o3, o4, o5, o6, o7⟩ := sx_obj hS.2.2.1 ho hq hb
    refine sx_G_of (code' := rest) (ls' := lc) (st' := v :: s) (h' := h) (fun cl ih' => by rw [hstp]; exact rv_gf_f o1 o4) ?_
    have hfv := sx_fv_at o2 o4
    have htr : kt = [] → (sx_cell.get k0).2.1 = true → ∀ x, sx_num v = some x → x = sx_d σ (sx_hg hp (k0 * 128 + b)) := by
      intro hkt ht x hx
      subst hkt
      rcases List.mem_cons.mp hq with rfl | hq
      · exact hS.2.2.2.2.1 q b x ht (by rw [hfv]; exact hx)
      · cases hq
    have hbl : k0 < 143 := (sx_oks_i ho List.mem_cons_self).1
    have hb100 : b < 100 := by
      have := (hS.2.2.1.2 _ _ o2).2.2.2.1
      omega
    have hbd : sx_b n (sx_hg hp (k0 * 128 + b)) := sx_hg_b (by have := hS.1; omega) hS.2.2.2.1
    generalize sx_fld.get (k0 * 128 + b) = fd at hh o5
    obtain ⟨ty, lo, hi, qs⟩ := fd
    match ty, o5, hh with
    | 0, o5, hh =>
      obtain ⟨x, rfl, hx⟩ := o5
      cases kt with
      | nil =>
        replace hh : Bool.rec (motive := fun _ => Bool) (sx_fr lo hi n tb cs (fun f n' tb' cs' => ih rest ls (sx_vi f :: r) n' tb' cs' hp)) (ih rest ls (sx_vi (sx_hg hp (k0 * 128 + b)) :: r) n tb cs hp) (sx_cell.get k0).2.1 = true := hh
        cases ht : (sx_cell.get k0).2.1 with
        | false => rw [ht] at hh; exact sx_fri hP hsf hal hS hls hs hx hh
        | true => rw [ht] at hh; exact hP _ hsf _ _ _ _ _ _ σ lc _ h hh hal hS hls ⟨⟨hbd, x, rfl, htr rfl ht _ rfl⟩, hs⟩
      | cons k1 kt => exact sx_fri hP hsf hal hS hls hs hx hh
    | 1, o5, hh =>
      obtain ⟨x, rfl, hx⟩ := o5
      cases kt with
      | nil =>
        replace hh : Bool.rec (motive := fun _ => Bool) (sx_fr lo hi n tb cs (fun f n' tb' cs' => ih rest ls (sx_vi f :: r) n' tb' cs' hp)) (ih rest ls (sx_vi (sx_hg hp (k0 * 128 + b)) :: r) n tb cs hp) (sx_cell.get k0).2.1 = true := hh
        cases ht : (sx_cell.get k0).2.1 with
        | false => rw [ht] at hh; exact sx_fri hP hsf hal hS hls hs hx hh
        | true => rw [ht] at hh; exact hP _ hsf _ _ _ _ _ _ σ lc _ h hh hal hS hls ⟨⟨hbd, x, rfl, htr rfl ht _ rfl⟩, hs⟩
      | cons k1 kt => exact sx_fri hP hsf hal hS hls hs hx hh
    | 2, o5, hh =>
      obtain ⟨x, rfl, hx⟩ := o5
      cases kt with
      | nil =>
        replace hh : Bool.rec (motive := fun _ => Bool) (sx_fr lo hi n tb cs (fun f n' tb' cs' => ih rest ls (sx_vl f :: r) n' tb' cs' hp)) (ih rest ls (sx_vl (sx_hg hp (k0 * 128 + b)) :: r) n tb cs hp) (sx_cell.get k0).2.1 = true := hh
        cases ht : (sx_cell.get k0).2.1 with
        | false => rw [ht] at hh; exact sx_frl hP hsf hal hS hls hs hx hh
        | true => rw [ht] at hh; exact hP _ hsf _ _ _ _ _ _ σ lc _ h hh hal hS hls ⟨⟨hbd, x, rfl, htr rfl ht _ rfl⟩, hs⟩
      | cons k1 kt => exact sx_frl hP hsf hal hS hls hs hx hh
    | ty + 3, o5, hh =>
      obtain ⟨q2, hq2, rfl⟩ := o5
      exact hP _ hsf _ _ _ _ _ _ σ lc _ h hh hal hS hls ⟨⟨q2, hq2, rfl⟩, hs⟩
  · cases hh
theorem sx_sub_i {a b : List Nat} (h : sx_sub a b = true) {x : Nat} (hx : x ∈ a) : x ∈ b := by
  have h1 := List.all_eq_true.mp h x hx
  obtain ⟨y, hy, h2⟩ := List.any_eq_true.mp h1
  rw [Nat.eq_of_beq_eq_true h2]
  exact hy
/-- behind a store into a field -/
theorem sx_pu_ok {k0 b q a : Nat} {kt : List Nat} {f : sx_F} {fs : List rv_A} {v : rv_A} {x : Int} {k : sx_Hp → Bool} (hS : sx_St n tb cs hp σ h) (hq : q ∈ k0 :: kt) (o2 : h[q]? = some (.inl (a, fs))) (o3 : b < fs.length) (o5 : sx_fok (sx_fld.get (q * 128 + b)) v) (hx : sx_num v = some x) (hf : x = sx_d σ f) (hb : sx_b n f) (hh : sx_pu k0 kt b f hp k = true) : ∃ hp', k hp' = true ∧ sx_St n tb cs hp' σ (h.set q (.inl (a, fs.set b v))) := by
  unfold sx_pu at hh
  cases kt with
  | nil =>
    replace hh : Bool.rec (motive := fun _ => Bool) (k hp) (rv_fN (k0 * 128 + b) (fun c => sx_hs hp c f k)) (sx_cell.get k0).2.1 = true := hh
    rcases List.mem_cons.mp hq with rfl | hq
    · cases ht : (sx_cell.get q).2.1 with
      | false =>
        rw [ht] at hh
        exact ⟨hp, hh, hS.1, hS.2.1, sx_H_pu hS.2.2 o2 o3 o5 (Or.inl ht)⟩
      | true =>
        rw [ht] at hh
        have hh := (rv_fN_eq _ _).symm.trans hh
        obtain ⟨hp', e1, e2, e3⟩ := sx_hs_eq (c := q * 128 + b) (f := f) hp
        have hh := (e1 _).symm.trans hh
        exact ⟨hp', hh, hS.1, hS.2.1, sx_H_pf hS.2.2 o2 o3 o5 hx hf e2 (e3 n hb hS.2.2.2.1)⟩
    · cases hq
  | cons k1 kt =>
    replace hh : ((k0 :: k1 :: kt).all (fun q => !(sx_cell.get q).2.1) && k hp) = true := hh
    rw [Bool.and_eq_true] at hh
    have ht := List.all_eq_true.mp hh.1 q hq
    exact ⟨hp, hh.2, hS.1, hS.2.1, sx_H_pu hS.2.2 o2 o3 o5 (Or.inl (by simpa using ht))⟩
theorem sx_01 {x : Int32} (h0 : 0 ≤ x.toInt) (h1 : x.toInt ≤ 1) : rv_fit 1 (.inl x) = true := by
  show (true && decide ((0 : Int32) ≤ x) && decide (x ≤ 1)) = true
  rw [decide_eq_true (sx_cn h0), decide_eq_true (show x ≤ 1 from Int32.le_iff_toInt_le.mpr (by show x.toInt ≤ 1; exact h1))]
  rfl
theorem sx_pf_ok {lv a b t : Nat} (hP : sx_P l ρ d m0 σ0 body nL rt Q ih) (hsf : sx_sf body rest) (hh : sx_pf lv a b t st tb cs hp (fun r hp' => ih rest ls r n tb cs hp') = true) (hal : sx_ba m0 σ0 n σ) (hS : sx_St n tb cs hp σ h) (hls : sx_lm n σ ls lc) (hst : sx_vs n σ st sc) (hstp : ∀ (cl : sx_K) (ih' : rv_K), rv_step cl rv_nw rv_ct body nL rt ih' code lc sc h 0 0 = rv_pf a b t h sc (fun h' r => ih' rest lc r h' 0 0)) : sx_G l ρ d body nL rt code lc sc h Q := by
  unfold sx_pf at hh
  split at hh
  · rename_i v k0 kt r
    obtain ⟨av, s0, rfl, hv, hs0⟩ := sx_vs_c hst
    obtain ⟨ar, s, rfl, ⟨q, hq, rfl⟩, hs⟩ := sx_vs_c hs0
    rw [Bool.and_eq_true, Bool.and_eq_true] at hh
    obtain ⟨⟨ho, hb⟩, hh⟩ := hh
    obtain ⟨fs, v0, o1, o2, o3, o4, o5, o6, o7⟩ := sx_obj hS.2.2.1 ho hq hb
    have gofin : ∀ {hp' : sx_Hp}, ih rest ls r n tb cs hp' = true → sx_St n tb cs hp' σ (h.set q (.inl (a, fs.set b av))) → rv_fit t av = true → sx_G l ρ d body nL rt code lc (av :: rv_ref q :: s) h Q := by
      intro hp' hk hS' hft
      exact sx_G_of (code' := rest) (ls' := lc) (st' := s) (h' := h.set q (.inl (a, fs.set b av))) (fun cl ih' => by rw [hstp]; exact rv_pf_f o1 o3 hft) (hP _ hsf _ _ _ _ _ _ σ lc _ _ hk hal hS' hls hs)
    generalize hfd : sx_fld.get (k0 * 128 + b) = fd at hh o6 o5
    obtain ⟨ty, lo, hi, qs⟩ := fd
    replace hh : (ty.beq t && _) = true := hh
    rw [Bool.and_eq_true] at hh
    obtain ⟨hty, hh⟩ := hh
    have hty := Nat.eq_of_beq_eq_true hty
    subst hty
    split at hh
    · rename_i f
      rw [Bool.and_eq_true] at hh
      obtain ⟨hin, hh⟩ := hh
      obtain ⟨hbf, x, rfl, hx⟩ := hv
      have hin := sx_in_ok hS.2.1 hin
      obtain ⟨hp', hk, hS'⟩ := sx_pu_ok (v := .inl x) (x := x.toInt) hS hq o2 o3 (by rw [← o6]; exact ⟨x, rfl, by omega, by omega⟩) rfl hx hbf hh
      exact gofin hk hS' rfl
    · rename_i f
      rw [Bool.and_eq_true, Bool.and_eq_true] at hh
      obtain ⟨⟨hin1, hin⟩, hh⟩ := hh
      obtain ⟨hbf, x, rfl, hx⟩ := hv
      have hin := sx_in_ok hS.2.1 hin
      have hin1 := sx_in_ok hS.2.1 hin1
      obtain ⟨hp', hk, hS'⟩ := sx_pu_ok (v := .inl x) (x := x.toInt) hS hq o2 o3 (by rw [← o6]; exact ⟨x, rfl, by omega, by omega⟩) rfl hx hbf hh
      exact gofin hk hS' (sx_01 (by omega) (by omega))
    · rename_i f
      rw [Bool.and_eq_true] at hh
      obtain ⟨hin, hh⟩ := hh
      obtain ⟨hbf, x, rfl, hx⟩ := hv
      have hin := sx_in_ok hS.2.1 hin
      obtain ⟨hp', hk, hS'⟩ := sx_pu_ok (v := rv_lng x) (x := x.toInt) hS hq o2 o3 (by rw [← o6]; exact ⟨x, rfl, by omega, by omega⟩) rfl hx hbf hh
      exact gofin hk hS' rfl
    · rename_i ks
      rw [Bool.and_eq_true] at hh
      obtain ⟨hsb, hh⟩ := hh
      obtain ⟨qv, hqv, rfl⟩ := hv
      exact gofin hh ⟨hS.1, hS.2.1, sx_H_pu hS.2.2 o2 o3 (by rw [← o6]; exact ⟨qv, sx_sub_i hsb hqv, rfl⟩) (Or.inr rfl)⟩ rfl
    · cases hh
  · cases hh
end SXY
