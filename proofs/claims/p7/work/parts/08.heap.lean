/-! cells -/
def rv_Ar (ρ : rv_ρ) (L : List Nat) (cA : Nat → ClassId) (t n : Nat) (d : rv_A) (ups : List (Nat × rv_A)) (e : va_E) : Prop := match t with
  | 0 => ∃ f : Nat → Int32, e = .inl (cA 0, n, .inl f) ∧ ∀ j, j < n → rv_V ρ L (rv_el d ups j) (.int (f j))
  | 1 => ∃ f : Nat → Int64, e = .inl (cA 1, n, .inr (.inl f)) ∧ ∀ j, j < n → rv_V ρ L (rv_el d ups j) (.long (f j))
  | 2 => ∃ f : Nat → Int32, e = .inl (cA 2, n, .inl f) ∧ ∀ j, j < n → rv_V ρ L (rv_el d ups j) (.int (f j))
  | 3 => ∃ f : Nat → Int32, e = .inl (cA 3, n, .inl f) ∧ ∀ j, j < n → rv_V ρ L (rv_el d ups j) (.int (f j))
  | 4 => ∃ f : Nat → Option Nat, e = .inl (cA 4, n, .inr (.inr (.inr (.inr f)))) ∧ ∀ j, j < n → rv_V ρ L (rv_el d ups j) (va_rf (f j))
  | 5 => ∃ f : Nat → Option Nat, e = .inl (cA 5, n, .inr (.inr (.inr (.inr f)))) ∧ ∀ j, j < n → rv_V ρ L (rv_el d ups j) (va_rf (f j))
  | _ => False
def rv_E (ρ : rv_ρ) (L : List Nat) (cA : Nat → ClassId) (c : rv_C) (e : va_E) : Prop := match c with
  | .inl (ci, fs) => ∃ vs, e = .inr (ci, vs) ∧ rv_Vs ρ L fs vs
  | .inr (t, n, d, ups) => rv_Ar ρ L cA t n d ups e
def rv_Ws (ρ : rv_ρ) (L : List Nat) (cA : Nat → ClassId) : List rv_C → va_W → Prop
  | [], [] => True
  | c :: cs, q :: ws => rv_E ρ L cA c q.2 ∧ rv_Ws ρ L cA cs ws
  | _, _ => False
section RVH
variable {ρ : rv_ρ} {L L' : List Nat} {cA : Nat → ClassId}
theorem rv_Ws_c {c : rv_C} {cs : List rv_C} {ws : va_W} (h : rv_Ws ρ L cA (c :: cs) ws) : ∃ q t, ws = q :: t ∧ rv_E ρ L cA c q.2 ∧ rv_Ws ρ L cA cs t := by
  cases ws with
  | nil => cases h
  | cons v vs => exact ⟨v, vs, rfl, h.1, h.2⟩
theorem rv_Ws_n {ws : va_W} (h : rv_Ws ρ L cA [] ws) : ws = [] := by
  cases ws with
  | nil => rfl
  | cons v vs => cases h
theorem rv_Ws_len : ∀ {h : List rv_C} {ws : va_W}, rv_Ws ρ L cA h ws → h.length = ws.length := by
  intro h
  induction h with
  | nil => intro ws h; rw [rv_Ws_n h]; rfl
  | cons c t ih =>
    intro ws h
    obtain ⟨q, t', rfl, -, h2⟩ := rv_Ws_c h
    rw [List.length_cons, List.length_cons, ih h2]
theorem rv_Ws_at {c : rv_C} : ∀ {h : List rv_C} {ws : va_W} {k : Nat}, rv_Ws ρ L cA h ws → h[k]? = some c → ∃ q e, ws[k]? = some (q, e) ∧ rv_E ρ L cA c e := by
  intro h
  induction h with
  | nil => intro ws k _ hk; simp at hk
  | cons c0 t ih =>
    intro ws k h hk
    obtain ⟨q, t', rfl, h1, h2⟩ := rv_Ws_c h
    cases k with
    | zero => simp at hk; subst hk; exact ⟨q.1, q.2, by simp, h1⟩
    | succ k =>
      obtain ⟨a, e, e1, e2⟩ := ih (k := k) h2 (by simpa using hk)
      exact ⟨a, e, by simpa using e1, e2⟩
theorem rv_Ws_set {c : rv_C} {q : Nat} {e : va_E} (he : rv_E ρ L cA c e) : ∀ {h : List rv_C} {ws : va_W} (k : Nat), rv_Ws ρ L cA h ws → rv_Ws ρ L cA (h.set k c) (ws.set k (q, e)) := by
  intro h
  induction h with
  | nil => intro ws k h; rw [rv_Ws_n h]; exact True.intro
  | cons c0 t ih =>
    intro ws k h
    obtain ⟨q, t', rfl, h1, h2⟩ := rv_Ws_c h
    cases k with
    | zero => exact ⟨he, h2⟩
    | succ k => exact ⟨h1, ih k h2⟩
theorem rv_Ws_app {c : rv_C} {q : Nat} {e : va_E} (he : rv_E ρ L cA c e) : ∀ {h : List rv_C} {ws : va_W}, rv_Ws ρ L cA h ws → rv_Ws ρ L cA (h ++ [c]) (ws ++ [(q, e)]) := by
  intro h
  induction h with
  | nil => intro ws h; rw [rv_Ws_n h]; exact ⟨he, True.intro⟩
  | cons c0 t ih =>
    intro ws h
    obtain ⟨q, t', rfl, h1, h2⟩ := rv_Ws_c h
    exact ⟨h1, ih h2⟩
theorem rv_E_mono (hL : ∀ (k q : Nat), L[k]? = some q → L'[k]? = some q) {c : rv_C} {e : va_E} (h : rv_E ρ L cA c e) : rv_E ρ L' cA c e := by
  rcases c with ⟨ci, fs⟩ | ⟨t, n, d, ups⟩
  · obtain ⟨vs, h1, h2⟩ := h
    exact ⟨vs, h1, rv_Vs_mono hL h2⟩
  · have h : rv_Ar ρ L cA t n d ups e := h
    show rv_Ar ρ L' cA t n d ups e
    unfold rv_Ar at h ⊢
    split at h
    all_goals first
      | (obtain ⟨f, h1, h2⟩ := h; exact ⟨f, h1, fun j hj => rv_V_mono hL (h2 j hj)⟩)
      | cases h
theorem rv_Ws_mono (hL : ∀ (k q : Nat), L[k]? = some q → L'[k]? = some q) : ∀ {h : List rv_C} {ws : va_W}, rv_Ws ρ L cA h ws → rv_Ws ρ L' cA h ws := by
  intro h
  induction h with
  | nil => intro ws h; rw [rv_Ws_n h]; exact True.intro
  | cons c0 t ih =>
    intro ws h
    obtain ⟨q, t', rfl, h1, h2⟩ := rv_Ws_c h
    exact ⟨rv_E_mono hL h1, ih h2⟩
theorem rv_Vs_at {a : rv_A} : ∀ {as : List rv_A} {vs : List Value} {k : Nat}, rv_Vs ρ L as vs → as[k]? = some a → ∃ v, vs[k]? = some v ∧ rv_V ρ L a v := by
  intro as
  induction as with
  | nil => intro vs k _ hk; simp at hk
  | cons c0 t ih =>
    intro vs k h hk
    obtain ⟨v, t', rfl, h1, h2⟩ := rv_Vs_c h
    cases k with
    | zero => simp at hk; subst hk; exact ⟨v, by simp, h1⟩
    | succ k =>
      obtain ⟨e, e1, e2⟩ := ih (k := k) h2 (by simpa using hk)
      exact ⟨e, by simpa using e1, e2⟩
theorem rv_Vs_len : ∀ {as : List rv_A} {vs : List Value}, rv_Vs ρ L as vs → as.length = vs.length := by
  intro as
  induction as with
  | nil => intro vs h; rw [rv_Vs_n h]; rfl
  | cons c t ih =>
    intro vs h
    obtain ⟨q, t', rfl, -, h2⟩ := rv_Vs_c h
    rw [List.length_cons, List.length_cons, ih h2]
theorem rv_Vs_set {a : rv_A} {v : Value} (he : rv_V ρ L a v) : ∀ {as : List rv_A} {vs : List Value} (k : Nat), rv_Vs ρ L as vs → rv_Vs ρ L (as.set k a) (vs.set k v) := by
  intro as
  induction as with
  | nil => intro vs k h; rw [rv_Vs_n h]; exact True.intro
  | cons c0 t ih =>
    intro vs k h
    obtain ⟨q, t', rfl, h1, h2⟩ := rv_Vs_c h
    cases k with
    | zero => exact ⟨he, h2⟩
    | succ k => exact ⟨h1, ih k h2⟩
theorem rv_Vs_app : ∀ {as : List rv_A} {r : List rv_A} {stk : List Value}, rv_Vs ρ L (as ++ r) stk → ∃ vs rs, stk = vs ++ rs ∧ rv_Vs ρ L as vs ∧ rv_Vs ρ L r rs := by
  intro as
  induction as with
  | nil => intro r stk h; exact ⟨[], stk, rfl, True.intro, h⟩
  | cons a t ih =>
    intro r stk h
    obtain ⟨v, t', rfl, h1, h2⟩ := rv_Vs_c h
    obtain ⟨vs, rs, rfl, h3, h4⟩ := ih h2
    exact ⟨v :: vs, rs, rfl, ⟨h1, h3⟩, h4⟩
theorem rv_Vs_join {r : List rv_A} {rs : List Value} (h2 : rv_Vs ρ L r rs) : ∀ {as : List rv_A} {vs : List Value}, rv_Vs ρ L as vs → rv_Vs ρ L (as ++ r) (vs ++ rs) := by
  intro as
  induction as with
  | nil => intro vs h; rw [rv_Vs_n h]; exact h2
  | cons a t ih =>
    intro vs h
    obtain ⟨v, t', rfl, h1, h3⟩ := rv_Vs_c h
    exact ⟨h1, ih h3⟩
theorem rv_Vs_rev : ∀ {as : List rv_A} {vs : List Value}, rv_Vs ρ L as vs → rv_Vs ρ L as.reverse vs.reverse := by
  intro as
  induction as with
  | nil => intro vs h; rw [rv_Vs_n h]; exact True.intro
  | cons a t ih =>
    intro vs h
    obtain ⟨v, t', rfl, h1, h2⟩ := rv_Vs_c h
    rw [List.reverse_cons, List.reverse_cons]
    exact rv_Vs_join (r := [a]) (rs := [v]) ⟨h1, True.intro⟩ (ih h2)
theorem rv_wd_le : ∀ {r : List rv_A} {rs : List Value}, rv_Vs ρ L r rs → (rs.map fun v => v.category).sum = rv_wd r := by
  intro r
  induction r with
  | nil => intro rs h; rw [rv_Vs_n h]; rfl
  | cons a t ih =>
    intro rs h
    obtain ⟨v, t', rfl, h1, h2⟩ := rv_Vs_c h
    rw [List.map_cons, List.sum_cons, ih h2, rv_V_cat h1]
    rfl
theorem rv_loc_ok : ∀ {as : List rv_A} {vs : List Value} (i : Nat), rv_Vs ρ L as vs → rv_Ls ρ L (rv_loc as i) (lv_args i vs) := by
  intro as
  induction as with
  | nil => intro vs i h; rw [rv_Vs_n h]; exact True.intro
  | cons a t ih =>
    intro vs i h
    obtain ⟨v, t', rfl, h1, h2⟩ := rv_Vs_c h
    refine ⟨rfl, h1, ?_⟩
    have e : (if v.category = 2 then i + 2 else i + 1) = (if rv_isL a then i + 2 else i + 1) := by
      rw [rv_V_cat h1]; unfold rv_cat
      cases rv_isL a <;> rfl
    rw [e]
    exact ih _ h2
end RVH
-- what the heap's words ask
theorem rv_cell_i {h : List rv_C} {a : rv_A} {k : Nat → rv_C → Option rv_R} {res : rv_R} (hh : rv_cell h a k = some res) : ∃ q c, a = rv_ref q ∧ rv_hget h q = some c ∧ k q c = some res := by
  unfold rv_cell at hh
  split at hh
  · rename_i q
    rw [rv_hn_eq] at hh
    split at hh
    · rename_i c hc
      exact ⟨q, c, rfl, hc, hh⟩
    · cases hh
  · cases hh
theorem rv_gf_i {ci fk : Nat} {h : List rv_C} {st : List rv_A} {k : List rv_A → Option rv_R} {res : rv_R} (hh : rv_gf ci fk h st k = some res) : ∃ q fs v r, st = rv_ref q :: r ∧ rv_hget h q = some (.inl (ci, fs)) ∧ fs[fk]? = some v ∧ k (v :: r) = some res := by
  unfold rv_gf at hh
  split at hh
  · rename_i a r
    have hg := rv_cell_i hh
    clear hh
    obtain ⟨q, c, rfl, hc, hh⟩ := hg
    rcases c with ⟨cj, fs⟩ | c
    · dsimp only at hh
      split at hh
      · rename_i e
        subst e
        rw [rv_nth_eq] at hh
        split at hh
        · rename_i v hv
          exact ⟨q, fs, v, r, rfl, hc, hv, hh⟩
        · cases hh
      · cases hh
    · cases hh
  · cases hh
theorem rv_pf_i {ci fk t : Nat} {h : List rv_C} {st : List rv_A} {k : List rv_C → List rv_A → Option rv_R} {res : rv_R} (hh : rv_pf ci fk t h st k = some res) : ∃ v q r fs, st = v :: rv_ref q :: r ∧ rv_hget h q = some (.inl (ci, fs)) ∧ fk < fs.length ∧ rv_fit t v = true ∧ k (h.set q (.inl (ci, fs.set fk v))) r = some res := by
  unfold rv_pf at hh
  split at hh
  · rename_i v a r
    have hg := rv_cell_i hh
    clear hh
    obtain ⟨q, c, rfl, hc, hh⟩ := hg
    rcases c with ⟨cj, fs⟩ | c
    · dsimp only at hh
      split at hh
      · rename_i e
        obtain ⟨rfl, e1, e2⟩ := e
        rw [rv_set_eq, rv_set_eq] at hh
        exact ⟨v, q, r, fs, rfl, hc, e1, e2, hh⟩
      · cases hh
    · cases hh
  · cases hh
theorem rv_ix_i {i : rv_A} {n lo hi : Nat} (h : rv_ix i n = some (lo, hi)) : rv_isI i = true ∧ ∀ x : Int32, rv_lo i ≤ x → x ≤ rv_hi i → vp_in x n ∧ lo ≤ x.toNatClampNeg ∧ x.toNatClampNeg ≤ hi := by
  unfold rv_ix at h
  split at h
  · rename_i q
    cases h
    refine ⟨q.1, fun x h1 h2 => ⟨?_, Int32.toNatClampNeg_le h1, Int32.toNatClampNeg_le h2⟩⟩
    intro h3
    rcases h3 with h3 | h3
    · exact Int32.not_lt.mpr (Int32.le_trans q.2.1 h1) h3
    · have := Int32.toNatClampNeg_le h2
      omega
  · cases h
theorem rv_same_i {d : rv_A} {ups : List (Nat × rv_A)} {v : rv_A} {lo : Nat} : ∀ {n : Nat}, rv_same d ups v lo n = true → ∀ j, lo ≤ j → j ≤ lo + n → rv_el d ups j = v := by
  intro n
  induction n with
  | zero =>
    intro h j h1 h2
    have e : j = lo := by omega
    rw [e]
    exact rv_eqA_s h
  | succ n ih =>
    intro h j h1 h2
    have h : (rv_same d ups v lo n && rv_eqA (rv_el d ups (lo + n + 1)) v) = true := h
    rw [Bool.and_eq_true] at h
    by_cases e : j = lo + n + 1
    · rw [e]; exact rv_eqA_s h.2
    · exact ih h.1 j h1 (by omega)
theorem rv_ald_i {okT : Nat → Bool} {h : List rv_C} {st : List rv_A} {k : List rv_A → Option rv_R} {res : rv_R} (hh : rv_ald okT h st k = some res) : ∃ i q r t n d ups v, st = i :: rv_ref q :: r ∧ rv_hget h q = some (.inr (t, n, d, ups)) ∧ okT t = true ∧ rv_isI i = true ∧ (∀ x : Int32, rv_lo i ≤ x → x ≤ rv_hi i → vp_in x n ∧ rv_el d ups x.toNatClampNeg = v) ∧ k (v :: r) = some res := by
  unfold rv_ald at hh
  split at hh
  · rename_i i a r
    have hg := rv_cell_i hh
    clear hh
    obtain ⟨q, c, rfl, hc, hh⟩ := hg
    rcases c with c | ⟨t, n, d, ups⟩
    · cases hh
    · dsimp only at hh
      split at hh
      · rename_i hok
        split at hh
        · rename_i lo hi hix
          split at hh
          · rename_i hs
            obtain ⟨h1, h2⟩ := rv_ix_i hix
            refine ⟨i, q, r, t, n, d, ups, _, rfl, hc, hok, h1, fun x hx1 hx2 => ⟨(h2 x hx1 hx2).1, rv_same_i hs _ (h2 x hx1 hx2).2.1 ?_⟩, hh⟩
            have := (h2 x hx1 hx2).2
            omega
          · cases hh
        · cases hh
      · cases hh
  · cases hh
theorem rv_ast_i {okT : Nat → Bool} {h : List rv_C} {st : List rv_A} {k : List rv_C → List rv_A → Option rv_R} {res : rv_R} (hh : rv_ast okT h st k = some res) : ∃ v i q r t n d ups w u j, st = v :: i :: rv_ref q :: r ∧ rv_hget h q = some (.inr (t, n, d, ups)) ∧ okT t = true ∧ rv_isI i = true ∧ (∀ x : Int32, rv_lo i ≤ x → x ≤ rv_hi i → vp_in x n ∧ x.toNatClampNeg = j) ∧ rv_nar t v = some w ∧ (∀ a, rv_el d u a = if a = j then w else rv_el d ups a) ∧ k (h.set q (.inr (t, n, d, u))) r = some res := by
  unfold rv_ast at hh
  split at hh
  · rename_i v i a r
    have hg := rv_cell_i hh
    clear hh
    obtain ⟨q, c, rfl, hc, hh⟩ := hg
    rcases c with c | ⟨t, n, d, ups⟩
    · cases hh
    · dsimp only at hh
      split at hh
      · rename_i hok
        split at hh
        · rename_i lo hi hix
          split at hh
          · rename_i hs
            subst hs
            obtain ⟨h1, h2⟩ := rv_ix_i hix
            have h3 : ∀ x : Int32, rv_lo i ≤ x → x ≤ rv_hi i → vp_in x n ∧ x.toNatClampNeg = lo := fun x a b => ⟨(h2 x a b).1, Nat.le_antisymm (h2 x a b).2.2 (h2 x a b).2.1⟩
            split at hh
            · rename_i w hw
              split at hh
              · rename_i he
                have he := rv_eqA_s he
                refine ⟨v, i, q, r, t, n, d, ups, w, ups, lo, rfl, hc, hok, h1, h3, hw, fun a => ?_, ?_⟩
                · by_cases e : a = lo
                  · rw [if_pos e, e, he]
                  · rw [if_neg e]
                · rw [show h.set q (.inr (t, n, d, ups)) = h from by
                    obtain ⟨hl, hq⟩ := List.getElem?_eq_some_iff.mp (rv_hget_1 hc).2
                    rw [← hq]
                    exact List.set_getElem_self hl]
                  exact hh
              · rw [rv_fN_eq] at hh
                obtain ⟨u, e1, e2⟩ := rv_put_i lo w ups (fun ups' => rv_set h q (.inr (t, n, d, ups')) (fun h' => k h' r))
                rw [e1, rv_set_eq] at hh
                exact ⟨v, i, q, r, t, n, d, ups, w, u, lo, rfl, hc, hok, h1, h3, hw, fun a => e2 d a, hh⟩
            · cases hh
          · cases hh
        · cases hh
      · cases hh
  · cases hh
theorem rv_asr_i {ct : Nat → Nat} {h : List rv_C} {st : List rv_A} {k : List rv_C → List rv_A → Option rv_R} {res : rv_R} (hh : rv_asr ct h st k = some res) : ∃ i q r t n d ups u j qv fv, st = rv_ref qv :: i :: rv_ref q :: r ∧ rv_hget h q = some (.inr (t, n, d, ups)) ∧ (t = 4 ∨ t = 5) ∧ rv_isI i = true ∧ (∀ x : Int32, rv_lo i ≤ x → x ≤ rv_hi i → vp_in x n ∧ x.toNatClampNeg = j) ∧ rv_hget h qv = some (.inl (ct t, fv)) ∧ (∀ a, rv_el d u a = if a = j then rv_ref qv else rv_el d ups a) ∧ k (h.set q (.inr (t, n, d, u))) r = some res := by
  unfold rv_asr at hh
  split at hh
  · rename_i v i a r
    have hg := rv_cell_i hh
    clear hh
    obtain ⟨q, c, rfl, hc, hh⟩ := hg
    rcases c with c | ⟨t, n, d, ups⟩
    · cases hh
    · dsimp only at hh
      split at hh
      · rename_i lo hi hix
        split at hh
        · rename_i hs
          subst hs
          obtain ⟨h1, h2⟩ := rv_ix_i hix
          have h3 : ∀ x : Int32, rv_lo i ≤ x → x ≤ rv_hi i → vp_in x n ∧ x.toNatClampNeg = lo := fun x a b => ⟨(h2 x a b).1, Nat.le_antisymm (h2 x a b).2.2 (h2 x a b).2.1⟩
          have hg := rv_cell_i hh
          clear hh
          obtain ⟨qv, cv, rfl, hcv, hh⟩ := hg
          rcases cv with ⟨cj, fv⟩ | cv
          · dsimp only at hh
            split at hh
            · rename_i e
              obtain ⟨rfl, ht⟩ := e
              rw [rv_fN_eq] at hh
              obtain ⟨u, e1, e2⟩ := rv_put_i lo (rv_ref qv) ups (fun ups' => rv_set h q (.inr (t, n, d, ups')) (fun h' => k h' r))
              rw [e1, rv_set_eq] at hh
              exact ⟨i, q, r, t, n, d, ups, u, lo, qv, fv, rfl, hc, ht, h1, h3, hcv, fun a => e2 d a, hh⟩
            · cases hh
          · cases hh
        · cases hh
      · cases hh
  · cases hh
theorem rv_new_i {c : rv_C} {h : List rv_C} {k : rv_A → List rv_C → Option rv_R} {res : rv_R} (hh : rv_new c h k = some res) : k (rv_ref h.length) (h ++ [c]) = some res ∧ h.length < 100000 := by
  unfold rv_new at hh
  rw [rv_fN_eq, rv_app_eq] at hh
  cases hb : Nat.blt h.length 100000 with
  | false => rw [hb] at hh; cases hh
  | true => rw [hb] at hh; exact ⟨hh, Nat.le_of_ble_eq_true hb⟩
theorem rv_nwa_i {t mx : Nat} {d : rv_A} {h : List rv_C} {st : List rv_A} {k : Nat → List rv_C → List rv_A → Option rv_R} {res : rv_R} (hh : rv_nwa t mx d h st k = some res) : ∃ x r, st = .inl x :: r ∧ ¬ x < 0 ∧ x.toNatClampNeg ≤ mx ∧ k x.toNatClampNeg (h ++ [.inr (t, x.toNatClampNeg, d, [])]) (rv_ref h.length :: r) = some res ∧ h.length < 100000 := by
  unfold rv_nwa at hh
  split at hh
  · rename_i x r
    split at hh
    · rename_i e
      rw [rv_fN_eq] at hh
      exact ⟨x, r, rfl, e.1, e.2, rv_new_i hh⟩
    · cases hh
  · cases hh
theorem rv_args_g {res : rv_R} : ∀ {n : Nat} {acc st : List rv_A} {k : List rv_A → List rv_A → Option rv_R}, rv_args n acc st k = some res → ∃ as r, st = as.reverse ++ r ∧ as.length = n ∧ k (as ++ acc) r = some res := by
  intro n
  induction n with
  | zero => intro acc st k h; exact ⟨[], st, rfl, rfl, h⟩
  | succ n ih =>
    intro acc st k h
    cases st with
    | nil => cases h
    | cons a t =>
      have h : rv_args n (a :: acc) t k = some res := h
      obtain ⟨as, r, h1, h2, h3⟩ := ih h
      refine ⟨as ++ [a], r, ?_, ?_, ?_⟩
      · rw [List.reverse_append, h1]; rfl
      · rw [List.length_append, h2]; rfl
      · rw [List.append_assoc]; exact h3
theorem rv_args_i {res : rv_R} {n : Nat} {st : List rv_A} {k : List rv_A → List rv_A → Option rv_R} (h : rv_args n [] st k = some res) : ∃ as r, st = as.reverse ++ r ∧ as.length = n ∧ k as r = some res := by
  obtain ⟨as, r, h1, h2, h3⟩ := rv_args_g h
  exact ⟨as, r, h1, h2, by rw [List.append_nil] at h3; exact h3⟩
