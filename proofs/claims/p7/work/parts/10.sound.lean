/-! THE EVALUATOR IS RIGHT: what it works out, the machine does -/
def rv_tys (cA : Nat → ClassId) : List (ClassId × FieldType) := [(cA 0, .int), (cA 1, .long), (cA 2, .byte), (cA 3, .boolean), (cA 4, .object "CabinPeace$Tray"), (cA 5, .object "CabinPeace$Wish")]
/-- the string constants, as the start has them -/
def rs_S (ρ : rv_ρ) (A : Nat → Prop) (U : State) (H : Heap) : Prop := vk_S 9 rs_len rs_byt ρ.2.1 ρ.2.2 A U H ∧ va_Z "java/lang/String" "COMPACT_STRINGS" "Z" (.int 1) A U H ∧ va_Zq "jdk/internal/util/Preconditions" "SIOOBE_FORMATTER" "Ljava/util/function/BiFunction;" A U H ∧ ∀ (i k : Nat) (tx : String), rs_lit[i]? = some (k, tx) → vk_R "CabinPeaceModel" k tx (ρ.2.1 i) U
theorem rs_S.go {ρ : rv_ρ} {A A' : Nat → Prop} {s U : State} {H : Heap} {locs : List Loc} (h : rs_S ρ A s s.heap) (hS : va_S A s.heap H locs) (hA : ∀ q, A' q → A q) (hW : s.WarmedH U.vm) : rs_S ρ A' U H := ⟨vk_S.moved hW.alike ((h.1.kept hS.2.1).narrow hA), va_Z.moved hW.alike ((h.2.1.kept hS.2.1).narrow hA), va_Zq.moved hW.alike ((h.2.2.1.kept hS.2.1).narrow hA), fun i k tx hi => vk_R.warm hW (h.2.2.2 i k tx hi)⟩
theorem rs_S.blind {ρ : rv_ρ} {A : Nat → Prop} {U : State} {g : JFrame} {mk : MethodId} {a : Array Value} (h : rs_S ρ A U U.heap) : rs_S ρ A (U.calling g mk a) (U.calling g mk a).heap := ⟨vk_S.moved (u := U) (U := U.calling g mk a) (Vm.Alike.refl U.vm) h.1, va_Z.moved (u := U) (U := U.calling g mk a) (Vm.Alike.refl U.vm) h.2.1, va_Zq.moved (u := U) (U := U.calling g mk a) (Vm.Alike.refl U.vm) h.2.2.1, fun i k tx hi => vk_R.same (u := U) rfl (h.2.2.2 i k tx hi)⟩
/-- what the tables say at a state, and the string constants there -/
def rv_KK (ρ : rv_ρ) (A : Nat → Prop) (D : va_G) (cA : Nat → ClassId) (U : State) : Prop := va_K D rv_cl (rv_tys cA) U ∧ va_AO "CabinPeace$Tray" U ∧ va_AO "CabinPeace$Wish" U ∧ (∀ w ∈ rv_nest, va_Nw w U) ∧ rs_S ρ A U U.heap
theorem rv_nest_f : ∀ w ∈ rv_nest, (∃ a i x h, w = .methodLinkNest a i x h) ∨ ∃ a i b n d h, w = .fieldLinkNest a i b n d h := by
  intro w hw
  simp only [rv_nest, List.mem_cons, List.not_mem_nil, or_false] at hw
  rcases hw with rfl | rfl | rfl | rfl | rfl | rfl
  all_goals first
    | exact Or.inl ⟨_, _, _, _, rfl⟩
    | exact Or.inr ⟨_, _, _, _, _, _, rfl⟩
theorem rv_KK.go {ρ : rv_ρ} {A A' : Nat → Prop} {D : va_G} {cA : Nat → ClassId} {s U : State} {H : Heap} {locs : List Loc} (h : rv_KK ρ A D cA s) (hS : va_S A s.heap H locs) (hA : ∀ q, A' q → A q) (hU : U.heap = H) (hW : s.WarmedH U.vm) : rv_KK ρ A' D cA U := ⟨va_K.moved hW.alike h.1, va_AO.moved hW.alike h.2.1, va_AO.moved hW.alike h.2.2.1, fun w hw => by
  rcases rv_nest_f w hw with ⟨a, i, x, k, rfl⟩ | ⟨a, i, b, n, d, k, rfl⟩
  · exact va_Nw.warmM hW (h.2.2.2.1 _ hw)
  · exact va_Nw.warmF hW (h.2.2.2.1 _ hw), by rw [hU]; exact h.2.2.2.2.go hS hA hW⟩
theorem rv_KK.blind {ρ : rv_ρ} {A : Nat → Prop} {D : va_G} {cA : Nat → ClassId} {U : State} {g : JFrame} {mk : MethodId} {a : Array Value} (h : rv_KK ρ A D cA U) : rv_KK ρ A D cA (U.calling g mk a) := ⟨va_K.moved (u := U) (U := U.calling g mk a) (Vm.Alike.refl U.vm) h.1, va_AO.moved (u := U) (U := U.calling g mk a) (Vm.Alike.refl U.vm) h.2.1, va_AO.moved (u := U) (U := U.calling g mk a) (Vm.Alike.refl U.vm) h.2.2.1, fun w hw => by
  rcases rv_nest_f w hw with ⟨a, i, x, k, rfl⟩ | ⟨a, i, b, n, d, k, rfl⟩
  · exact va_Nw.same (u := U) rfl rfl (h.2.2.2.1 _ hw)
  · exact va_Nw.same (u := U) rfl rfl (h.2.2.2.1 _ hw), h.2.2.2.2.blind⟩
def rv_CF (C : String) (T : u_T) (N : Nat) (nw : List rv_A) : Prop := (∀ w ∈ u_ws C T N, w ∈ rv_T2) ∧ ∃ ty : Nat → FieldType, (∀ k, k < N → parseFieldDescriptor (T k).2.2.1 = some (ty k)) ∧ (∀ a, a < N → ∀ b, b < N → a ≠ b → (T a).2.1 ≠ (T b).2.1) ∧ ∃ fs : List Value, (∀ j, j < N → defaultValue (ty j) = vp_V fs j) ∧ ∀ (ρ : rv_ρ) (L : List Nat), rv_Vs ρ L nw fs
/-- an answer -/
def rv_rv (ρ : rv_ρ) (L : List Nat) (o : Option rv_A) (v : Option Value) : Prop := match o, v with
  | none, none => True
  | some a, some x => rv_V ρ L a x
  | _, _ => False
/-- a method's end: one of the outcomes -/
def rv_Q (ρ : rv_ρ) (D : va_G) (cA : Nat → ClassId) (L0 : List Nat) (A : Nat → Prop) (outs : List rv_O) : Array Value → State → Outcome → State → Prop := fun _ st oc t =>
  (∃ o ∈ outs, ∃ (ws : va_W) (v : Option Value), oc = .returned v ∧ rv_rv ρ (ws.map Prod.fst) o.1 v ∧ rv_Ws ρ (ws.map Prod.fst) cA o.2 ws ∧ (∃ ext, ws.map Prod.fst = L0 ++ ext) ∧ va_P D rv_cl ws t.heap ∧ va_D A ws) ∧ va_F A st t
def rv_rm (d mc ms : Nat) : Room := { frames := d, cells := mc, slots := ms, locals := 60 * d }
def rv_ws (y : MethodName) (bytes : ByteArray) (nL : Nat) (ret : Option FieldType) : List Cond := .code y bytes nL ret :: rv_T2
/-- a method's contract, as the evaluator has it -/
def rv_Mt (l : Launch) (ρ : rv_ρ) (d mi : Nat) (as : List rv_A) (h : List rv_C) (res : rv_R) : Prop := ∀ (y : MethodName) (bytes : ByteArray) (nL : Nat) (ret : Option FieldType), rv_inf[mi]? = some (y, bytes, nL, ret) → ∀ (D : va_G) (cA : Nat → ClassId) (sz : Nat) (ws : va_W) (vs : List Value), rv_Vs ρ (ws.map Prod.fst) as vs → rv_Ws ρ (ws.map Prod.fst) cA h ws →
  Met l y (rv_ws y bytes nL ret) (rv_rm d res.1 res.2.1) (va_Pc vs (fun U => U.heap.size = sz ∧ va_P D rv_cl ws U.heap ∧ rv_KK ρ (va_A ws sz) D cA U ∧ va_D (fun _ => True) ws)) (rv_Q ρ D cA (ws.map Prod.fst) (va_A ws sz) res.2.2) res.1 res.2.1 (va_A ws sz)
def rv_Wd (ρ : rv_ρ) (D : va_G) (cA : Nat → ClassId) (A : Nat → Prop) (s : State) (L0 : List Nat) (h : List rv_C) (ws : va_W) (H : Heap) (locs : List Loc) : Prop := rv_Ws ρ (ws.map Prod.fst) cA h ws ∧ va_P D rv_cl ws H ∧ va_D A ws ∧ va_S A s.heap H locs ∧ ∃ ext, ws.map Prod.fst = L0 ++ ext
def rv_Cx (ρ : rv_ρ) (p : Program) (s : State) (m : MethodId) (args : Array Value) (meth : Method) (c : Code) (D : va_G) (cA : Nat → ClassId) (A : Nat → Prop) (y : MethodName) (bytes : ByteArray) (nL : Nat) (ret : Option FieldType) : Prop :=
  p.tables.exec = Jvm.exec ∧ c.code = bytes ∧ c.maxLocals = nL ∧ s.vm.findClass y.cls = some m.cls ∧ (∀ w ∈ rv_T2, w.before args s = true) ∧ meth.sig.returnType = ret ∧ meth.locks = false ∧ (y.name = "<init>" → meth.name = "<init>") ∧ rv_KK ρ A D cA s ∧ ∀ q, s.heap.size ≤ q → A q

-- what the evaluator's other words ask
theorem rv_ld_i {f : rv_A → Bool} {ls : rv_L} {i : Nat} {k : rv_A → Option rv_R} {res : rv_R} (h : rv_ld f ls i k = some res) : ∃ v, k v = some res ∧ f v = true ∧ rv_lget ls i = some v := by
  unfold rv_ld at h
  split at h
  · rename_i v hv
    split at h
    · rename_i hf
      exact ⟨v, h, hf, hv⟩
    · cases h
  · cases h
theorem rv_st1_i {f : rv_A → Bool} {nL i : Nat} {ls : rv_L} {st : List rv_A} {k : rv_L → List rv_A → Option rv_R} {res : rv_R} (h : rv_st1 f nL ls i st k = some res) : ∃ v r, st = v :: r ∧ f v = true ∧ i < nL ∧ k ((i, v) :: ls.filter (rv_keep1 i)) r = some res := by
  unfold rv_st1 at h
  split at h
  · rename_i v r
    split at h
    · rename_i hf
      rw [Bool.and_eq_true] at hf
      rw [rv_flt_eq] at h
      exact ⟨v, r, rfl, hf.1, of_decide_eq_true hf.2, h⟩
    · cases h
  · cases h
theorem rv_st2_i {nL i : Nat} {ls : rv_L} {st : List rv_A} {k : rv_L → List rv_A → Option rv_R} {res : rv_R} (h : rv_st2 nL ls i st k = some res) : ∃ v r, st = v :: r ∧ rv_isL v = true ∧ i + 1 < nL ∧ k ((i, v) :: ls.filter (rv_keep2 i)) r = some res := by
  unfold rv_st2 at h
  split at h
  · rename_i v r
    split at h
    · rename_i hf
      rw [Bool.and_eq_true] at hf
      rw [rv_flt_eq] at h
      exact ⟨v, r, rfl, hf.1, of_decide_eq_true hf.2, h⟩
    · cases h
  · cases h
theorem rv_inc_i {nL i : Nat} {ls : rv_L} {n : Int} {k : rv_L → Option rv_R} {res : rv_R} (h : rv_inc nL ls i n k = some res) : ∃ w, i < nL ∧ k ((i, w) :: ls.filter (rv_keep1 i)) = some res ∧ ∀ (ρ : rv_ρ) (L : List Nat) (lv : List (Nat × Value)), rv_Ls ρ L ls lv → ∃ (j : Nat) (x : Int32), lv[j]? = some (i, .int x) ∧ rv_V ρ L w (.int (x + Int32.ofInt n)) := by
  unfold rv_inc at h
  split at h
  · rename_i x hx
    split at h
    · rename_i hn
      rw [rv_fI_eq, rv_flt_eq] at h
      refine ⟨_, hn, h, fun ρ L lv hl => ?_⟩
      obtain ⟨j, v, h1, h2⟩ := rv_lget_i hx hl
      cases h2
      exact ⟨j, x, h1, rfl⟩
    · cases h
  · rename_i q hx
    split at h
    · rename_i hn
      rw [rv_flt_eq] at h
      refine ⟨_, hn, h, fun ρ L lv hl => ?_⟩
      obtain ⟨j, v, h1, h2⟩ := rv_lget_i hx hl
      obtain ⟨x, rfl, -⟩ := h2
      exact ⟨j, x, h1, rv_V_top _⟩
    · cases h
  · cases h
theorem rv_dup_i {st : List rv_A} {k : List rv_A → Option rv_R} {res : rv_R} (h : rv_dup st k = some res) : ∃ v r, st = v :: r ∧ rv_isL v = false ∧ k (v :: v :: r) = some res := by
  unfold rv_dup at h
  split at h
  · rename_i v r
    split at h
    · cases h
    · rename_i hf
      exact ⟨v, r, rfl, by simpa using hf, h⟩
  · cases h
theorem rv_dup2_i {st : List rv_A} {k : List rv_A → Option rv_R} {res : rv_R} (h : rv_dp2 st k = some res) : ∃ v w r, st = v :: w :: r ∧ rv_isL v = false ∧ rv_isL w = false ∧ k (v :: w :: v :: w :: r) = some res := by
  unfold rv_dp2 at h
  split at h
  · rename_i v w r
    split at h
    · cases h
    · rename_i hf
      simp at hf
      exact ⟨v, w, r, rfl, hf.1, hf.2, h⟩
  · cases h
theorem rv_if1_i {st : List rv_A} {cq : rv_A → Option Bool} {kt kf : List rv_A → Option rv_R} {res : rv_R} (h : rv_if1 cq st kt kf = some res) : ∃ x r, st = x :: r ∧ rv_isI x = true ∧ rv_br (cq x) (kt r) (kf r) = some res := by
  unfold rv_if1 at h
  split at h
  · rename_i x r
    split at h
    · rename_i hf
      exact ⟨x, r, rfl, hf, h⟩
    · cases h
  · cases h
theorem rv_if2_i {st : List rv_A} {cq : rv_A → rv_A → Option Bool} {kt kf : List rv_A → Option rv_R} {res : rv_R} (h : rv_if2 cq st kt kf = some res) : ∃ x y r, st = y :: x :: r ∧ rv_isI y = true ∧ rv_isI x = true ∧ rv_br (cq x y) (kt r) (kf r) = some res := by
  unfold rv_if2 at h
  split at h
  · rename_i y x r
    split at h
    · rename_i hf
      rw [Bool.and_eq_true] at hf
      exact ⟨x, y, r, rfl, hf.2, hf.1, h⟩
    · cases h
  · cases h

theorem rv_re1_i {f : rv_A → Bool} {st : List rv_A} {h : List rv_C} {ce sl : Nat} {res : rv_R} (hh : rv_re1 f st h ce sl = some res) : ∃ v, st = [v] ∧ f v = true ∧ res = (ce, sl, [(some v, h)]) := by
  unfold rv_re1 at hh
  split at hh
  · rename_i v
    split at hh
    · rename_i hf
      cases hh
      exact ⟨v, rfl, hf, rfl⟩
    · cases hh
  · cases hh
theorem rv_re0_i {q : Bool} {st : List rv_A} {h : List rv_C} {ce sl : Nat} {res : rv_R} (hh : rv_re0 q st h ce sl = some res) : st = [] ∧ q = true ∧ res = (ce, sl, [(none, h)]) := by
  unfold rv_re0 at hh
  split at hh
  · split at hh
    · rename_i hf
      cases hh
      exact ⟨rfl, hf, rfl⟩
    · cases hh
  · cases hh
theorem rv_rtk_0 {ret : Option FieldType} (h : rv_rtk ret 0 = true) : ret = some .int := by
  unfold rv_rtk at h
  split at h <;> first | rfl | cases h
theorem rv_rtk_1 {ret : Option FieldType} (h : rv_rtk ret 1 = true) : ret = some .boolean := by
  unfold rv_rtk at h
  split at h <;> first | rfl | cases h
theorem rv_rtk_2 {ret : Option FieldType} (h : rv_rtk ret 2 = true) : ret = some .long := by
  unfold rv_rtk at h
  split at h <;> first | rfl | cases h
theorem rv_rtk_4 {ret : Option FieldType} (h : rv_rtk ret 4 = true) : ret = none := by
  unfold rv_rtk at h
  split at h <;> first | rfl | cases h
theorem rv_01 {x : Int32} (h0 : 0 ≤ x) (h1 : x ≤ 1) : x = 0 ∨ x = 1 := by
  rw [Int32.le_iff_toInt_le] at h0 h1
  have e0 : (0 : Int32).toInt = 0 := rfl
  have e1 : (1 : Int32).toInt = 1 := rfl
  rw [e0] at h0
  rw [e1] at h1
  rcases (show x.toInt = 0 ∨ x.toInt = 1 by omega) with h | h
  · exact Or.inl (Int32.toInt_inj.mp (h.trans e0.symm))
  · exact Or.inr (Int32.toInt_inj.mp (h.trans e1.symm))
theorem rv_fit1 {ρ : rv_ρ} {L : List Nat} {v : rv_A} {w : Value} (h : rv_fit 1 v = true) (hv : rv_V ρ L v w) : ∃ z : Int32, w = .int z ∧ narrow .boolean (.int z) = .int z := by
  have h : (rv_isI v && decide (0 ≤ rv_lo v) && decide (rv_hi v ≤ 1)) = true := h
  simp only [Bool.and_eq_true] at h
  obtain ⟨z, rfl, h1, h2⟩ := rv_V_I h.1.1 hv
  refine ⟨z, rfl, ?_⟩
  rcases rv_01 (Int32.le_trans (of_decide_eq_true h.1.2) h1) (Int32.le_trans h2 (of_decide_eq_true h.2)) with rfl | rfl <;> rfl
/-- a value that fits a field -/
theorem rv_ft_s {ρ : rv_ρ} {L : List Nat} {d : Nat} {sd : String} {v : rv_A} {w : Value} (h : rv_ft d sd = true) (hf : rv_fit d v = true) (hv : rv_V ρ L v w) : ∃ ty, parseFieldDescriptor sd = some ty ∧ narrow ty w = w ∧ fits ty w = true := by
  unfold rv_ft at h
  split at h
  · rename_i hp
    have hd := Nat.eq_of_beq_eq_true h
    subst hd
    obtain ⟨z, rfl, -, -⟩ := rv_V_I (show rv_isI v = true from hf) hv
    exact ⟨_, hp, rfl, rfl⟩
  · rename_i hp
    have hd := Nat.eq_of_beq_eq_true h
    subst hd
    have hf1 : (rv_isI v && decide (0 ≤ rv_lo v) && decide (rv_hi v ≤ 1)) = true := hf
    simp only [Bool.and_eq_true] at hf1
    obtain ⟨z, rfl, h1, h2⟩ := rv_V_I hf1.1.1 hv
    refine ⟨_, hp, ?_⟩
    rcases rv_01 (Int32.le_trans (of_decide_eq_true hf1.1.2) h1) (Int32.le_trans h2 (of_decide_eq_true hf1.2)) with rfl | rfl <;> exact ⟨rfl, rfl⟩
  · rename_i hp
    have hd := Nat.eq_of_beq_eq_true h
    subst hd
    obtain ⟨z, rfl⟩ := rv_V_L (show rv_isL v = true from hf) hv
    exact ⟨_, hp, rfl, rfl⟩
  · rename_i hp
    have hd := Nat.eq_of_beq_eq_true h
    subst hd
    obtain ⟨z, rfl⟩ := rv_V_R (show rv_isR v = true from hf) hv
    exact ⟨_, hp, rfl, rfl⟩
  · rename_i hp
    have hd := Nat.eq_of_beq_eq_true h
    subst hd
    obtain ⟨z, rfl⟩ := rv_V_R (show rv_isR v = true from hf) hv
    exact ⟨_, hp, rfl, rfl⟩
  · cases h
theorem rv_nar_0 {ρ : rv_ρ} {L : List Nat} {v w0 : rv_A} {w : Value} (h : rv_nar 0 v = some w0) (hv : rv_V ρ L v w) : ∃ x : Int32, w = .int x ∧ rv_V ρ L w0 (.int x) := by
  have h : (if rv_isI v then some v else none) = some w0 := h
  split at h
  · rename_i hi
    cases h
    have hv1 := hv
    obtain ⟨x, rfl, -, -⟩ := rv_V_I hi hv
    exact ⟨x, rfl, hv1⟩
  · cases h
theorem rv_nar_1 {ρ : rv_ρ} {L : List Nat} {v w0 : rv_A} {w : Value} (h : rv_nar 1 v = some w0) (hv : rv_V ρ L v w) : ∃ x : Int64, w = .long x ∧ rv_V ρ L w0 (.long x) := by
  have h : (if rv_isL v then some v else none) = some w0 := h
  split at h
  · rename_i hi
    cases h
    have hv1 := hv
    obtain ⟨x, rfl⟩ := rv_V_L hi hv
    exact ⟨x, rfl, hv1⟩
  · cases h
theorem rv_nar_2 {ρ : rv_ρ} {L : List Nat} {v w0 : rv_A} {w : Value} (h : rv_nar 2 v = some w0) (hv : rv_V ρ L v w) : ∃ x : Int32, w = .int x ∧ rv_V ρ L w0 (.int (vp_nar .byte x)) := by
  rcases v with y | ⟨lo, hi⟩ | y | y | y
  · cases h
    cases hv
    exact ⟨y, rfl, rfl⟩
  · cases h
    obtain ⟨x, rfl, -⟩ := hv
    exact ⟨x, rfl, rv_V_top _⟩
  · cases h
  · cases h
  · cases h
theorem rv_nar_3 {ρ : rv_ρ} {L : List Nat} {v w0 : rv_A} {w : Value} (h : rv_nar 3 v = some w0) (hv : rv_V ρ L v w) : ∃ x : Int32, w = .int x ∧ rv_V ρ L w0 (.int (vp_nar .boolean x)) := by
  rcases v with y | v
  · have h : (if y = 0 ∨ y = 1 then some (.inl y) else none) = some w0 := h
    split at h
    · rename_i hq
      cases h
      cases hv
      refine ⟨y, rfl, ?_⟩
      rcases hq with rfl | rfl <;> rfl
    · cases h
  · cases h
theorem rv_cA_0 {D : va_G} {cA : Nat → ClassId} {cA1 : ClassId} {U : State} (h : va_K D rv_cl (rv_tys cA ++ [(cA1, .int)]) U) : cA1 = cA 0 := by
  have h1 := (h.2 6 (cA1, .int) rfl).2
  have h2 := (h.2 0 (cA 0, .int) rfl).2
  exact Option.some.inj (h1.symm.trans h2)
theorem rv_cA_1 {D : va_G} {cA : Nat → ClassId} {cA1 : ClassId} {U : State} (h : va_K D rv_cl (rv_tys cA ++ [(cA1, .long)]) U) : cA1 = cA 1 := by
  have h1 := (h.2 6 (cA1, .long) rfl).2
  have h2 := (h.2 1 (cA 1, .long) rfl).2
  exact Option.some.inj (h1.symm.trans h2)
theorem rv_cA_2 {D : va_G} {cA : Nat → ClassId} {cA1 : ClassId} {U : State} (h : va_K D rv_cl (rv_tys cA ++ [(cA1, .byte)]) U) : cA1 = cA 2 := by
  have h1 := (h.2 6 (cA1, .byte) rfl).2
  have h2 := (h.2 2 (cA 2, .byte) rfl).2
  exact Option.some.inj (h1.symm.trans h2)
theorem rv_cA_3 {D : va_G} {cA : Nat → ClassId} {cA1 : ClassId} {U : State} (h : va_K D rv_cl (rv_tys cA ++ [(cA1, .boolean)]) U) : cA1 = cA 3 := by
  have h1 := (h.2 6 (cA1, .boolean) rfl).2
  have h2 := (h.2 3 (cA 3, .boolean) rfl).2
  exact Option.some.inj (h1.symm.trans h2)
theorem rv_cA_4 {D : va_G} {cA : Nat → ClassId} {cA1 : ClassId} {U : State} (h : va_K D rv_cl (rv_tys cA ++ [(cA1, .object "CabinPeace$Tray")]) U) : cA1 = cA 4 := by
  obtain ⟨_, _, _, _, _, h1⟩ := (h.2 6 (cA1, .object "CabinPeace$Tray") rfl).2
  obtain ⟨_, _, _, _, _, h2⟩ := (h.2 4 (cA 4, .object "CabinPeace$Tray") rfl).2
  exact Option.some.inj (h1.symm.trans h2)
theorem rv_cA_5 {D : va_G} {cA : Nat → ClassId} {cA1 : ClassId} {U : State} (h : va_K D rv_cl (rv_tys cA ++ [(cA1, .object "CabinPeace$Wish")]) U) : cA1 = cA 5 := by
  obtain ⟨_, _, _, _, _, h1⟩ := (h.2 6 (cA1, .object "CabinPeace$Wish") rfl).2
  obtain ⟨_, _, _, _, _, h2⟩ := (h.2 5 (cA 5, .object "CabinPeace$Wish") rfl).2
  exact Option.some.inj (h1.symm.trans h2)

theorem rv_inv_i {call : Nat → List rv_A → List rv_C → Option rv_R} {okr : List rv_A → Bool} {mi d : Nat} {h : List rv_C} {st : List rv_A} {ce sl : Nat} {k : List rv_A → List rv_C → Nat → Nat → Option rv_R} {res : rv_R} (hh : rv_inv call okr mi d h st ce sl k = some res) : ∃ as r mc ms os, st = as.reverse ++ r ∧ as.length = d ∧ rv_wd r ≤ 8 ∧ okr as = true ∧ call mi as h = some (mc, ms, os) ∧ rv_all os (fun o => k (o.1.toList ++ r) o.2 (ce + mc) (sl + ms)) = some res := by
  unfold rv_inv at hh
  obtain ⟨as, r, h1, h2, h3⟩ := rv_args_i hh
  split at h3
  · rename_i hq
    split at h3
    · rename_i mc ms os hc
      rw [rv_fN_eq, rv_fN_eq] at h3
      exact ⟨as, r, mc, ms, os, h1, h2, hq.1, hq.2, hc, h3⟩
    · cases h3
  · cases h3
theorem rv_rcv_i {ci : Nat} {h : List rv_C} {as : List rv_A} (hh : rv_rcv ci h as = true) : ∃ q as' fs, as = rv_ref q :: as' ∧ rv_hget h q = some (.inl (ci, fs)) := by
  unfold rv_rcv at hh
  split at hh
  · rename_i q as'
    rw [rv_hn_eq] at hh
    split at hh
    · rename_i cj fs hc
      rw [← Nat.eq_of_beq_eq_true hh]
      exact ⟨q, as', fs, rfl, hc⟩
    · cases hh
  · cases hh
theorem rv_isp_0 {call : Nat → List rv_A → List rv_C → Option rv_R} {mi d : Nat} {h : List rv_C} {st : List rv_A} {ce sl : Nat} {k : List rv_A → List rv_C → Nat → Nat → Option rv_R} {res : rv_R} (hh : rv_isp 0 call mi d h st ce sl k = some res) : ∃ v r, st = v :: r ∧ rv_isR v = true ∧ rv_wd r ≤ 8 ∧ k r h ce sl = some res := by
  cases st with
  | nil => cases hh
  | cons v r =>
    have hh : (if rv_isR v = true ∧ rv_wd r ≤ 8 then k r h ce sl else none) = some res := hh
    split at hh
    · rename_i hq
      exact ⟨v, r, rfl, hq.1, hq.2, hh⟩
    · cases hh
def rv_hd (as : List rv_A) : Bool := match as with
  | v :: _ => rv_isR v
  | _ => false
theorem rv_hd_i {as : List rv_A} (h : rv_hd as = true) : ∃ v as', as = v :: as' ∧ rv_isR v = true := by
  cases as with
  | nil => cases h
  | cons v t => exact ⟨v, t, rfl, h⟩
theorem rv_isp_1 {b : Nat} {call : Nat → List rv_A → List rv_C → Option rv_R} {mi d : Nat} {h : List rv_C} {st : List rv_A} {ce sl : Nat} {k : List rv_A → List rv_C → Nat → Nat → Option rv_R} {res : rv_R} (hh : rv_isp (b + 1) call mi d h st ce sl k = some res) : rv_inv call rv_hd mi d h st ce sl k = some res := hh
theorem rv_gin {y : MethodName} {bytes : ByteArray} {nL : Nat} {ret : Option FieldType} (h : Cond.code y bytes nL ret ∈ rv_T2) : GoodIn rv_T2 (rv_ws y bytes nL ret) := by
  intro w hw
  rcases List.mem_cons.mp hw with rfl | hw
  · exact ⟨h, good_of_word (List.mem_filter.mp h).2⟩
  · exact ⟨hw, good_of_word (List.mem_filter.mp hw).2⟩
theorem rv_rc2_i {b : Nat} {h : List rv_C} {as : List rv_A} (hh : rv_rc2 b h as = true) : (b = 99 ∧ ∃ i as', as = rv_ref (100000 + i) :: as' ∧ i < 9) ∨ (b ≠ 99 ∧ rv_rcv b h as = true) := by
  unfold rv_rc2 at hh
  by_cases hb : b = 99
  · left
    refine ⟨hb, ?_⟩
    subst hb
    replace hh : rv_isS as = true := hh
    unfold rv_isS at hh
    split at hh
    · rename_i q as'
      rw [Bool.and_eq_true] at hh
      have h1 := Nat.le_of_ble_eq_true hh.1
      have h2 : q < 100009 := Nat.le_of_ble_eq_true hh.2
      exact ⟨q - 100000, as', by rw [show 100000 + (q - 100000) = q by omega], by omega⟩
    · cases hh
  · right
    refine ⟨hb, ?_⟩
    rw [show b.beq 99 = false from by
      cases hq : b.beq 99 with
      | false => rfl
      | true => exact absurd (Nat.eq_of_beq_eq_true hq) hb] at hh
    exact hh
theorem rv_isT_i {i : Instr} (h : rv_isT i = true) : ∃ df lo hi os, i = .tableswitch df lo hi os := by
  unfold rv_isT at h
  split at h
  · exact ⟨_, _, _, _, rfl⟩
  · cases h
theorem rv_tsw_i {lo : Int} {ts : List Nat} {st : List rv_A} {k : Nat → List rv_A → Option rv_R} {res : rv_R} (hh : rv_tsw lo ts st k = some res) : ∃ x r t0 tt q, st = .inl x :: r ∧ ts = t0 :: tt ∧ k q r = some res ∧ (((x.toInt < lo ∨ (¬ x.toInt < lo ∧ tt.length ≤ (x.toInt - lo).toNat)) ∧ q = t0) ∨ (¬ x.toInt < lo ∧ tt[(x.toInt - lo).toNat]? = some q)) := by
  unfold rv_tsw at hh
  split at hh
  · rename_i x r
    split at hh
    · rename_i t0 tt
      split at hh
      · rename_i hx
        exact ⟨x, r, t0, tt, t0, rfl, rfl, hh, Or.inl ⟨Or.inl hx, rfl⟩⟩
      · rename_i hx
        rw [rv_nth_eq] at hh
        split at hh
        · rename_i q hq
          exact ⟨x, r, t0, tt, q, rfl, rfl, hh, Or.inr ⟨hx, hq⟩⟩
        · rename_i hq
          exact ⟨x, r, t0, tt, t0, rfl, rfl, hh, Or.inl ⟨Or.inr ⟨hx, List.getElem?_eq_none_iff.mp hq⟩, rfl⟩⟩
    · cases hh
  · cases hh
theorem rv_cts_i {body : List rv_I} {pc : Nat} {df lo hi : Int} {os : Array Int} {t0 : Nat} {tt : List Nat} (h : rv_cts body pc df lo hi os (t0 :: tt) = true) : rv_tg body t0 pc df = true ∧ hi - lo + 1 = (os.toList.length : Int) ∧ tt.length = os.toList.length ∧ ∀ (i q : Nat), tt[i]? = some q → ∃ off, os[i]? = some off ∧ rv_tg body q pc off = true := by
  have h : (rv_tg body t0 pc df && decide (hi - lo + 1 = (os.toList.length : Int)) && decide (tt.length = os.toList.length) && (os.toList.zip tt).all (fun q => rv_tg body q.2 pc q.1)) = true := h
  simp only [Bool.and_eq_true] at h
  refine ⟨h.1.1.1, of_decide_eq_true h.1.1.2, of_decide_eq_true h.1.2, fun i q hq => ?_⟩
  have hl : tt.length = os.toList.length := of_decide_eq_true h.1.2
  obtain ⟨hi1, -⟩ := List.getElem?_eq_some_iff.mp hq
  have hi2 : i < os.toList.length := by omega
  refine ⟨os.toList[i], ?_, ?_⟩
  · rw [← Array.getElem?_toList]; exact List.getElem?_eq_getElem hi2
  · refine List.all_eq_true.mp h.2 (os.toList[i], q) (List.mem_of_getElem? (i := i) ?_)
    rw [List.getElem?_zip_eq_some]
    exact ⟨List.getElem?_eq_getElem hi2, hq⟩
theorem rv_cpy_i {h : List rv_C} {st : List rv_A} {k : List rv_C → List rv_A → Option rv_R} {res : rv_R} (hh : rv_cpy h st k = some res) : ∃ m dp sp q1 q0 r n0 d0 u0 n1 d1 u1, st = .inl m :: .inl dp :: rv_ref q1 :: .inl sp :: rv_ref q0 :: r ∧ rv_hget h q0 = some (.inr (1, n0, d0, u0)) ∧ rv_hget h q1 = some (.inr (1, n1, d1, u1)) ∧ (¬ sp < 0 ∧ ¬ dp < 0 ∧ ¬ m < 0 ∧ sp.toNatClampNeg + m.toNatClampNeg ≤ n0 ∧ dp.toNatClampNeg + m.toNatClampNeg ≤ n1 ∧ rv_wd r ≤ 8) ∧ k (h.set q1 (.inr (1, n1, d1, (List.range m.toNatClampNeg).map (fun j => (dp.toNatClampNeg + j, rv_el d0 u0 (sp.toNatClampNeg + j))) ++ u1))) r = some res := by
  unfold rv_cpy at hh
  split at hh
  · rename_i m dp a1 sp a0 r
    have hg := rv_cell_i hh
    clear hh
    obtain ⟨q0, c0, rfl, hc0, hh⟩ := hg
    split at hh
    · rename_i n0 d0 u0
      have hg := rv_cell_i hh
      clear hh
      obtain ⟨q1, c1, rfl, hc1, hh⟩ := hg
      split at hh
      · rename_i n1 d1 u1
        split at hh
        · rename_i hq
          rw [rv_set_eq] at hh
          exact ⟨m, dp, sp, q1, q0, r, n0, d0, u0, n1, d1, u1, rfl, hc0, hc1, hq, hh⟩
        · cases hh
      · cases hh
    · cases hh
  · cases hh
/-- what the copied array holds -/
theorem rv_el_cp (d1 : rv_A) (u1 : List (Nat × rv_A)) (dp : Nat) (f : Nat → rv_A) : ∀ (l : List Nat) (j : Nat), rv_el d1 (l.map (fun i => (dp + i, f i)) ++ u1) j = if dp ≤ j ∧ (j - dp) ∈ l then f (j - dp) else rv_el d1 u1 j := by
  intro l
  induction l with
  | nil => intro j; simp
  | cons i t ih =>
    intro j
    show Bool.rec (motive := fun _ => rv_A) (rv_el d1 (t.map (fun i => (dp + i, f i)) ++ u1) j) (f i) ((dp + i).beq j) = _
    by_cases hj : dp + i = j
    · rw [show (dp + i).beq j = true from by rw [hj]; exact Nat.beq_refl j]
      rw [if_pos ⟨by omega, by rw [show j - dp = i by omega]; exact List.mem_cons_self⟩, show j - dp = i by omega]
    · rw [show (dp + i).beq j = false from by
        cases hq : (dp + i).beq j with
        | false => rfl
        | true => exact absurd (Nat.eq_of_beq_eq_true hq) hj]
      show rv_el d1 (t.map (fun i => (dp + i, f i)) ++ u1) j = _
      rw [ih j]
      by_cases hd : dp ≤ j ∧ (j - dp) ∈ t
      · rw [if_pos hd, if_pos ⟨hd.1, List.mem_cons_of_mem _ hd.2⟩]
      · rw [if_neg hd, if_neg (fun hq => hd ⟨hq.1, by
          rcases List.mem_cons.mp hq.2 with e | e
          · exact absurd (by omega) hj
          · exact e⟩)]
/-- a string constant, by the wide instruction -/
theorem rs_ldcw {p : Program} {l : Launch} {e : Env} {R : Room} {s : State} {m : MethodId} {args : Array Value} {below : List Frame} {meth : Method} {c : Code} {H : Heap} {locs : List Loc} {cells slots : Nat} {Q : State → Prop} {cc : ByteArray} {pc : Nat} {ls : Array Slot} {rest : List Value} (hexec : p.tables.exec = Jvm.exec) (hb : c.code = cc) {own tx : String} {index q : Nat} (hown : s.vm.findClass own = some m.cls) (hZ : vk_R own index tx q s) (hdg : decode cc pc = .ok (.ldc_w index, 3))
    (k : W p l e R s m args below meth c H locs cells slots Q (F0 m (pc + 3) ls (.ref q :: rest))) : W p l e R s m args below meth c H locs cells slots Q (F0 m pc ls rest) := by
  intro T hT X
  obtain ⟨t, a1, b1⟩ := k T hT X
  refine ⟨t, ?_, b1⟩
  obtain ⟨k, cf, i, a', hk, hcf, hcp, -, hr, hev'⟩ := Cond.stringRef_spec (args := #[]) hown hZ.1
  cases hZ.2.symm.trans hev'
  obtain ⟨k', hk', he⟩ := X.warmed.alike.2.2 _ _ hk
  have hr' : k'.resolved[index]? = some (some (.string q)) := by
    rcases X.warmed.entry hk hk' index with h | ⟨h, -⟩
    · rw [h]; exact hr
    · rw [hr] at h; cases h
  have hdg2 : decode c.code (F0 m pc ls rest).pc = .ok (.ldc_w index, 3) := by rw [hb]; exact hdg
  jvm_step X.here [hexec, hdg2, ldc_w.wp_string (e := e) (s := T) (f := F0 m pc ls rest) X.here.top hk' (by rw [he]; exact hcf) hcp hr']
  exact a1
section RVS
variable {p : Program} {l : Launch} {e : Env} {R : Room} {s : State} {m : MethodId} {args : Array Value} {below : List Frame} {meth : Method} {c : Code} {ρ : rv_ρ} {D : va_G} {cA : Nat → ClassId} {A : Nat → Prop} {L0 : List Nat}
/-- from here on the method comes to one of the outcomes -/
def rv_G (p : Program) (l : Launch) (e : Env) (R : Room) (s : State) (m : MethodId) (args : Array Value) (below : List Frame) (meth : Method) (c : Code) (ρ : rv_ρ) (D : va_G) (cA : Nat → ClassId) (A : Nat → Prop) (L0 : List Nat) (nL pc : Nat) (ls : rv_L) (st : List rv_A) (h : List rv_C) (ce sl : Nat) (res : rv_R) : Prop :=
  (ce ≤ res.1 ∧ sl ≤ res.2.1) ∧ ∀ (res' : rv_R), rv_sub res res' → R.cells = res'.1 → R.slots = res'.2.1 → ∀ (lsC : Array Slot) (lv : List (Nat × Value)) (stk : List Value) (ws : va_W) (H : Heap) (locs : List Loc), lv_has lsC nL lv → rv_Ls ρ (ws.map Prod.fst) ls lv → rv_Vs ρ (ws.map Prod.fst) st stk → rv_Wd ρ D cA A s L0 h ws H locs →
    W p l e R s m args below meth c H locs ce sl (MQ below (rv_Q ρ D cA L0 A res'.2.2) args s res'.1 res'.2.1 A) (F0 m pc lsC stk)
theorem rv_map_set {ws : va_W} {k q : Nat} {e0 e1 : va_E} (h : ws[k]? = some (q, e0)) : (ws.set k (q, e1)).map Prod.fst = ws.map Prod.fst := by
  rw [List.map_set]
  obtain ⟨hl, hq⟩ := List.getElem?_eq_some_iff.mp h
  have e : (ws.map Prod.fst)[k]'(by rw [List.length_map]; exact hl) = q := by rw [List.getElem_map, hq]
  have h2 := List.set_getElem_self (as := ws.map Prod.fst) (i := k) (by rw [List.length_map]; exact hl)
  rw [e] at h2
  exact h2
theorem rv_ref_at {k : Nat} {v : Value} {ws : va_W} {c0 : rv_C} {h : List rv_C} (hv : rv_V ρ (ws.map Prod.fst) (rv_ref k) v) (hW : rv_Ws ρ (ws.map Prod.fst) cA h ws) (hc0 : rv_hget h k = some c0) : ∃ q e0, v = .ref q ∧ ws[k]? = some (q, e0) ∧ rv_E ρ (ws.map Prod.fst) cA c0 e0 := by
  obtain ⟨hk, hc⟩ := rv_hget_1 hc0
  obtain ⟨q, h1, h2⟩ := hv
  rw [if_pos hk] at h1
  obtain ⟨q', e0, h3, h4⟩ := rv_Ws_at hW hc
  rw [List.getElem?_map, h3] at h1
  cases h1
  exact ⟨q', e0, h2, h3, h4⟩
theorem rv_free {ws : va_W} {H : Heap} {locs : List Loc} (hD : va_D A ws) (hS : va_S A s.heap H locs) (hA : ∀ q, s.heap.size ≤ q → A q) : ∀ q, va_A ws H.size q → A q := by
  intro q h
  rcases h with ⟨k, e0, h⟩ | h
  · exact hD.2 k (q, e0) h
  · exact hA q (Nat.le_trans hS.1 h)
theorem rv_pfx {L ext : List Nat} : ∀ (k q : Nat), L[k]? = some q → (L ++ ext)[k]? = some q := by
  intro k q h
  rw [List.getElem?_append_left (List.getElem?_eq_some_iff.mp h).1]
  exact h
theorem rv_mq {res res' : rv_R} {T : State} (h : ∀ o ∈ res.2.2, o ∈ res'.2.2) {mc ms : Nat} (q : MQ below (rv_Q ρ D cA L0 A res.2.2) args s mc ms A T) : MQ below (rv_Q ρ D cA L0 A res'.2.2) args s mc ms A T := by
  obtain ⟨o, h1, h2, ⟨⟨o2, h3, h4⟩, h5⟩, h6⟩ := q
  exact ⟨o, h1, h2, ⟨⟨o2, h o2 h3, h4⟩, h5⟩, h6⟩
/-- behind a call -/
theorem rv_call {H : Heap} {locs : List Loc} {cells slots mc ms : Nat} {Q : State → Prop} {pc : Nat} {ls : Array Slot} {rest st0 : List Value} {a : Array Value} {A1 : Nat → Prop} {H0 : Heap} {free : Addr → Prop} {L1 : List Nat} {outs : List rv_O} (hr : va_Run p l e R s m args below meth c H locs cells slots mc ms (F0 m pc ls st0) rest (rv_Q ρ D cA L1 A1 outs a) free) (hS : va_S A H0 H locs) (hA : ∀ q, q < H.size → A1 q → A q) (hf : ∀ q, free q → A q)
    (kk : ∀ o ∈ outs, ∀ (ws : va_W) (v : Option Value) (H1 : Heap) (locs1 : List Loc), rv_rv ρ (ws.map Prod.fst) o.1 v → rv_Ws ρ (ws.map Prod.fst) cA o.2 ws → (∃ ext, ws.map Prod.fst = L1 ++ ext) → va_P D rv_cl ws H1 → va_D A1 ws → va_S A H0 H1 locs1 → W p l e R s m args below meth c H1 locs1 (cells + mc) (slots + ms) Q (F0 m (pc + 3) ls (v.toList ++ rest))) : W p l e R s m args below meth c H locs cells slots Q (F0 m pc ls st0) := by
  intro T hT X
  obtain ⟨v, st₀, t, T', L, h0, X', hL, e1, e2, ⟨⟨o, ho, ws, v2, hv, hq1, hq2, hq3, hq4, hq5⟩, hz, hk⟩, st⟩ := hr T hT X
  cases hv
  rw [h0] at hz hk
  obtain ⟨t2, a1, b1⟩ := kk o ho ws v T'.heap (locs ++ L) hq1 hq2 hq3 (by rw [e1]; exact hq4) hq5
    ⟨Nat.le_trans hS.1 (by rw [e1]; exact hz), fun q h1 h2 => by rw [e1, hk q (Nat.lt_of_lt_of_le h1 hS.1) (fun z => h2 (hA q (Nat.lt_of_lt_of_le h1 hS.1) z))]; exact hS.2.1 q h1 h2, fun q hq => by
      rcases List.mem_append.mp hq with h | h
      · exact hS.2.2 q h
      · exact hf _ (hL q h)⟩ T' rfl X'
  exact ⟨t2, st t2 a1, b1⟩
theorem rv_run_nil {call : Nat → Nat → List rv_A → List rv_C → Option rv_R} {nw : Nat → List rv_A} {ct : Nat → Nat} {body : List rv_I} {nL rt n : Nat} {ls : rv_L} {st : List rv_A} {h : List rv_C} {ce sl : Nat} {res : rv_R} (hh : rv_run call nw ct body nL rt n [] ls st h ce sl = some res) : False := by
  cases n <;> cases hh
theorem rv_seq_s : ∀ {body : List rv_I}, rv_seq body = true → ∀ (pre : List rv_I) (e1 e2 : rv_I) (t : List rv_I), body = pre ++ e1 :: e2 :: t → e2.1 = e1.1 + e1.2.2.1 := by
  intro body
  induction body with
  | nil => intro _ pre e1 e2 t h; cases pre <;> cases h
  | cons e0 r ih =>
    intro hs pre e1 e2 t h
    unfold rv_seq at hs
    rw [Bool.and_eq_true] at hs
    cases pre with
    | nil =>
      cases h
      exact Nat.eq_of_beq_eq_true hs.1
    | cons x pre =>
      cases h
      exact ih hs.2 pre e1 e2 t rfl

set_option maxHeartbeats 4000000 in
theorem rv_run_ok {d : Nat} {call : Nat → Nat → List rv_A → List rv_C → Option rv_R} (hcall : ∀ n mi as h res, call n mi as h = some res → rv_Mt l ρ d mi as h res ∧ ∃ i, rv_inf[mi]? = some i) (hcode : ∀ (mi : Nat) (y : MethodName) (bytes : ByteArray) (nL : Nat) (ret : Option FieldType), rv_inf[mi]? = some (y, bytes, nL, ret) → .code y bytes nL ret ∈ rv_T2 ∧ nL ≤ 40) (hcf : ∀ (ci : Nat) (C : String) (T : u_T) (N : Nat), rv_cl[ci]? = some (C, T, N) → rv_CF C T N (rv_nw ci)) (hini2 : ∀ (mi : Nat) (y : MethodName) (bytes : ByteArray) (nL : Nat) (ret : Option FieldType), rv_inf[mi]? = some (y, bytes, nL, ret) → y.name = "<init>" → ret = none) {y : MethodName} {bytes : ByteArray} {nL rt : Nat} {ret : Option FieldType} {body : List rv_I} (C : rv_Cx ρ p s m args meth c D cA A y bytes nL ret) (hrt : rv_rtk ret rt = true) (hdk : ∀ e ∈ body, decode bytes e.1 = .ok (e.2.1, e.2.2.1)) (hck : ∀ e ∈ body, rv_chk rv_inf rv_nest y.cls (decide (y.name = "<init>")) body e = true) (hsq : rv_seq body = true) (hR : R.frames = d + 1 ∧ R.locals = 60 * (d + 1)) :
    ∀ (n : Nat) (code : List rv_I) (ls : rv_L) (st : List rv_A) (h : List rv_C) (ce sl : Nat) (res : rv_R), rv_run call rv_nw rv_ct body nL rt n code ls st h ce sl = some res → (∃ pre, body = pre ++ code) → ∀ (e0 : rv_I) (t0 : List rv_I), code = e0 :: t0 → rv_G p l e R s m args below meth c ρ D cA A L0 nL e0.1 ls st h ce sl res := by
  obtain ⟨hx, hb, hml, hown, hts, hr, hlocks, hin, hKK, hA⟩ := C
  have hK := hKK.1
  intro n
  induction n with
  | zero => intro code ls st h ce sl res hrun; cases hrun
  | succ n IH =>
  intro code ls st h ce sl res hrun hpre e0 rest he0
  subst he0
  obtain ⟨pre, hpre⟩ := hpre
  have hmem : e0 ∈ body := by rw [hpre]; exact List.mem_append_right _ List.mem_cons_self
  have hdec := hdk e0 hmem
  have hchk0 := hck e0 hmem
  obtain ⟨pc, i, len, a, b, d0, ts⟩ := e0
  have go : ∀ {ls' : rv_L} {st' : List rv_A} {h' : List rv_C} {ce' sl' : Nat} {res1 : rv_R}, rv_run call rv_nw rv_ct body nL rt n rest ls' st' h' ce' sl' = some res1 → rv_G p l e R s m args below meth c ρ D cA A L0 nL (pc + len) ls' st' h' ce' sl' res1 := by
    intro ls' st' h' ce' sl' res1 hk
    cases hrest : rest with
    | nil => rw [hrest] at hk; exact (rv_run_nil hk).elim
    | cons e1 t1 =>
      have g := IH rest ls' st' h' ce' sl' res1 hk ⟨pre ++ [(pc, i, len, a, b, d0, ts)], by rw [hpre, List.append_assoc]; rfl⟩ e1 t1 hrest
      have hq : e1.1 = pc + len := rv_seq_s hsq pre _ e1 t1 (by rw [hpre, hrest])
      rw [hq] at g
      exact g
  have jmp : ∀ {a : Nat} {off : Int} {ls' : rv_L} {st' : List rv_A} {h' : List rv_C} {ce' sl' : Nat} {res1 : rv_R}, rv_tg body a pc off = true → ∃ tgt : Nat, (pc : Int) + off = (tgt : Int) ∧ (rv_run call rv_nw rv_ct body nL rt n (rv_drop a body) ls' st' h' ce' sl' = some res1 → rv_G p l e R s m args below meth c ρ D cA A L0 nL tgt ls' st' h' ce' sl' res1) := by
    intro a off ls' st' h' ce' sl' res1 ht
    unfold rv_tg at ht
    rw [rv_nth_eq] at ht
    split at ht
    · rename_i e1 he1
      refine ⟨e1.1, of_decide_eq_true ht, fun hk => ?_⟩
      obtain ⟨hl1, hq1⟩ := List.getElem?_eq_some_iff.mp he1
      rw [rv_drop_eq] at hk
      exact IH _ ls' st' h' ce' sl' res1 hk ⟨body.take a, (List.take_append_drop a body).symm⟩ e1 (body.drop (a + 1)) (by rw [← hq1]; exact List.drop_eq_getElem_cons hl1)
    · cases ht
  have hchk1 : ((rv_isT i || len.beq (rv_len i)) && _) = true := hchk0
  clear hchk0
  rw [Bool.and_eq_true] at hchk1
  have hchk := hchk1.2
  by_cases hT : rv_isT i = true
  · obtain ⟨df, lo, hi, os, rfl⟩ := rv_isT_i hT
    have hrun1 : rv_tsw lo ts st (fun q r => rv_run call rv_nw rv_ct body nL rt n (rv_drop q body) ls r h ce sl) = some res := hrun
    clear hrun
    obtain ⟨x, r, t0, tt, q, rfl, rfl, hk, hq⟩ := rv_tsw_i hrun1
    have hchk : rv_cts body pc df lo hi os (t0 :: tt) = true := hchk
    obtain ⟨c1, c2, c3, c4⟩ := rv_cts_i hchk
    rcases hq with ⟨hq, rfl⟩ | ⟨hq1, hq2⟩
    · obtain ⟨tgt, ht, hj⟩ := jmp (ls' := ls) (st' := r) (h' := h) (ce' := ce) (sl' := sl) (res1 := res) c1
      have g := hj hk
      refine ⟨g.1, fun res' hs hR1 hR2 lsC lv stk ws H locs hl hls hst hw => ?_⟩
      obtain ⟨w, r2, rfl, hv, hs2⟩ := rv_Vs_c hst
      cases hv
      exact lv_tableOut hx hb hdec (by rcases hq with hq | hq; exact Or.inl hq; exact Or.inr (by omega)) ht (g.2 res' hs hR1 hR2 lsC lv _ ws H locs hl hls hs2 hw)
    · obtain ⟨off, ho, htg⟩ := c4 _ _ hq2
      obtain ⟨tgt, ht, hj⟩ := jmp (ls' := ls) (st' := r) (h' := h) (ce' := ce) (sl' := sl) (res1 := res) htg
      have g := hj hk
      refine ⟨g.1, fun res' hs hR1 hR2 lsC lv stk ws H locs hl hls hst hw => ?_⟩
      obtain ⟨w, r2, rfl, hv, hs2⟩ := rv_Vs_c hst
      cases hv
      have hlt := (List.getElem?_eq_some_iff.mp hq2).1
      exact lv_tableIn hx hb hdec hq1 (by omega) ho ht (g.2 res' hs hR1 hR2 lsC lv _ ws H locs hl hls hs2 hw)
  have hlen : len = rv_len i := by
    have h1 := hchk1.1
    rw [Bool.or_eq_true] at h1
    rcases h1 with h1 | h1
    · exact absurd h1 hT
    · exact Nat.eq_of_beq_eq_true h1
  clear hchk1
  subst hlen
  clear hmem hck hdk hpre
  cases i with
  | iconst x =>
    have hrun1 : (rv_run call rv_nw rv_ct body nL rt n rest ls (.inl (Int32.ofNat a) :: st) h ce sl) = some res := hrun
    clear hrun
    have g := go hrun1
    refine ⟨g.1, fun res' hs hR1 hR2 lsC lv stk ws H locs hl hls hst hw => ?_⟩
    exact lv_iconst hx hb hdec (of_decide_eq_true hchk) (g.2 res' hs hR1 hR2 lsC lv _ ws H locs hl hls ⟨rfl, hst⟩ hw)
  | bipush x =>
    have hrun1 : (rv_run call rv_nw rv_ct body nL rt n rest ls (.inl (Int32.ofNat a) :: st) h ce sl) = some res := hrun
    clear hrun
    have g := go hrun1
    refine ⟨g.1, fun res' hs hR1 hR2 lsC lv stk ws H locs hl hls hst hw => ?_⟩
    exact lv_bipush hx hb hdec (of_decide_eq_true hchk) (g.2 res' hs hR1 hR2 lsC lv _ ws H locs hl hls ⟨rfl, hst⟩ hw)
  | sipush x =>
    have hrun1 : (rv_run call rv_nw rv_ct body nL rt n rest ls (.inl (Int32.ofNat a) :: st) h ce sl) = some res := hrun
    clear hrun
    have g := go hrun1
    refine ⟨g.1, fun res' hs hR1 hR2 lsC lv stk ws H locs hl hls hst hw => ?_⟩
    exact lv_sipush hx hb hdec (of_decide_eq_true hchk) (g.2 res' hs hR1 hR2 lsC lv _ ws H locs hl hls ⟨rfl, hst⟩ hw)
  | lconst x =>
    have hrun1 : (rv_run call rv_nw rv_ct body nL rt n rest ls (rv_lng (Int64.ofNat a) :: st) h ce sl) = some res := hrun
    clear hrun
    have g := go hrun1
    refine ⟨g.1, fun res' hs hR1 hR2 lsC lv stk ws H locs hl hls hst hw => ?_⟩
    exact lv_lconst hx hb hdec (of_decide_eq_true hchk) (g.2 res' hs hR1 hR2 lsC lv _ ws H locs hl hls ⟨rfl, hst⟩ hw)
  | ldc x =>
    cases d0 with
    | zero =>
      have hrun1 : (rv_run call rv_nw rv_ct body nL rt n rest ls (.inl (Int32.ofNat a) :: st) h ce sl) = some res := hrun
      clear hrun
      have g := go hrun1
      refine ⟨g.1, fun res' hs hR1 hR2 lsC lv stk ws H locs hl hls hst hw => ?_⟩
      obtain ⟨pl, hpl⟩ := rv_p1_s hchk
      exact lv_ldc hx hb hown (hts _ (rv_w_s hpl)) hdec (g.2 res' hs hR1 hR2 lsC lv _ ws H locs hl hls ⟨rfl, hst⟩ hw)
    | succ d0 =>
      have hrun1 : (rv_run call rv_nw rv_ct body nL rt n rest ls (rv_ref (100000 + a) :: st) h ce sl) = some res := hrun
      clear hrun
      have g := go hrun1
      refine ⟨g.1, fun res' hs hR1 hR2 lsC lv stk ws H locs hl hls hst hw => ?_⟩
      obtain ⟨ho, tx, hlit⟩ := rv_cst_s hchk
      have hZ := hKK.2.2.2.2.2.2.2 a x tx hlit
      rw [← ho] at hZ
      exact va_ldcS hx hb hown hZ hdec (g.2 res' hs hR1 hR2 lsC lv _ ws H locs hl hls ⟨⟨ρ.2.1 a, by rw [if_neg (by omega), show 100000 + a - 100000 = a by omega], rfl⟩, hst⟩ hw)
  | ldc_w x =>
    cases d0 with
    | zero =>
      have hrun1 : (rv_run call rv_nw rv_ct body nL rt n rest ls (.inl (Int32.ofNat a) :: st) h ce sl) = some res := hrun
      clear hrun
      have g := go hrun1
      refine ⟨g.1, fun res' hs hR1 hR2 lsC lv stk ws H locs hl hls hst hw => ?_⟩
      obtain ⟨pl, hpl⟩ := rv_p1_s hchk
      exact lv_ldcw hx hb hown (hts _ (rv_w_s hpl)) hdec (g.2 res' hs hR1 hR2 lsC lv _ ws H locs hl hls ⟨rfl, hst⟩ hw)
    | succ d0 =>
      have hrun1 : (rv_run call rv_nw rv_ct body nL rt n rest ls (rv_ref (100000 + a) :: st) h ce sl) = some res := hrun
      clear hrun
      have g := go hrun1
      refine ⟨g.1, fun res' hs hR1 hR2 lsC lv stk ws H locs hl hls hst hw => ?_⟩
      obtain ⟨ho, tx, hlit⟩ := rv_cst_s hchk
      have hZ := hKK.2.2.2.2.2.2.2 a x tx hlit
      rw [← ho] at hZ
      exact rs_ldcw hx hb hown hZ hdec (g.2 res' hs hR1 hR2 lsC lv _ ws H locs hl hls ⟨⟨ρ.2.1 a, by rw [if_neg (by omega), show 100000 + a - 100000 = a by omega], rfl⟩, hst⟩ hw)
  | ldc2_w x =>
    have hrun1 : (rv_run call rv_nw rv_ct body nL rt n rest ls (rv_lng (Int64.ofNat a) :: st) h ce sl) = some res := hrun
    clear hrun
    have g := go hrun1
    refine ⟨g.1, fun res' hs hR1 hR2 lsC lv stk ws H locs hl hls hst hw => ?_⟩
    obtain ⟨pl, hpl⟩ := rv_p1_s hchk
    exact lv_ldc2 hx hb hown (hts _ (rv_w_s hpl)) hdec (g.2 res' hs hR1 hR2 lsC lv _ ws H locs hl hls ⟨rfl, hst⟩ hw)
  | iload_n x =>
    have hrun1 : (rv_ld rv_isI ls a (fun v => rv_run call rv_nw rv_ct body nL rt n rest ls (v :: st) h ce sl)) = some res := hrun
    clear hrun
    obtain ⟨v0, hk, hf, hv0⟩ := rv_ld_i hrun1
    have g := go hk
    refine ⟨g.1, fun res' hs hR1 hR2 lsC lv stk ws H locs hl hls hst hw => ?_⟩
    obtain ⟨k, w, hk2, hv⟩ := rv_lget_i hv0 hls
    have hv1 := hv
    obtain ⟨z, rfl, -, -⟩ := rv_V_I hf hv
    exact lv_iload_n hx hb hdec (Nat.eq_of_beq_eq_true hchk) (lv_at hl k hk2) (g.2 res' hs hR1 hR2 lsC lv _ ws H locs hl hls ⟨hv1, hst⟩ hw)
  | iload x =>
    have hrun1 : (rv_ld rv_isI ls a (fun v => rv_run call rv_nw rv_ct body nL rt n rest ls (v :: st) h ce sl)) = some res := hrun
    clear hrun
    obtain ⟨v0, hk, hf, hv0⟩ := rv_ld_i hrun1
    have g := go hk
    refine ⟨g.1, fun res' hs hR1 hR2 lsC lv stk ws H locs hl hls hst hw => ?_⟩
    obtain ⟨k, w, hk2, hv⟩ := rv_lget_i hv0 hls
    have hv1 := hv
    obtain ⟨z, rfl, -, -⟩ := rv_V_I hf hv
    have hna := Nat.eq_of_beq_eq_true hchk
    subst hna
    exact lv_iload hx hb hdec (lv_at hl k hk2) (g.2 res' hs hR1 hR2 lsC lv _ ws H locs hl hls ⟨hv1, hst⟩ hw)
  | lload_n x =>
    have hrun1 : (rv_ld rv_isL ls a (fun v => rv_run call rv_nw rv_ct body nL rt n rest ls (v :: st) h ce sl)) = some res := hrun
    clear hrun
    obtain ⟨v0, hk, hf, hv0⟩ := rv_ld_i hrun1
    have g := go hk
    refine ⟨g.1, fun res' hs hR1 hR2 lsC lv stk ws H locs hl hls hst hw => ?_⟩
    obtain ⟨k, w, hk2, hv⟩ := rv_lget_i hv0 hls
    have hv1 := hv
    obtain ⟨z, rfl⟩ := rv_V_L hf hv
    exact lv_lload_n hx hb hdec (Nat.eq_of_beq_eq_true hchk) (lv_at hl k hk2) (g.2 res' hs hR1 hR2 lsC lv _ ws H locs hl hls ⟨hv1, hst⟩ hw)
  | lload x =>
    have hrun1 : (rv_ld rv_isL ls a (fun v => rv_run call rv_nw rv_ct body nL rt n rest ls (v :: st) h ce sl)) = some res := hrun
    clear hrun
    obtain ⟨v0, hk, hf, hv0⟩ := rv_ld_i hrun1
    have g := go hk
    refine ⟨g.1, fun res' hs hR1 hR2 lsC lv stk ws H locs hl hls hst hw => ?_⟩
    obtain ⟨k, w, hk2, hv⟩ := rv_lget_i hv0 hls
    have hv1 := hv
    obtain ⟨z, rfl⟩ := rv_V_L hf hv
    have hna := Nat.eq_of_beq_eq_true hchk
    subst hna
    exact lv_lload hx hb hdec (lv_at hl k hk2) (g.2 res' hs hR1 hR2 lsC lv _ ws H locs hl hls ⟨hv1, hst⟩ hw)
  | aload_n x =>
    have hrun1 : (rv_ld rv_isR ls a (fun v => rv_run call rv_nw rv_ct body nL rt n rest ls (v :: st) h ce sl)) = some res := hrun
    clear hrun
    obtain ⟨v0, hk, hf, hv0⟩ := rv_ld_i hrun1
    have g := go hk
    refine ⟨g.1, fun res' hs hR1 hR2 lsC lv stk ws H locs hl hls hst hw => ?_⟩
    obtain ⟨k, w, hk2, hv⟩ := rv_lget_i hv0 hls
    have hv1 := hv
    obtain ⟨z, rfl⟩ := rv_V_R hf hv
    exact lv_aload_n hx hb hdec (Nat.eq_of_beq_eq_true hchk) (lv_at hl k hk2) (g.2 res' hs hR1 hR2 lsC lv _ ws H locs hl hls ⟨hv1, hst⟩ hw)
  | aload x =>
    have hrun1 : (rv_ld rv_isR ls a (fun v => rv_run call rv_nw rv_ct body nL rt n rest ls (v :: st) h ce sl)) = some res := hrun
    clear hrun
    obtain ⟨v0, hk, hf, hv0⟩ := rv_ld_i hrun1
    have g := go hk
    refine ⟨g.1, fun res' hs hR1 hR2 lsC lv stk ws H locs hl hls hst hw => ?_⟩
    obtain ⟨k, w, hk2, hv⟩ := rv_lget_i hv0 hls
    have hv1 := hv
    obtain ⟨z, rfl⟩ := rv_V_R hf hv
    have hna := Nat.eq_of_beq_eq_true hchk
    subst hna
    exact lv_aload hx hb hdec (lv_at hl k hk2) (g.2 res' hs hR1 hR2 lsC lv _ ws H locs hl hls ⟨hv1, hst⟩ hw)
  | istore_n x =>
    have hrun1 : (rv_st1 rv_isI nL ls a st (fun ls' r => rv_run call rv_nw rv_ct body nL rt n rest ls' r h ce sl)) = some res := hrun
    clear hrun
    obtain ⟨v0, r, rfl, hf, hn, hk⟩ := rv_st1_i hrun1
    have g := go hk
    refine ⟨g.1, fun res' hs hR1 hR2 lsC lv stk ws H locs hl hls hst hw => ?_⟩
    obtain ⟨w, r2, rfl, hv, hs2⟩ := rv_Vs_c hst
    have hv1 := hv
    obtain ⟨z, rfl, -, -⟩ := rv_V_I hf hv
    exact lv_istore_n hx hb hdec (Nat.eq_of_beq_eq_true hchk) hl hn rfl (fun ls2 hl2 => g.2 res' hs hR1 hR2 ls2 _ _ ws H locs hl2 ⟨rfl, hv1, rv_Ls_f (fun a v h0 h1 => rv_keep1_e h0 h1) hls⟩ hs2 hw)
  | istore x =>
    have hrun1 : (rv_st1 rv_isI nL ls a st (fun ls' r => rv_run call rv_nw rv_ct body nL rt n rest ls' r h ce sl)) = some res := hrun
    clear hrun
    obtain ⟨v0, r, rfl, hf, hn, hk⟩ := rv_st1_i hrun1
    have g := go hk
    refine ⟨g.1, fun res' hs hR1 hR2 lsC lv stk ws H locs hl hls hst hw => ?_⟩
    obtain ⟨w, r2, rfl, hv, hs2⟩ := rv_Vs_c hst
    have hv1 := hv
    obtain ⟨z, rfl, -, -⟩ := rv_V_I hf hv
    have hna := Nat.eq_of_beq_eq_true hchk
    subst hna
    exact lv_istore hx hb hdec hl hn rfl (fun ls2 hl2 => g.2 res' hs hR1 hR2 ls2 _ _ ws H locs hl2 ⟨rfl, hv1, rv_Ls_f (fun a v h0 h1 => rv_keep1_e h0 h1) hls⟩ hs2 hw)
  | lstore_n x =>
    have hrun1 : (rv_st2 nL ls a st (fun ls' r => rv_run call rv_nw rv_ct body nL rt n rest ls' r h ce sl)) = some res := hrun
    clear hrun
    obtain ⟨v0, r, rfl, hf, hn, hk⟩ := rv_st2_i hrun1
    have g := go hk
    refine ⟨g.1, fun res' hs hR1 hR2 lsC lv stk ws H locs hl hls hst hw => ?_⟩
    obtain ⟨w, r2, rfl, hv, hs2⟩ := rv_Vs_c hst
    have hv1 := hv
    obtain ⟨z, rfl⟩ := rv_V_L hf hv
    exact lv_lstore_n hx hb hdec (Nat.eq_of_beq_eq_true hchk) hl hn rfl (fun ls2 hl2 => g.2 res' hs hR1 hR2 ls2 _ _ ws H locs hl2 ⟨rfl, hv1, rv_Ls_f (fun a v h0 h1 => rv_keep2_e h0 h1) hls⟩ hs2 hw)
  | lstore x =>
    have hrun1 : (rv_st2 nL ls a st (fun ls' r => rv_run call rv_nw rv_ct body nL rt n rest ls' r h ce sl)) = some res := hrun
    clear hrun
    obtain ⟨v0, r, rfl, hf, hn, hk⟩ := rv_st2_i hrun1
    have g := go hk
    refine ⟨g.1, fun res' hs hR1 hR2 lsC lv stk ws H locs hl hls hst hw => ?_⟩
    obtain ⟨w, r2, rfl, hv, hs2⟩ := rv_Vs_c hst
    have hv1 := hv
    obtain ⟨z, rfl⟩ := rv_V_L hf hv
    have hna := Nat.eq_of_beq_eq_true hchk
    subst hna
    exact lv_lstore hx hb hdec hl hn rfl (fun ls2 hl2 => g.2 res' hs hR1 hR2 ls2 _ _ ws H locs hl2 ⟨rfl, hv1, rv_Ls_f (fun a v h0 h1 => rv_keep2_e h0 h1) hls⟩ hs2 hw)
  | astore_n x =>
    have hrun1 : (rv_st1 rv_isR nL ls a st (fun ls' r => rv_run call rv_nw rv_ct body nL rt n rest ls' r h ce sl)) = some res := hrun
    clear hrun
    obtain ⟨v0, r, rfl, hf, hn, hk⟩ := rv_st1_i hrun1
    have g := go hk
    refine ⟨g.1, fun res' hs hR1 hR2 lsC lv stk ws H locs hl hls hst hw => ?_⟩
    obtain ⟨w, r2, rfl, hv, hs2⟩ := rv_Vs_c hst
    have hv1 := hv
    obtain ⟨z, rfl⟩ := rv_V_R hf hv
    exact lv_astore_n hx hb hdec (Nat.eq_of_beq_eq_true hchk) hl hn rfl (fun ls2 hl2 => g.2 res' hs hR1 hR2 ls2 _ _ ws H locs hl2 ⟨rfl, hv1, rv_Ls_f (fun a v h0 h1 => rv_keep1_e h0 h1) hls⟩ hs2 hw)
  | astore x =>
    have hrun1 : (rv_st1 rv_isR nL ls a st (fun ls' r => rv_run call rv_nw rv_ct body nL rt n rest ls' r h ce sl)) = some res := hrun
    clear hrun
    obtain ⟨v0, r, rfl, hf, hn, hk⟩ := rv_st1_i hrun1
    have g := go hk
    refine ⟨g.1, fun res' hs hR1 hR2 lsC lv stk ws H locs hl hls hst hw => ?_⟩
    obtain ⟨w, r2, rfl, hv, hs2⟩ := rv_Vs_c hst
    have hv1 := hv
    obtain ⟨z, rfl⟩ := rv_V_R hf hv
    have hna := Nat.eq_of_beq_eq_true hchk
    subst hna
    exact lv_astore hx hb hdec hl hn rfl (fun ls2 hl2 => g.2 res' hs hR1 hR2 ls2 _ _ ws H locs hl2 ⟨rfl, hv1, rv_Ls_f (fun a v h0 h1 => rv_keep1_e h0 h1) hls⟩ hs2 hw)
  | iinc q z =>
    have hrun1 : (rv_inc nL ls q z (fun ls' => rv_run call rv_nw rv_ct body nL rt n rest ls' st h ce sl)) = some res := hrun
    clear hrun
    obtain ⟨w0, hn, hk, hc⟩ := rv_inc_i hrun1
    have g := go hk
    refine ⟨g.1, fun res' hs hR1 hR2 lsC lv stk ws H locs hl hls hst hw => ?_⟩
    obtain ⟨k, u, hk2, hv⟩ := hc ρ _ lv hls
    exact lv_iinc hx hb hdec hl hk2 rfl hn rfl (fun ls2 hl2 => g.2 res' hs hR1 hR2 ls2 _ _ ws H locs hl2 ⟨rfl, hv, rv_Ls_f (fun a v h0 h1 => rv_keep1_e h0 h1) hls⟩ hst hw)
  | iadd =>
    have hrun1 : (rv_ib (fun x y => x + y) st (fun r => rv_run call rv_nw rv_ct body nL rt n rest ls r h ce sl)) = some res := hrun
    clear hrun
    obtain ⟨st', hk, hc⟩ := rv_ib_i hrun1
    have g := go hk
    refine ⟨g.1, fun res' hs hR1 hR2 lsC lv stk ws H locs hl hls hst hw => ?_⟩
    obtain ⟨u, v, r, rfl, hs2⟩ := hc _ _ _ hst
    exact lv_iadd hx hb hdec (g.2 res' hs hR1 hR2 lsC lv _ ws H locs hl hls hs2 hw)
  | isub =>
    have hrun1 : (rv_ib (fun x y => x - y) st (fun r => rv_run call rv_nw rv_ct body nL rt n rest ls r h ce sl)) = some res := hrun
    clear hrun
    obtain ⟨st', hk, hc⟩ := rv_ib_i hrun1
    have g := go hk
    refine ⟨g.1, fun res' hs hR1 hR2 lsC lv stk ws H locs hl hls hst hw => ?_⟩
    obtain ⟨u, v, r, rfl, hs2⟩ := hc _ _ _ hst
    exact lv_isub hx hb hdec (g.2 res' hs hR1 hR2 lsC lv _ ws H locs hl hls hs2 hw)
  | imul =>
    have hrun1 : (rv_ib (fun x y => x * y) st (fun r => rv_run call rv_nw rv_ct body nL rt n rest ls r h ce sl)) = some res := hrun
    clear hrun
    obtain ⟨st', hk, hc⟩ := rv_ib_i hrun1
    have g := go hk
    refine ⟨g.1, fun res' hs hR1 hR2 lsC lv stk ws H locs hl hls hst hw => ?_⟩
    obtain ⟨u, v, r, rfl, hs2⟩ := hc _ _ _ hst
    exact lv_imul hx hb hdec (g.2 res' hs hR1 hR2 lsC lv _ ws H locs hl hls hs2 hw)
  | iand =>
    have hrun1 : (rv_ib (fun x y => x &&& y) st (fun r => rv_run call rv_nw rv_ct body nL rt n rest ls r h ce sl)) = some res := hrun
    clear hrun
    obtain ⟨st', hk, hc⟩ := rv_ib_i hrun1
    have g := go hk
    refine ⟨g.1, fun res' hs hR1 hR2 lsC lv stk ws H locs hl hls hst hw => ?_⟩
    obtain ⟨u, v, r, rfl, hs2⟩ := hc _ _ _ hst
    exact lv_iand hx hb hdec (g.2 res' hs hR1 hR2 lsC lv _ ws H locs hl hls hs2 hw)
  | ior =>
    have hrun1 : (rv_ib (fun x y => x ||| y) st (fun r => rv_run call rv_nw rv_ct body nL rt n rest ls r h ce sl)) = some res := hrun
    clear hrun
    obtain ⟨st', hk, hc⟩ := rv_ib_i hrun1
    have g := go hk
    refine ⟨g.1, fun res' hs hR1 hR2 lsC lv stk ws H locs hl hls hst hw => ?_⟩
    obtain ⟨u, v, r, rfl, hs2⟩ := hc _ _ _ hst
    exact lv_ior hx hb hdec (g.2 res' hs hR1 hR2 lsC lv _ ws H locs hl hls hs2 hw)
  | ixor =>
    have hrun1 : (rv_ib (fun x y => x ^^^ y) st (fun r => rv_run call rv_nw rv_ct body nL rt n rest ls r h ce sl)) = some res := hrun
    clear hrun
    obtain ⟨st', hk, hc⟩ := rv_ib_i hrun1
    have g := go hk
    refine ⟨g.1, fun res' hs hR1 hR2 lsC lv stk ws H locs hl hls hst hw => ?_⟩
    obtain ⟨u, v, r, rfl, hs2⟩ := hc _ _ _ hst
    exact lv_ixor hx hb hdec (g.2 res' hs hR1 hR2 lsC lv _ ws H locs hl hls hs2 hw)
  | ishl =>
    have hrun1 : (rv_ib (fun x y => x <<< (y &&& 31)) st (fun r => rv_run call rv_nw rv_ct body nL rt n rest ls r h ce sl)) = some res := hrun
    clear hrun
    obtain ⟨st', hk, hc⟩ := rv_ib_i hrun1
    have g := go hk
    refine ⟨g.1, fun res' hs hR1 hR2 lsC lv stk ws H locs hl hls hst hw => ?_⟩
    obtain ⟨u, v, r, rfl, hs2⟩ := hc _ _ _ hst
    exact lv_ishl hx hb hdec (g.2 res' hs hR1 hR2 lsC lv _ ws H locs hl hls hs2 hw)
  | ishr =>
    have hrun1 : (rv_ib (fun x y => x >>> (y &&& 31)) st (fun r => rv_run call rv_nw rv_ct body nL rt n rest ls r h ce sl)) = some res := hrun
    clear hrun
    obtain ⟨st', hk, hc⟩ := rv_ib_i hrun1
    have g := go hk
    refine ⟨g.1, fun res' hs hR1 hR2 lsC lv stk ws H locs hl hls hst hw => ?_⟩
    obtain ⟨u, v, r, rfl, hs2⟩ := hc _ _ _ hst
    exact lv_ishr hx hb hdec (g.2 res' hs hR1 hR2 lsC lv _ ws H locs hl hls hs2 hw)
  | iushr =>
    have hrun1 : (rv_ib (fun x y => (x.toUInt32 >>> (y.toUInt32 &&& Int32.toUInt32 31)).toInt32) st (fun r => rv_run call rv_nw rv_ct body nL rt n rest ls r h ce sl)) = some res := hrun
    clear hrun
    obtain ⟨st', hk, hc⟩ := rv_ib_i hrun1
    have g := go hk
    refine ⟨g.1, fun res' hs hR1 hR2 lsC lv stk ws H locs hl hls hst hw => ?_⟩
    obtain ⟨u, v, r, rfl, hs2⟩ := hc _ _ _ hst
    exact lv_iushr hx hb hdec rfl (g.2 res' hs hR1 hR2 lsC lv _ ws H locs hl hls hs2 hw)
  | ladd =>
    have hrun1 : (rv_lb (fun x y => x + y) st (fun r => rv_run call rv_nw rv_ct body nL rt n rest ls r h ce sl)) = some res := hrun
    clear hrun
    obtain ⟨st', hk, hc⟩ := rv_lb_i hrun1
    have g := go hk
    refine ⟨g.1, fun res' hs hR1 hR2 lsC lv stk ws H locs hl hls hst hw => ?_⟩
    obtain ⟨u, v, r, rfl, hs2⟩ := hc _ _ _ hst
    exact lv_ladd hx hb hdec (g.2 res' hs hR1 hR2 lsC lv _ ws H locs hl hls hs2 hw)
  | lsub =>
    have hrun1 : (rv_lb (fun x y => x - y) st (fun r => rv_run call rv_nw rv_ct body nL rt n rest ls r h ce sl)) = some res := hrun
    clear hrun
    obtain ⟨st', hk, hc⟩ := rv_lb_i hrun1
    have g := go hk
    refine ⟨g.1, fun res' hs hR1 hR2 lsC lv stk ws H locs hl hls hst hw => ?_⟩
    obtain ⟨u, v, r, rfl, hs2⟩ := hc _ _ _ hst
    exact lv_lsub hx hb hdec (g.2 res' hs hR1 hR2 lsC lv _ ws H locs hl hls hs2 hw)
  | lmul =>
    have hrun1 : (rv_lb (fun x y => x * y) st (fun r => rv_run call rv_nw rv_ct body nL rt n rest ls r h ce sl)) = some res := hrun
    clear hrun
    obtain ⟨st', hk, hc⟩ := rv_lb_i hrun1
    have g := go hk
    refine ⟨g.1, fun res' hs hR1 hR2 lsC lv stk ws H locs hl hls hst hw => ?_⟩
    obtain ⟨u, v, r, rfl, hs2⟩ := hc _ _ _ hst
    exact lv_lmul hx hb hdec (g.2 res' hs hR1 hR2 lsC lv _ ws H locs hl hls hs2 hw)
  | land =>
    have hrun1 : (rv_lb (fun x y => x &&& y) st (fun r => rv_run call rv_nw rv_ct body nL rt n rest ls r h ce sl)) = some res := hrun
    clear hrun
    obtain ⟨st', hk, hc⟩ := rv_lb_i hrun1
    have g := go hk
    refine ⟨g.1, fun res' hs hR1 hR2 lsC lv stk ws H locs hl hls hst hw => ?_⟩
    obtain ⟨u, v, r, rfl, hs2⟩ := hc _ _ _ hst
    exact lv_land hx hb hdec (g.2 res' hs hR1 hR2 lsC lv _ ws H locs hl hls hs2 hw)
  | lor =>
    have hrun1 : (rv_lb (fun x y => x ||| y) st (fun r => rv_run call rv_nw rv_ct body nL rt n rest ls r h ce sl)) = some res := hrun
    clear hrun
    obtain ⟨st', hk, hc⟩ := rv_lb_i hrun1
    have g := go hk
    refine ⟨g.1, fun res' hs hR1 hR2 lsC lv stk ws H locs hl hls hst hw => ?_⟩
    obtain ⟨u, v, r, rfl, hs2⟩ := hc _ _ _ hst
    exact lv_lor hx hb hdec (g.2 res' hs hR1 hR2 lsC lv _ ws H locs hl hls hs2 hw)
  | lshl =>
    have hrun1 : (rv_ls (fun x y => x <<< (y.toInt64 &&& 63)) st (fun r => rv_run call rv_nw rv_ct body nL rt n rest ls r h ce sl)) = some res := hrun
    clear hrun
    obtain ⟨st', hk, hc⟩ := rv_ls_i hrun1
    have g := go hk
    refine ⟨g.1, fun res' hs hR1 hR2 lsC lv stk ws H locs hl hls hst hw => ?_⟩
    obtain ⟨u, v, r, rfl, hs2⟩ := hc _ _ _ hst
    exact lv_lshl hx hb hdec rfl (g.2 res' hs hR1 hR2 lsC lv _ ws H locs hl hls hs2 hw)
  | lshr =>
    have hrun1 : (rv_ls (fun x y => x >>> (y.toInt64 &&& 63)) st (fun r => rv_run call rv_nw rv_ct body nL rt n rest ls r h ce sl)) = some res := hrun
    clear hrun
    obtain ⟨st', hk, hc⟩ := rv_ls_i hrun1
    have g := go hk
    refine ⟨g.1, fun res' hs hR1 hR2 lsC lv stk ws H locs hl hls hst hw => ?_⟩
    obtain ⟨u, v, r, rfl, hs2⟩ := hc _ _ _ hst
    exact lv_lshr hx hb hdec rfl (g.2 res' hs hR1 hR2 lsC lv _ ws H locs hl hls hs2 hw)
  | lushr =>
    have hrun1 : (rv_ls (fun x y => (x.toUInt64 >>> (y.toInt64.toUInt64 &&& Int64.toUInt64 63)).toInt64) st (fun r => rv_run call rv_nw rv_ct body nL rt n rest ls r h ce sl)) = some res := hrun
    clear hrun
    obtain ⟨st', hk, hc⟩ := rv_ls_i hrun1
    have g := go hk
    refine ⟨g.1, fun res' hs hR1 hR2 lsC lv stk ws H locs hl hls hst hw => ?_⟩
    obtain ⟨u, v, r, rfl, hs2⟩ := hc _ _ _ hst
    exact lv_lushr hx hb hdec rfl (g.2 res' hs hR1 hR2 lsC lv _ ws H locs hl hls hs2 hw)
  | i2l =>
    have hrun1 : (rv_il st (fun r => rv_run call rv_nw rv_ct body nL rt n rest ls r h ce sl)) = some res := hrun
    clear hrun
    obtain ⟨st', hk, hc⟩ := rv_il_i hrun1
    have g := go hk
    refine ⟨g.1, fun res' hs hR1 hR2 lsC lv stk ws H locs hl hls hst hw => ?_⟩
    obtain ⟨u, r, rfl, hs2⟩ := hc _ _ _ hst
    exact lv_i2l hx hb hdec rfl (g.2 res' hs hR1 hR2 lsC lv _ ws H locs hl hls hs2 hw)
  | l2i =>
    have hrun1 : (rv_li st (fun r => rv_run call rv_nw rv_ct body nL rt n rest ls r h ce sl)) = some res := hrun
    clear hrun
    obtain ⟨st', hk, hc⟩ := rv_li_i hrun1
    have g := go hk
    refine ⟨g.1, fun res' hs hR1 hR2 lsC lv stk ws H locs hl hls hst hw => ?_⟩
    obtain ⟨u, r, rfl, hs2⟩ := hc _ _ _ hst
    exact lv_l2i hx hb hdec rfl (g.2 res' hs hR1 hR2 lsC lv _ ws H locs hl hls hs2 hw)
  | i2b =>
    have hrun1 : (rv_iu (fun x => x.toInt8.toInt32) st (fun r => rv_run call rv_nw rv_ct body nL rt n rest ls r h ce sl)) = some res := hrun
    clear hrun
    obtain ⟨st', hk, hc⟩ := rv_iu_i hrun1
    have g := go hk
    refine ⟨g.1, fun res' hs hR1 hR2 lsC lv stk ws H locs hl hls hst hw => ?_⟩
    obtain ⟨u, r, rfl, hs2⟩ := hc _ _ _ hst
    exact lv_i2b hx hb hdec rfl (g.2 res' hs hR1 hR2 lsC lv _ ws H locs hl hls hs2 hw)
  | i2s =>
    have hrun1 : (rv_iu (fun x => x.toInt16.toInt32) st (fun r => rv_run call rv_nw rv_ct body nL rt n rest ls r h ce sl)) = some res := hrun
    clear hrun
    obtain ⟨st', hk, hc⟩ := rv_iu_i hrun1
    have g := go hk
    refine ⟨g.1, fun res' hs hR1 hR2 lsC lv stk ws H locs hl hls hst hw => ?_⟩
    obtain ⟨u, r, rfl, hs2⟩ := hc _ _ _ hst
    exact lv_i2s hx hb hdec rfl (g.2 res' hs hR1 hR2 lsC lv _ ws H locs hl hls hs2 hw)
  | lcmp =>
    have hrun1 : (rv_lc st (fun r => rv_run call rv_nw rv_ct body nL rt n rest ls r h ce sl)) = some res := hrun
    clear hrun
    obtain ⟨st', hk, hc⟩ := rv_lc_i hrun1
    have g := go hk
    refine ⟨g.1, fun res' hs hR1 hR2 lsC lv stk ws H locs hl hls hst hw => ?_⟩
    obtain ⟨u, v, r, rfl, hs2⟩ := hc _ _ _ hst
    exact W.lcmp hx hb hdec (g.2 res' hs hR1 hR2 lsC lv _ ws H locs hl hls hs2 hw)
  | dup =>
    have hrun1 : (rv_dup st (fun r => rv_run call rv_nw rv_ct body nL rt n rest ls r h ce sl)) = some res := hrun
    clear hrun
    obtain ⟨v0, r, rfl, hf, hk⟩ := rv_dup_i hrun1
    have g := go hk
    refine ⟨g.1, fun res' hs hR1 hR2 lsC lv stk ws H locs hl hls hst hw => ?_⟩
    obtain ⟨w, r2, rfl, hv, hs2⟩ := rv_Vs_c hst
    exact lv_dup hx hb hdec (rv_V_c1 hf hv) (g.2 res' hs hR1 hR2 lsC lv _ ws H locs hl hls ⟨hv, hv, hs2⟩ hw)
  | dup2 =>
    have hrun1 : (rv_dp2 st (fun r => rv_run call rv_nw rv_ct body nL rt n rest ls r h ce sl)) = some res := hrun
    clear hrun
    obtain ⟨v0, v1, r, rfl, hf, hf1, hk⟩ := rv_dup2_i hrun1
    have g := go hk
    refine ⟨g.1, fun res' hs hR1 hR2 lsC lv stk ws H locs hl hls hst hw => ?_⟩
    obtain ⟨w, r2, rfl, hv, hs2⟩ := rv_Vs_c hst
    obtain ⟨w1, r3, rfl, hv1, hs3⟩ := rv_Vs_c hs2
    exact lv_dup2_11 hx hb hdec (rv_V_c1 hf hv) (rv_V_c1 hf1 hv1) (g.2 res' hs hR1 hR2 lsC lv _ ws H locs hl hls ⟨hv, hv1, hv, hv1, hs3⟩ hw)
  | goto off =>
    have hrun1 : (rv_run call rv_nw rv_ct body nL rt n (rv_drop a body) ls st h ce sl) = some res := hrun
    clear hrun
    obtain ⟨tgt, ht, hj⟩ := jmp hchk
    have g := hj hrun1
    refine ⟨g.1, fun res' hs hR1 hR2 lsC lv stk ws H locs hl hls hst hw => ?_⟩
    exact lv_goto hx hb hdec ht (g.2 res' hs hR1 hR2 lsC lv _ ws H locs hl hls hst hw)
  | ifCond cnd off =>
    have hrun1 : (rv_if1 (fun x => rv_cmp cnd x (.inl 0)) st (fun r => rv_run call rv_nw rv_ct body nL rt n (rv_drop a body) ls r h ce sl) (fun r => rv_run call rv_nw rv_ct body nL rt n rest ls r h ce sl)) = some res := hrun
    clear hrun
    obtain ⟨v0, r, rfl, hf, hbr⟩ := rv_if1_i hrun1
    have hbi := rv_br_i hbr
    obtain ⟨tgt, ht, -⟩ := jmp (ls' := ls) (st' := r) (h' := h) (ce' := ce) (sl' := sl) (res1 := res) hchk
    have kt : rv_cmp cnd v0 (.inl 0) ≠ some false → ∃ x1, rv_sub x1 res ∧ rv_G p l e R s m args below meth c ρ D cA A L0 nL tgt ls r h ce sl x1 := fun q => by
      obtain ⟨x1, e1, e2⟩ := hbi.1 q
      obtain ⟨tg2, ht2, hj⟩ := jmp (ls' := ls) (st' := r) (h' := h) (ce' := ce) (sl' := sl) (res1 := x1) hchk
      have : tg2 = tgt := by omega
      subst this
      exact ⟨x1, e2, hj e1⟩
    have kf : rv_cmp cnd v0 (.inl 0) ≠ some true → ∃ x1, rv_sub x1 res ∧ rv_G p l e R s m args below meth c ρ D cA A L0 nL (pc + 3) ls r h ce sl x1 := fun q => by
      obtain ⟨x1, e1, e2⟩ := hbi.2 q
      exact ⟨x1, e2, go e1⟩
    refine ⟨?_, fun res' hs hR1 hR2 lsC lv stk ws H locs hl hls hst hw => ?_⟩
    · by_cases q : rv_cmp cnd v0 (.inl 0) = some false
      · obtain ⟨x1, e2, g⟩ := kf (by rw [q]; decide)
        exact ⟨Nat.le_trans g.1.1 e2.1, Nat.le_trans g.1.2 e2.2.1⟩
      · obtain ⟨x1, e2, g⟩ := kt q
        exact ⟨Nat.le_trans g.1.1 e2.1, Nat.le_trans g.1.2 e2.2.1⟩
    · obtain ⟨w, r2, rfl, hv, hs2⟩ := rv_Vs_c hst
      obtain ⟨z, rfl, hz1, hz2⟩ := rv_V_I hf hv
      have KT : rv_cmp cnd v0 (.inl 0) ≠ some false → W p l e R s m args below meth c H locs ce sl (MQ below (rv_Q ρ D cA L0 A res'.2.2) args s res'.1 res'.2.1 A) (F0 m tgt lsC r2) := fun q => by
        obtain ⟨x1, e2, g⟩ := kt q
        exact g.2 res' (e2.tr hs) hR1 hR2 lsC lv _ ws H locs hl hls hs2 hw
      have KF : rv_cmp cnd v0 (.inl 0) ≠ some true → W p l e R s m args below meth c H locs ce sl (MQ below (rv_Q ρ D cA L0 A res'.2.2) args s res'.1 res'.2.1 A) (F0 m (pc + 3) lsC r2) := fun q => by
        obtain ⟨x1, e2, g⟩ := kf q
        exact g.2 res' (e2.tr hs) hR1 hR2 lsC lv _ ws H locs hl hls hs2 hw
      have h00 : rv_lo (.inl 0) ≤ (0 : Int32) := Int32.le_refl _
      have h01 : (0 : Int32) ≤ rv_hi (.inl 0) := Int32.le_refl _
      cases cnd with
      | eq => exact lv_if_eq hx hb hdec ht (fun q => KT (fun z1 => rv_eqq_f hz1 hz2 h00 h01 z1 q)) (fun q => KF (fun z1 => q (rv_eqq_t hz1 hz2 h00 h01 z1)))
      | ne => exact lv_if_ne hx hb hdec ht (fun q => KT (fun z1 => q (rv_eqq_t hz1 hz2 h00 h01 (rv_not_f z1)))) (fun q => KF (fun z1 => rv_eqq_f hz1 hz2 h00 h01 (rv_not_t z1) q))
      | lt => exact lv_if_lt hx hb hdec ht (fun q => KT (fun z1 => rv_ltq_f hz1 h01 z1 q)) (fun q => KF (fun z1 => q (rv_ltq_t hz2 h00 z1)))
      | ge => exact lv_if_ge hx hb hdec ht (fun q => KT (fun z1 => Int32.not_lt.mpr q (rv_ltq_t hz2 h00 (rv_not_f z1)))) (fun q => KF (fun z1 => rv_ltq_f hz1 h01 (rv_not_t z1) (Int32.not_le.mp q)))
      | gt => exact lv_if_gt hx hb hdec ht (fun q => KT (fun z1 => rv_ltq_f h00 hz2 z1 q)) (fun q => KF (fun z1 => q (rv_ltq_t h01 hz1 z1)))
      | le => exact lv_if_le hx hb hdec ht (fun q => KT (fun z1 => Int32.not_lt.mpr q (rv_ltq_t h01 hz1 (rv_not_f z1)))) (fun q => KF (fun z1 => rv_ltq_f h00 hz2 (rv_not_t z1) (Int32.not_le.mp q)))
  | if_icmp cnd off =>
    have hrun1 : (rv_if2 (fun x y => rv_cmp cnd x y) st (fun r => rv_run call rv_nw rv_ct body nL rt n (rv_drop a body) ls r h ce sl) (fun r => rv_run call rv_nw rv_ct body nL rt n rest ls r h ce sl)) = some res := hrun
    clear hrun
    obtain ⟨v0, v1, r, rfl, hf1, hf, hbr⟩ := rv_if2_i hrun1
    have hbi := rv_br_i hbr
    obtain ⟨tgt, ht, -⟩ := jmp (ls' := ls) (st' := r) (h' := h) (ce' := ce) (sl' := sl) (res1 := res) hchk
    have kt : rv_cmp cnd v0 v1 ≠ some false → ∃ x1, rv_sub x1 res ∧ rv_G p l e R s m args below meth c ρ D cA A L0 nL tgt ls r h ce sl x1 := fun q => by
      obtain ⟨x1, e1, e2⟩ := hbi.1 q
      obtain ⟨tg2, ht2, hj⟩ := jmp (ls' := ls) (st' := r) (h' := h) (ce' := ce) (sl' := sl) (res1 := x1) hchk
      have : tg2 = tgt := by omega
      subst this
      exact ⟨x1, e2, hj e1⟩
    have kf : rv_cmp cnd v0 v1 ≠ some true → ∃ x1, rv_sub x1 res ∧ rv_G p l e R s m args below meth c ρ D cA A L0 nL (pc + 3) ls r h ce sl x1 := fun q => by
      obtain ⟨x1, e1, e2⟩ := hbi.2 q
      exact ⟨x1, e2, go e1⟩
    refine ⟨?_, fun res' hs hR1 hR2 lsC lv stk ws H locs hl hls hst hw => ?_⟩
    · by_cases q : rv_cmp cnd v0 v1 = some false
      · obtain ⟨x1, e2, g⟩ := kf (by rw [q]; decide)
        exact ⟨Nat.le_trans g.1.1 e2.1, Nat.le_trans g.1.2 e2.2.1⟩
      · obtain ⟨x1, e2, g⟩ := kt q
        exact ⟨Nat.le_trans g.1.1 e2.1, Nat.le_trans g.1.2 e2.2.1⟩
    · obtain ⟨w, r1, rfl, hv1, hs1⟩ := rv_Vs_c hst
      obtain ⟨w0, r2, rfl, hv, hs2⟩ := rv_Vs_c hs1
      obtain ⟨z, rfl, hz1, hz2⟩ := rv_V_I hf hv
      obtain ⟨z', rfl, h00, h01⟩ := rv_V_I hf1 hv1
      have KT : rv_cmp cnd v0 v1 ≠ some false → W p l e R s m args below meth c H locs ce sl (MQ below (rv_Q ρ D cA L0 A res'.2.2) args s res'.1 res'.2.1 A) (F0 m tgt lsC r2) := fun q => by
        obtain ⟨x1, e2, g⟩ := kt q
        exact g.2 res' (e2.tr hs) hR1 hR2 lsC lv _ ws H locs hl hls hs2 hw
      have KF : rv_cmp cnd v0 v1 ≠ some true → W p l e R s m args below meth c H locs ce sl (MQ below (rv_Q ρ D cA L0 A res'.2.2) args s res'.1 res'.2.1 A) (F0 m (pc + 3) lsC r2) := fun q => by
        obtain ⟨x1, e2, g⟩ := kf q
        exact g.2 res' (e2.tr hs) hR1 hR2 lsC lv _ ws H locs hl hls hs2 hw
      cases cnd with
      | eq => exact lv_icmp_eq hx hb hdec ht (fun q => KT (fun z1 => rv_eqq_f hz1 hz2 h00 h01 z1 q)) (fun q => KF (fun z1 => q (rv_eqq_t hz1 hz2 h00 h01 z1)))
      | ne => exact lv_icmp_ne hx hb hdec ht (fun q => KT (fun z1 => q (rv_eqq_t hz1 hz2 h00 h01 (rv_not_f z1)))) (fun q => KF (fun z1 => rv_eqq_f hz1 hz2 h00 h01 (rv_not_t z1) q))
      | lt => exact lv_icmp_lt hx hb hdec ht (fun q => KT (fun z1 => rv_ltq_f hz1 h01 z1 q)) (fun q => KF (fun z1 => q (rv_ltq_t hz2 h00 z1)))
      | ge => exact lv_icmp_ge hx hb hdec ht (fun q => KT (fun z1 => Int32.not_lt.mpr q (rv_ltq_t hz2 h00 (rv_not_f z1)))) (fun q => KF (fun z1 => rv_ltq_f hz1 h01 (rv_not_t z1) (Int32.not_le.mp q)))
      | gt => exact lv_icmp_gt hx hb hdec ht (fun q => KT (fun z1 => rv_ltq_f h00 hz2 z1 q)) (fun q => KF (fun z1 => q (rv_ltq_t h01 hz1 z1)))
      | le => exact lv_icmp_le hx hb hdec ht (fun q => KT (fun z1 => Int32.not_lt.mpr q (rv_ltq_t h01 hz1 (rv_not_f z1)))) (fun q => KF (fun z1 => rv_ltq_f h00 hz2 (rv_not_t z1) (Int32.not_le.mp q)))
  | getfield k =>
    have hrun1 : (rv_gf a b h st (fun r => rv_run call rv_nw rv_ct body nL rt n rest ls r h ce sl)) = some res := hrun
    clear hrun
    obtain ⟨q, fs, v, r, rfl, hc, hv, hk⟩ := rv_gf_i hrun1
    have g := go hk
    by_cases hd8 : d0 = 8
    · subst hd8
      have hchk : rv_cgn rv_nest y.cls k a b ts = true := hchk
      obtain ⟨C, T, N, hcl, hbN, hT, hw0⟩ := rv_cgn_s hchk
      refine ⟨g.1, fun res' hs hR1 hR2 lsC lv stk ws H locs hl hls hst hw => ?_⟩
      obtain ⟨w, r2, rfl, hrv, hs2⟩ := rv_Vs_c hst
      obtain ⟨ad, e0, rfl, hat, he0⟩ := rv_ref_at hrv hw.1 hc
      obtain ⟨vs, rfl, hvs⟩ := he0
      obtain ⟨v2, hv2, hv3⟩ := rv_Vs_at hvs hv
      exact va_getN (D := D) (ci := a) (C := C) (T := T) (N := N) hx hb hts (hcf _ _ _ _ hcl).1 hown hK hw.2.1 q hat hcl b hbN (va_Nw.use rfl (hKK.2.2.2.1 _ hw0)) (fun _ h9 => by rw [hT] at h9; exact h9) hv2 hdec (g.2 res' hs hR1 hR2 lsC lv _ ws H locs hl hls ⟨hv3, hs2⟩ hw)
    replace hchk : Bool.rec (motive := fun _ => Bool) (rv_cgf y.cls k a b ts) (rv_cgn rv_nest y.cls k a b ts) (d0.beq 8) = true := hchk
    rw [show d0.beq 8 = false from by
      cases hq : d0.beq 8 with
      | false => rfl
      | true => exact absurd (Nat.eq_of_beq_eq_true hq) hd8] at hchk
    obtain ⟨C, T, N, hcl, hbN, hT, hw0⟩ := rv_cgf_s hchk
    refine ⟨g.1, fun res' hs hR1 hR2 lsC lv stk ws H locs hl hls hst hw => ?_⟩
    obtain ⟨w, r2, rfl, hrv, hs2⟩ := rv_Vs_c hst
    obtain ⟨ad, e0, rfl, hat, he0⟩ := rv_ref_at hrv hw.1 hc
    obtain ⟨vs, rfl, hvs⟩ := he0
    obtain ⟨v2, hv2, hv3⟩ := rv_Vs_at hvs hv
    exact va_get (D := D) (ci := a) (C := C) (T := T) (N := N) hx hb hts (hcf _ _ _ _ hcl).1 hown hK hw.2.1 q hat hcl b hbN (hts _ hw0) (fun _ h9 => by rw [hT] at h9; exact h9) hv2 hdec (g.2 res' hs hR1 hR2 lsC lv _ ws H locs hl hls ⟨hv3, hs2⟩ hw)
  | putfield k =>
    have hrun1 : (rv_pf a b d0 h st (fun h' r => rv_run call rv_nw rv_ct body nL rt n rest ls r h' ce sl)) = some res := hrun
    clear hrun
    obtain ⟨v, q, r, fs, rfl, hc, hfl, hft, hk⟩ := rv_pf_i hrun1
    have g := go hk
    obtain ⟨C, T, N, hcl, hbN, hT, hw0, hd0, hfin⟩ := rv_cpf_s hchk
    refine ⟨g.1, fun res' hs hR1 hR2 lsC lv stk ws H locs hl hls hst hw => ?_⟩
    obtain ⟨w, r1, rfl, hv, hs1⟩ := rv_Vs_c hst
    obtain ⟨w2, r2, rfl, hrv, hs2⟩ := rv_Vs_c hs1
    obtain ⟨ad, e0, rfl, hat, he0⟩ := rv_ref_at hrv hw.1 hc
    obtain ⟨vs, rfl, hvs⟩ := he0
    obtain ⟨hin1, ty, hty, hnm, -⟩ := hcf _ _ _ _ hcl
    obtain ⟨ty1, hp1, hn1, hf1⟩ := rv_ft_s hd0 hft hv
    have hkk : ∀ (H1 : Heap) (locs1 : List Loc), va_P D rv_cl (ws.set q (ad, .inr (a, vs.set b w))) H1 → va_D A (ws.set q (ad, .inr (a, vs.set b w))) → va_S A s.heap H1 locs1 → W p l e R s m args below meth c H1 locs1 ce sl (MQ below (rv_Q ρ D cA L0 A res'.2.2) args s res'.1 res'.2.1 A) (F0 m (pc + 3) lsC r2) := fun H1 locs1 hP1 hD1 hS1 => by
      have hm : (ws.set q (ad, .inr (a, vs.set b w))).map Prod.fst = ws.map Prod.fst := rv_map_set hat
      refine g.2 res' hs hR1 hR2 lsC lv _ _ H1 locs1 hl (by rw [hm]; exact hls) (by rw [hm]; exact hs2) ⟨?_, hP1, hD1, hS1, by rw [hm]; exact hw.2.2.2.2⟩
      rw [hm]
      exact rv_Ws_set (show rv_E ρ (ws.map Prod.fst) cA (.inl (a, fs.set b v)) (.inr (a, vs.set b w)) from ⟨_, rfl, rv_Vs_set hv b hvs⟩) q hw.1
    rcases hfin with hfin | ⟨hini, hCo⟩
    · exact va_put (D := D) (ci := a) (v := w) (ty := ty1) (C := C) (T := T) (N := N) hx hb hts hin1 ty hty hnm hown hK hw.2.1 hw.2.2.1 hw.2.2.2.1 q hat hcl b hbN (hts _ hw0) (fun _ h9 => by rw [hT] at h9; exact h9) hfin hp1 hn1 hf1 (by rw [← rv_Vs_len hvs]; exact hfl) hdec hkk
    · by_cases hfin2 : (T b).2.2.2 = false
      · exact va_put (D := D) (ci := a) (v := w) (ty := ty1) (C := C) (T := T) (N := N) hx hb hts hin1 ty hty hnm hown hK hw.2.1 hw.2.2.1 hw.2.2.2.1 q hat hcl b hbN (hts _ hw0) (fun _ h9 => by rw [hT] at h9; exact h9) hfin2 hp1 hn1 hf1 (by rw [← rv_Vs_len hvs]; exact hfl) hdec hkk
      · exact va_putF (D := D) (ci := a) (v := w) (ty := ty1) (C := C) (T := T) (N := N) hx hb hts hin1 ty hty hnm hown hK hw.2.1 hw.2.2.1 hw.2.2.2.1 q hat hcl b hbN (hts _ hw0) (fun _ h9 => by rw [hT] at h9; exact h9) (by simpa using hfin2) (hin (of_decide_eq_true hini)) (hT.trans hCo) hp1 hn1 hf1 (by rw [← rv_Vs_len hvs]; exact hfl) hdec hkk
  | iaload =>
    have hrun1 : (rv_ald (fun t => t.beq 0) h st (fun r => rv_run call rv_nw rv_ct body nL rt n rest ls r h ce sl)) = some res := hrun
    clear hrun
    obtain ⟨i0, q, r, t, nn, dd, ups, v, rfl, hc, hok, hi, hix, hk⟩ := rv_ald_i hrun1
    have g := go hk
    refine ⟨g.1, fun res' hs hR1 hR2 lsC lv stk ws H locs hl hls hst hw => ?_⟩
    obtain ⟨w, r1, rfl, hv, hs1⟩ := rv_Vs_c hst
    obtain ⟨w2, r2, rfl, hrv, hs2⟩ := rv_Vs_c hs1
    obtain ⟨z, rfl, hz1, hz2⟩ := rv_V_I hi hv
    obtain ⟨hin0, hel⟩ := hix z hz1 hz2
    obtain ⟨ad, e0, rfl, hat, he0⟩ := rv_ref_at hrv hw.1 hc
    have hlt : z.toNatClampNeg < nn := Nat.not_le.mp fun q => hin0 (Or.inr q)
    have ht : t = 0 := Nat.eq_of_beq_eq_true hok
    subst ht
    obtain ⟨f, rfl, hf⟩ := he0
    have hv3 := hf _ hlt
    rw [hel] at hv3
    exact va_iald hx hb hK hw.2.1 q 0 hat rfl hin0 hdec (g.2 res' hs hR1 hR2 lsC lv _ ws H locs hl hls ⟨hv3, hs2⟩ hw)
  | laload =>
    have hrun1 : (rv_ald (fun t => t.beq 1) h st (fun r => rv_run call rv_nw rv_ct body nL rt n rest ls r h ce sl)) = some res := hrun
    clear hrun
    obtain ⟨i0, q, r, t, nn, dd, ups, v, rfl, hc, hok, hi, hix, hk⟩ := rv_ald_i hrun1
    have g := go hk
    refine ⟨g.1, fun res' hs hR1 hR2 lsC lv stk ws H locs hl hls hst hw => ?_⟩
    obtain ⟨w, r1, rfl, hv, hs1⟩ := rv_Vs_c hst
    obtain ⟨w2, r2, rfl, hrv, hs2⟩ := rv_Vs_c hs1
    obtain ⟨z, rfl, hz1, hz2⟩ := rv_V_I hi hv
    obtain ⟨hin0, hel⟩ := hix z hz1 hz2
    obtain ⟨ad, e0, rfl, hat, he0⟩ := rv_ref_at hrv hw.1 hc
    have hlt : z.toNatClampNeg < nn := Nat.not_le.mp fun q => hin0 (Or.inr q)
    have ht : t = 1 := Nat.eq_of_beq_eq_true hok
    subst ht
    obtain ⟨f, rfl, hf⟩ := he0
    have hv3 := hf _ hlt
    rw [hel] at hv3
    exact va_lald hx hb hK hw.2.1 q 1 hat rfl hin0 hdec (g.2 res' hs hR1 hR2 lsC lv _ ws H locs hl hls ⟨hv3, hs2⟩ hw)
  | baload =>
    have hrun1 : (rv_ald (fun t => t.beq 2 || t.beq 3) h st (fun r => rv_run call rv_nw rv_ct body nL rt n rest ls r h ce sl)) = some res := hrun
    clear hrun
    obtain ⟨i0, q, r, t, nn, dd, ups, v, rfl, hc, hok, hi, hix, hk⟩ := rv_ald_i hrun1
    have g := go hk
    refine ⟨g.1, fun res' hs hR1 hR2 lsC lv stk ws H locs hl hls hst hw => ?_⟩
    obtain ⟨w, r1, rfl, hv, hs1⟩ := rv_Vs_c hst
    obtain ⟨w2, r2, rfl, hrv, hs2⟩ := rv_Vs_c hs1
    obtain ⟨z, rfl, hz1, hz2⟩ := rv_V_I hi hv
    obtain ⟨hin0, hel⟩ := hix z hz1 hz2
    obtain ⟨ad, e0, rfl, hat, he0⟩ := rv_ref_at hrv hw.1 hc
    have hlt : z.toNatClampNeg < nn := Nat.not_le.mp fun q => hin0 (Or.inr q)
    rw [Bool.or_eq_true] at hok
    rcases hok with hok | hok
    · have ht : t = 2 := Nat.eq_of_beq_eq_true hok
      subst ht
      obtain ⟨f, rfl, hf⟩ := he0
      have hv3 := hf _ hlt
      rw [hel] at hv3
      exact va_bald hx hb hK hw.2.1 q 2 hat rfl hin0 hdec (g.2 res' hs hR1 hR2 lsC lv _ ws H locs hl hls ⟨hv3, hs2⟩ hw)
    · have ht : t = 3 := Nat.eq_of_beq_eq_true hok
      subst ht
      obtain ⟨f, rfl, hf⟩ := he0
      have hv3 := hf _ hlt
      rw [hel] at hv3
      exact va_zald hx hb hK hw.2.1 q 3 hat rfl hin0 hdec (g.2 res' hs hR1 hR2 lsC lv _ ws H locs hl hls ⟨hv3, hs2⟩ hw)
  | aaload =>
    have hrun1 : (rv_ald (fun t => t.beq 4 || t.beq 5) h st (fun r => rv_run call rv_nw rv_ct body nL rt n rest ls r h ce sl)) = some res := hrun
    clear hrun
    obtain ⟨i0, q, r, t, nn, dd, ups, v, rfl, hc, hok, hi, hix, hk⟩ := rv_ald_i hrun1
    have g := go hk
    refine ⟨g.1, fun res' hs hR1 hR2 lsC lv stk ws H locs hl hls hst hw => ?_⟩
    obtain ⟨w, r1, rfl, hv, hs1⟩ := rv_Vs_c hst
    obtain ⟨w2, r2, rfl, hrv, hs2⟩ := rv_Vs_c hs1
    obtain ⟨z, rfl, hz1, hz2⟩ := rv_V_I hi hv
    obtain ⟨hin0, hel⟩ := hix z hz1 hz2
    obtain ⟨ad, e0, rfl, hat, he0⟩ := rv_ref_at hrv hw.1 hc
    have hlt : z.toNatClampNeg < nn := Nat.not_le.mp fun q => hin0 (Or.inr q)
    rw [Bool.or_eq_true] at hok
    rcases hok with hok | hok
    · have ht : t = 4 := Nat.eq_of_beq_eq_true hok
      subst ht
      obtain ⟨f, rfl, hf⟩ := he0
      have hv3 := hf _ hlt
      rw [hel] at hv3
      exact va_aldq hx hb hK hw.2.1 q 4 hat rfl hin0 hdec (g.2 res' hs hR1 hR2 lsC lv _ ws H locs hl hls ⟨hv3, hs2⟩ hw)
    · have ht : t = 5 := Nat.eq_of_beq_eq_true hok
      subst ht
      obtain ⟨f, rfl, hf⟩ := he0
      have hv3 := hf _ hlt
      rw [hel] at hv3
      exact va_aldq hx hb hK hw.2.1 q 5 hat rfl hin0 hdec (g.2 res' hs hR1 hR2 lsC lv _ ws H locs hl hls ⟨hv3, hs2⟩ hw)
  | iastore =>
    have hrun1 : (rv_ast (fun t => t.beq 0) h st (fun h' r => rv_run call rv_nw rv_ct body nL rt n rest ls r h' ce sl)) = some res := hrun
    clear hrun
    obtain ⟨v, i0, q, r, t, nn, dd, ups, w0, u, j, rfl, hc, hok, hi, hix, hnar, hu, hk⟩ := rv_ast_i hrun1
    have g := go hk
    refine ⟨g.1, fun res' hs hR1 hR2 lsC lv stk ws H locs hl hls hst hw => ?_⟩
    obtain ⟨w, r0, rfl, hv, hs0⟩ := rv_Vs_c hst
    obtain ⟨w1, r1, rfl, hv1, hs1⟩ := rv_Vs_c hs0
    obtain ⟨w2, r2, rfl, hrv, hs2⟩ := rv_Vs_c hs1
    obtain ⟨z, rfl, hz1, hz2⟩ := rv_V_I hi hv1
    obtain ⟨hin0, hj⟩ := hix z hz1 hz2
    obtain ⟨ad, e0, rfl, hat, he0⟩ := rv_ref_at hrv hw.1 hc
    have ht : t = 0 := Nat.eq_of_beq_eq_true hok
    subst ht
    obtain ⟨f, rfl, hf⟩ := he0
    obtain ⟨x, rfl, hnv⟩ := rv_nar_0 hnar hv
    refine va_iast hx hb hK hw.2.1 hw.2.2.1 hw.2.2.2.1 q 0 hat rfl hin0 hdec (fun H1 locs1 hP1 hD1 hS1 => ?_)
    have hm := rv_map_set (e1 := .inl (cA 0, nn, .inl (upd f z.toNatClampNeg x))) hat
    refine g.2 res' hs hR1 hR2 lsC lv _ _ H1 locs1 hl (by rw [hm]; exact hls) (by rw [hm]; exact hs2) ⟨?_, hP1, hD1, hS1, by rw [hm]; exact hw.2.2.2.2⟩
    rw [hm]
    refine rv_Ws_set (show rv_E ρ (ws.map Prod.fst) cA (.inr (0, nn, dd, u)) (.inl (cA 0, nn, .inl (upd f z.toNatClampNeg x))) from ⟨_, rfl, fun j1 hj1 => ?_⟩) q hw.1
    rw [hu, ← hj]
    by_cases hjj : j1 = z.toNatClampNeg
    · rw [if_pos hjj, hjj]
      first | (rw [pk_us]; exact hnv) | (rw [pk_uLs]; exact hnv)
    · rw [if_neg hjj]
      first | (rw [pk_un hjj]; exact hf j1 hj1) | (rw [pk_uLn hjj]; exact hf j1 hj1)
  | lastore =>
    have hrun1 : (rv_ast (fun t => t.beq 1) h st (fun h' r => rv_run call rv_nw rv_ct body nL rt n rest ls r h' ce sl)) = some res := hrun
    clear hrun
    obtain ⟨v, i0, q, r, t, nn, dd, ups, w0, u, j, rfl, hc, hok, hi, hix, hnar, hu, hk⟩ := rv_ast_i hrun1
    have g := go hk
    refine ⟨g.1, fun res' hs hR1 hR2 lsC lv stk ws H locs hl hls hst hw => ?_⟩
    obtain ⟨w, r0, rfl, hv, hs0⟩ := rv_Vs_c hst
    obtain ⟨w1, r1, rfl, hv1, hs1⟩ := rv_Vs_c hs0
    obtain ⟨w2, r2, rfl, hrv, hs2⟩ := rv_Vs_c hs1
    obtain ⟨z, rfl, hz1, hz2⟩ := rv_V_I hi hv1
    obtain ⟨hin0, hj⟩ := hix z hz1 hz2
    obtain ⟨ad, e0, rfl, hat, he0⟩ := rv_ref_at hrv hw.1 hc
    have ht : t = 1 := Nat.eq_of_beq_eq_true hok
    subst ht
    obtain ⟨f, rfl, hf⟩ := he0
    obtain ⟨x, rfl, hnv⟩ := rv_nar_1 hnar hv
    refine va_last hx hb hK hw.2.1 hw.2.2.1 hw.2.2.2.1 q 1 hat rfl hin0 hdec (fun H1 locs1 hP1 hD1 hS1 => ?_)
    have hm := rv_map_set (e1 := .inl (cA 1, nn, .inr (.inl (vp_updL f z.toNatClampNeg x)))) hat
    refine g.2 res' hs hR1 hR2 lsC lv _ _ H1 locs1 hl (by rw [hm]; exact hls) (by rw [hm]; exact hs2) ⟨?_, hP1, hD1, hS1, by rw [hm]; exact hw.2.2.2.2⟩
    rw [hm]
    refine rv_Ws_set (show rv_E ρ (ws.map Prod.fst) cA (.inr (1, nn, dd, u)) (.inl (cA 1, nn, .inr (.inl (vp_updL f z.toNatClampNeg x)))) from ⟨_, rfl, fun j1 hj1 => ?_⟩) q hw.1
    rw [hu, ← hj]
    by_cases hjj : j1 = z.toNatClampNeg
    · rw [if_pos hjj, hjj]
      first | (rw [pk_us]; exact hnv) | (rw [pk_uLs]; exact hnv)
    · rw [if_neg hjj]
      first | (rw [pk_un hjj]; exact hf j1 hj1) | (rw [pk_uLn hjj]; exact hf j1 hj1)
  | bastore =>
    have hrun1 : (rv_ast (fun t => t.beq 2 || t.beq 3) h st (fun h' r => rv_run call rv_nw rv_ct body nL rt n rest ls r h' ce sl)) = some res := hrun
    clear hrun
    obtain ⟨v, i0, q, r, t, nn, dd, ups, w0, u, j, rfl, hc, hok, hi, hix, hnar, hu, hk⟩ := rv_ast_i hrun1
    have g := go hk
    refine ⟨g.1, fun res' hs hR1 hR2 lsC lv stk ws H locs hl hls hst hw => ?_⟩
    obtain ⟨w, r0, rfl, hv, hs0⟩ := rv_Vs_c hst
    obtain ⟨w1, r1, rfl, hv1, hs1⟩ := rv_Vs_c hs0
    obtain ⟨w2, r2, rfl, hrv, hs2⟩ := rv_Vs_c hs1
    obtain ⟨z, rfl, hz1, hz2⟩ := rv_V_I hi hv1
    obtain ⟨hin0, hj⟩ := hix z hz1 hz2
    obtain ⟨ad, e0, rfl, hat, he0⟩ := rv_ref_at hrv hw.1 hc
    rw [Bool.or_eq_true] at hok
    rcases hok with hok | hok
    · have ht : t = 2 := Nat.eq_of_beq_eq_true hok
      subst ht
      obtain ⟨f, rfl, hf⟩ := he0
      obtain ⟨x, rfl, hnv⟩ := rv_nar_2 hnar hv
      refine va_bast hx hb hK hw.2.1 hw.2.2.1 hw.2.2.2.1 q 2 hat rfl hin0 hdec (fun H1 locs1 hP1 hD1 hS1 => ?_)
      have hm := rv_map_set (e1 := .inl (cA 2, nn, .inl (upd f z.toNatClampNeg (vp_nar .byte x)))) hat
      refine g.2 res' hs hR1 hR2 lsC lv _ _ H1 locs1 hl (by rw [hm]; exact hls) (by rw [hm]; exact hs2) ⟨?_, hP1, hD1, hS1, by rw [hm]; exact hw.2.2.2.2⟩
      rw [hm]
      refine rv_Ws_set (show rv_E ρ (ws.map Prod.fst) cA (.inr (2, nn, dd, u)) (.inl (cA 2, nn, .inl (upd f z.toNatClampNeg (vp_nar .byte x)))) from ⟨_, rfl, fun j1 hj1 => ?_⟩) q hw.1
      rw [hu, ← hj]
      by_cases hjj : j1 = z.toNatClampNeg
      · rw [if_pos hjj, hjj]
        first | (rw [pk_us]; exact hnv) | (rw [pk_uLs]; exact hnv)
      · rw [if_neg hjj]
        first | (rw [pk_un hjj]; exact hf j1 hj1) | (rw [pk_uLn hjj]; exact hf j1 hj1)
    · have ht : t = 3 := Nat.eq_of_beq_eq_true hok
      subst ht
      obtain ⟨f, rfl, hf⟩ := he0
      obtain ⟨x, rfl, hnv⟩ := rv_nar_3 hnar hv
      refine va_zast hx hb hK hw.2.1 hw.2.2.1 hw.2.2.2.1 q 3 hat rfl hin0 hdec (fun H1 locs1 hP1 hD1 hS1 => ?_)
      have hm := rv_map_set (e1 := .inl (cA 3, nn, .inl (upd f z.toNatClampNeg (vp_nar .boolean x)))) hat
      refine g.2 res' hs hR1 hR2 lsC lv _ _ H1 locs1 hl (by rw [hm]; exact hls) (by rw [hm]; exact hs2) ⟨?_, hP1, hD1, hS1, by rw [hm]; exact hw.2.2.2.2⟩
      rw [hm]
      refine rv_Ws_set (show rv_E ρ (ws.map Prod.fst) cA (.inr (3, nn, dd, u)) (.inl (cA 3, nn, .inl (upd f z.toNatClampNeg (vp_nar .boolean x)))) from ⟨_, rfl, fun j1 hj1 => ?_⟩) q hw.1
      rw [hu, ← hj]
      by_cases hjj : j1 = z.toNatClampNeg
      · rw [if_pos hjj, hjj]
        first | (rw [pk_us]; exact hnv) | (rw [pk_uLs]; exact hnv)
      · rw [if_neg hjj]
        first | (rw [pk_un hjj]; exact hf j1 hj1) | (rw [pk_uLn hjj]; exact hf j1 hj1)
  | aastore =>
    have hrun1 : (rv_asr rv_ct h st (fun h' r => rv_run call rv_nw rv_ct body nL rt n rest ls r h' ce sl)) = some res := hrun
    clear hrun
    obtain ⟨i0, q, r, t, nn, dd, ups, u, j, qv, fv, rfl, hc, htt, hi, hix, hcv, hu, hk⟩ := rv_asr_i hrun1
    have g := go hk
    refine ⟨g.1, fun res' hs hR1 hR2 lsC lv stk ws H locs hl hls hst hw => ?_⟩
    obtain ⟨w, r0, rfl, hv, hs0⟩ := rv_Vs_c hst
    obtain ⟨w1, r1, rfl, hv1, hs1⟩ := rv_Vs_c hs0
    obtain ⟨w2, r2, rfl, hrv, hs2⟩ := rv_Vs_c hs1
    obtain ⟨z, rfl, hz1, hz2⟩ := rv_V_I hi hv1
    obtain ⟨hin0, hj⟩ := hix z hz1 hz2
    obtain ⟨ad, e0, rfl, hat, he0⟩ := rv_ref_at hrv hw.1 hc
    have hvk := hv
    obtain ⟨av, ev, rfl, hatv, hev⟩ := rv_ref_at hv hw.1 hcv
    obtain ⟨vsv, rfl, -⟩ := hev
    rcases htt with rfl | rfl
    · obtain ⟨f, rfl, hf⟩ := he0
      refine va_astq hx hb hK hw.2.1 hw.2.2.1 hw.2.2.2.1 q 4 qv 7 (r := (RX7, TX7, 3)) hat rfl hatv rfl hin0 hdec (fun H1 locs1 hP1 hD1 hS1 => ?_)
      have hm := rv_map_set (e1 := .inl (cA 4, nn, .inr (.inr (.inr (.inr (va_up f z.toNatClampNeg (some av))))))) hat
      refine g.2 res' hs hR1 hR2 lsC lv _ _ H1 locs1 hl (by rw [hm]; exact hls) (by rw [hm]; exact hs2) ⟨?_, hP1, hD1, hS1, by rw [hm]; exact hw.2.2.2.2⟩
      rw [hm]
      refine rv_Ws_set (show rv_E ρ (ws.map Prod.fst) cA (.inr (4, nn, dd, u)) (.inl (cA 4, nn, .inr (.inr (.inr (.inr (va_up f z.toNatClampNeg (some av))))))) from ⟨_, rfl, fun j1 hj1 => ?_⟩) q hw.1
      rw [hu, ← hj]
      by_cases hjj : j1 = z.toNatClampNeg
      · rw [if_pos hjj, hjj, show va_up f z.toNatClampNeg (some av) z.toNatClampNeg = some av from by simp [va_up]]
        exact hvk
      · rw [if_neg hjj, show va_up f z.toNatClampNeg (some av) j1 = f j1 from by simp [va_up, hjj]]
        exact hf j1 hj1
    · obtain ⟨f, rfl, hf⟩ := he0
      refine va_astq hx hb hK hw.2.1 hw.2.2.1 hw.2.2.2.1 q 5 qv 8 (r := (RX8, TX8, 6)) hat rfl hatv rfl hin0 hdec (fun H1 locs1 hP1 hD1 hS1 => ?_)
      have hm := rv_map_set (e1 := .inl (cA 5, nn, .inr (.inr (.inr (.inr (va_up f z.toNatClampNeg (some av))))))) hat
      refine g.2 res' hs hR1 hR2 lsC lv _ _ H1 locs1 hl (by rw [hm]; exact hls) (by rw [hm]; exact hs2) ⟨?_, hP1, hD1, hS1, by rw [hm]; exact hw.2.2.2.2⟩
      rw [hm]
      refine rv_Ws_set (show rv_E ρ (ws.map Prod.fst) cA (.inr (5, nn, dd, u)) (.inl (cA 5, nn, .inr (.inr (.inr (.inr (va_up f z.toNatClampNeg (some av))))))) from ⟨_, rfl, fun j1 hj1 => ?_⟩) q hw.1
      rw [hu, ← hj]
      by_cases hjj : j1 = z.toNatClampNeg
      · rw [if_pos hjj, hjj, show va_up f z.toNatClampNeg (some av) z.toNatClampNeg = some av from by simp [va_up]]
        exact hvk
      · rw [if_neg hjj, show va_up f z.toNatClampNeg (some av) j1 = f j1 from by simp [va_up, hjj]]
        exact hf j1 hj1
  | new k =>
    have hrun1 : (rv_new (.inl (a, rv_nw a)) h (fun q h' => rv_fN (ce + 1) (fun ce' => rv_fN (sl + b) (fun sl' => rv_run call rv_nw rv_ct body nL rt n rest ls (q :: st) h' ce' sl')))) = some res := hrun
    clear hrun
    obtain ⟨hk0, hlt9⟩ := rv_new_i hrun1
    rw [rv_fN_eq, rv_fN_eq] at hk0
    have g := go hk0
    obtain ⟨C, T, N, hcl, hw1, hw2, hw3, hbN⟩ := rv_cnw_s hchk
    subst hbN
    obtain ⟨hin1, ty, hty, hnm, fs, hfs, hnw⟩ := hcf _ _ _ _ hcl
    refine ⟨⟨Nat.le_trans (Nat.le_succ _) g.1.1, Nat.le_trans (Nat.le_add_right _ _) g.1.2⟩, fun res' hs hR1 hR2 lsC lv stk ws H locs hl hls hst hw => ?_⟩
    have hc1 : ce + 1 ≤ R.cells := by rw [hR1]; exact Nat.le_trans g.1.1 hs.1
    have hc2 : sl + b ≤ R.slots := by rw [hR2]; exact Nat.le_trans g.1.2 hs.2.1
    refine va_new (ci := a) (fs := fs) (C := C) (T := T) (N := b) hx hb hts hin1 ty hty hown (hts _ hw1) (hts _ hw2) (hts _ hw3) hK hw.2.1 hw.2.2.1 hw.2.2.2.1 hA hcl hfs hc1 hc2 hdec (fun q H1 hP1 hD1 hS1 => ?_)
    obtain ⟨ext, hext⟩ := hw.2.2.2.2
    have hm : (ws ++ [(q, (.inr (a, fs) : va_E))]).map Prod.fst = ws.map Prod.fst ++ [q] := by rw [List.map_append]; rfl
    have hlen : h.length = (ws.map Prod.fst).length := by rw [List.length_map]; exact rv_Ws_len hw.1
    refine g.2 res' hs hR1 hR2 lsC lv _ _ H1 locs hl (by rw [hm]; exact rv_Ls_mono rv_pfx hls) (by rw [hm]; exact ⟨⟨q, by rw [if_pos hlt9, hlen]; simp, rfl⟩, rv_Vs_mono rv_pfx hst⟩) ⟨?_, hP1, hD1, hS1, ext ++ [q], by rw [hm, hext, List.append_assoc]⟩
    rw [hm]
    exact rv_Ws_app (show rv_E ρ (ws.map Prod.fst ++ [q]) cA (.inl (a, rv_nw a)) (.inr (a, fs)) from ⟨_, rfl, hnw _ _⟩) (rv_Ws_mono rv_pfx hw.1)
  | newarray t =>
    have hrun1 : (rv_nwa (rv_aty t) 10000 (rv_d0 (rv_aty t)) h st (fun nn h' r => rv_fN (ce + 1) (fun ce' => rv_fN (sl + nn) (fun sl' => rv_run call rv_nw rv_ct body nL rt n rest ls r h' ce' sl')))) = some res := hrun
    clear hrun
    rw [Bool.and_eq_true] at hchk
    obtain ⟨pl, hpl⟩ := rv_p1_s hchk.1
    have hw0 := rv_w_s hpl
    obtain ⟨x, r, rfl, hx0, hxm, hk0, hlt9⟩ := rv_nwa_i hrun1
    rw [rv_fN_eq, rv_fN_eq] at hk0
    have g := go hk0
    refine ⟨⟨Nat.le_trans (Nat.le_succ _) g.1.1, Nat.le_trans (Nat.le_add_right _ _) g.1.2⟩, fun res' hs hR1 hR2 lsC lv stk ws H locs hl hls hst hw => ?_⟩
    obtain ⟨w, r2, rfl, hv, hs2⟩ := rv_Vs_c hst
    cases hv
    have hc1 : ce + 1 ≤ R.cells := by rw [hR1]; exact Nat.le_trans g.1.1 hs.1
    have hc2 : sl + x.toNatClampNeg ≤ R.slots := by rw [hR2]; exact Nat.le_trans g.1.2 hs.2.1
    obtain ⟨ext, hext⟩ := hw.2.2.2.2
    have hlen : h.length = (ws.map Prod.fst).length := by rw [List.length_map]; exact rv_Ws_len hw.1
    cases t with
    | int =>
      refine va_newa (atype := .int) (a0 := (x.toNatClampNeg, .inl (fun _ => 0))) hx hb (hts _ hw0) rfl hK hw.2.1 hw.2.2.1 hw.2.2.2.1 hA (fun _ => rfl) hx0 rfl (by first | (show x.toNatClampNeg * 4 ≤ 536870912; omega)) hc1 hc2 hdec (fun q cA1 H1 hK1 hP1 hD1 hS1 => ?_)
      have hcA : cA1 = cA 0 := rv_cA_0 hK1
      subst hcA
      have hm : (ws ++ [(q, (.inl (cA 0, x.toNatClampNeg, .inl (fun _ => 0)) : va_E))]).map Prod.fst = ws.map Prod.fst ++ [q] := by rw [List.map_append]; rfl
      refine g.2 res' hs hR1 hR2 lsC lv _ _ H1 locs hl (by rw [hm]; exact rv_Ls_mono rv_pfx hls) (by rw [hm]; exact ⟨⟨q, by rw [if_pos hlt9, hlen]; simp, rfl⟩, rv_Vs_mono rv_pfx hs2⟩) ⟨?_, hP1, hD1, hS1, ext ++ [q], by rw [hm, hext, List.append_assoc]⟩
      rw [hm]
      exact rv_Ws_app (show rv_E ρ (ws.map Prod.fst ++ [q]) cA (.inr (0, x.toNatClampNeg, .inl 0, [])) (.inl (cA 0, x.toNatClampNeg, .inl (fun _ => 0))) from ⟨_, rfl, fun _ _ => rfl⟩) (rv_Ws_mono rv_pfx hw.1)
    | long =>
      refine va_newa (atype := .long) (a0 := (x.toNatClampNeg, .inr (.inl (fun _ => 0)))) hx hb (hts _ hw0) rfl hK hw.2.1 hw.2.2.1 hw.2.2.2.1 hA (fun _ => rfl) hx0 rfl (by first | (show x.toNatClampNeg * 8 ≤ 536870912; omega)) hc1 hc2 hdec (fun q cA1 H1 hK1 hP1 hD1 hS1 => ?_)
      have hcA : cA1 = cA 1 := rv_cA_1 hK1
      subst hcA
      have hm : (ws ++ [(q, (.inl (cA 1, x.toNatClampNeg, .inr (.inl (fun _ => 0))) : va_E))]).map Prod.fst = ws.map Prod.fst ++ [q] := by rw [List.map_append]; rfl
      refine g.2 res' hs hR1 hR2 lsC lv _ _ H1 locs hl (by rw [hm]; exact rv_Ls_mono rv_pfx hls) (by rw [hm]; exact ⟨⟨q, by rw [if_pos hlt9, hlen]; simp, rfl⟩, rv_Vs_mono rv_pfx hs2⟩) ⟨?_, hP1, hD1, hS1, ext ++ [q], by rw [hm, hext, List.append_assoc]⟩
      rw [hm]
      exact rv_Ws_app (show rv_E ρ (ws.map Prod.fst ++ [q]) cA (.inr (1, x.toNatClampNeg, rv_lng 0, [])) (.inl (cA 1, x.toNatClampNeg, .inr (.inl (fun _ => 0)))) from ⟨_, rfl, fun _ _ => rfl⟩) (rv_Ws_mono rv_pfx hw.1)
    | byte =>
      refine va_newa (atype := .byte) (a0 := (x.toNatClampNeg, .inl (fun _ => 0))) hx hb (hts _ hw0) rfl hK hw.2.1 hw.2.2.1 hw.2.2.2.1 hA (fun _ => rfl) hx0 rfl (by first | (show x.toNatClampNeg * 1 ≤ 536870912; omega)) hc1 hc2 hdec (fun q cA1 H1 hK1 hP1 hD1 hS1 => ?_)
      have hcA : cA1 = cA 2 := rv_cA_2 hK1
      subst hcA
      have hm : (ws ++ [(q, (.inl (cA 2, x.toNatClampNeg, .inl (fun _ => 0)) : va_E))]).map Prod.fst = ws.map Prod.fst ++ [q] := by rw [List.map_append]; rfl
      refine g.2 res' hs hR1 hR2 lsC lv _ _ H1 locs hl (by rw [hm]; exact rv_Ls_mono rv_pfx hls) (by rw [hm]; exact ⟨⟨q, by rw [if_pos hlt9, hlen]; simp, rfl⟩, rv_Vs_mono rv_pfx hs2⟩) ⟨?_, hP1, hD1, hS1, ext ++ [q], by rw [hm, hext, List.append_assoc]⟩
      rw [hm]
      exact rv_Ws_app (show rv_E ρ (ws.map Prod.fst ++ [q]) cA (.inr (2, x.toNatClampNeg, .inl 0, [])) (.inl (cA 2, x.toNatClampNeg, .inl (fun _ => 0))) from ⟨_, rfl, fun _ _ => rfl⟩) (rv_Ws_mono rv_pfx hw.1)
    | boolean =>
      refine va_newa (atype := .boolean) (a0 := (x.toNatClampNeg, .inl (fun _ => 0))) hx hb (hts _ hw0) rfl hK hw.2.1 hw.2.2.1 hw.2.2.2.1 hA (fun _ => rfl) hx0 rfl (by first | (show x.toNatClampNeg * 1 ≤ 536870912; omega)) hc1 hc2 hdec (fun q cA1 H1 hK1 hP1 hD1 hS1 => ?_)
      have hcA : cA1 = cA 3 := rv_cA_3 hK1
      subst hcA
      have hm : (ws ++ [(q, (.inl (cA 3, x.toNatClampNeg, .inl (fun _ => 0)) : va_E))]).map Prod.fst = ws.map Prod.fst ++ [q] := by rw [List.map_append]; rfl
      refine g.2 res' hs hR1 hR2 lsC lv _ _ H1 locs hl (by rw [hm]; exact rv_Ls_mono rv_pfx hls) (by rw [hm]; exact ⟨⟨q, by rw [if_pos hlt9, hlen]; simp, rfl⟩, rv_Vs_mono rv_pfx hs2⟩) ⟨?_, hP1, hD1, hS1, ext ++ [q], by rw [hm, hext, List.append_assoc]⟩
      rw [hm]
      exact rv_Ws_app (show rv_E ρ (ws.map Prod.fst ++ [q]) cA (.inr (3, x.toNatClampNeg, .inl 0, [])) (.inl (cA 3, x.toNatClampNeg, .inl (fun _ => 0))) from ⟨_, rfl, fun _ _ => rfl⟩) (rv_Ws_mono rv_pfx hw.1)
    | _ => exact absurd hchk.2 (by decide)
  | anewarray k =>
    have hrun1 : (rv_nwa a 10000 rv_nul h st (fun nn h' r => rv_fN (ce + 1) (fun ce' => rv_fN (sl + nn) (fun sl' => rv_run call rv_nw rv_ct body nL rt n rest ls r h' ce' sl')))) = some res := hrun
    clear hrun
    obtain ⟨pl, hpl⟩ := rv_p1_s hchk
    obtain ⟨x, r, rfl, hx0, hxm, hk0, hlt9⟩ := rv_nwa_i hrun1
    rw [rv_fN_eq, rv_fN_eq] at hk0
    have g := go hk0
    refine ⟨⟨Nat.le_trans (Nat.le_succ _) g.1.1, Nat.le_trans (Nat.le_add_right _ _) g.1.2⟩, fun res' hs hR1 hR2 lsC lv stk ws H locs hl hls hst hw => ?_⟩
    obtain ⟨w, r2, rfl, hv, hs2⟩ := rv_Vs_c hst
    cases hv
    have hc1 : ce + 1 ≤ R.cells := by rw [hR1]; exact Nat.le_trans g.1.1 hs.1
    have hc2 : sl + x.toNatClampNeg ≤ R.slots := by rw [hR2]; exact Nat.le_trans g.1.2 hs.2.1
    obtain ⟨ext, hext⟩ := hw.2.2.2.2
    have hlen : h.length = (ws.map Prod.fst).length := by rw [List.length_map]; exact rv_Ws_len hw.1
    rw [Bool.or_eq_true] at hpl
    rcases hpl with hpl | hpl
    · rw [Bool.and_eq_true] at hpl
      have ht : a = 4 := Nat.eq_of_beq_eq_true hpl.1
      subst ht
      refine va_newq (C := "CabinPeace$Tray") hx hb hown (hts _ (rv_w_s hpl.2)) hKK.2.1 hK hw.2.1 hw.2.2.1 hw.2.2.2.1 hA hx0 rfl (by omega) hc1 hc2 hdec (fun q cA1 H1 hK1 hP1 hD1 hS1 => ?_)
      have hcA : cA1 = cA 4 := rv_cA_4 hK1
      subst hcA
      have hm : (ws ++ [(q, (.inl (cA 4, x.toNatClampNeg, .inr (.inr (.inr (.inr (fun _ => none))))) : va_E))]).map Prod.fst = ws.map Prod.fst ++ [q] := by rw [List.map_append]; rfl
      refine g.2 res' hs hR1 hR2 lsC lv _ _ H1 locs hl (by rw [hm]; exact rv_Ls_mono rv_pfx hls) (by rw [hm]; exact ⟨⟨q, by rw [if_pos hlt9, hlen]; simp, rfl⟩, rv_Vs_mono rv_pfx hs2⟩) ⟨?_, hP1, hD1, hS1, ext ++ [q], by rw [hm, hext, List.append_assoc]⟩
      rw [hm]
      exact rv_Ws_app (show rv_E ρ (ws.map Prod.fst ++ [q]) cA (.inr (4, x.toNatClampNeg, rv_nul, [])) (.inl (cA 4, x.toNatClampNeg, .inr (.inr (.inr (.inr (fun _ => none)))))) from ⟨_, rfl, fun _ _ => rfl⟩) (rv_Ws_mono rv_pfx hw.1)
    · rw [Bool.and_eq_true] at hpl
      have ht : a = 5 := Nat.eq_of_beq_eq_true hpl.1
      subst ht
      refine va_newq (C := "CabinPeace$Wish") hx hb hown (hts _ (rv_w_s hpl.2)) hKK.2.2.1 hK hw.2.1 hw.2.2.1 hw.2.2.2.1 hA hx0 rfl (by omega) hc1 hc2 hdec (fun q cA1 H1 hK1 hP1 hD1 hS1 => ?_)
      have hcA : cA1 = cA 5 := rv_cA_5 hK1
      subst hcA
      have hm : (ws ++ [(q, (.inl (cA 5, x.toNatClampNeg, .inr (.inr (.inr (.inr (fun _ => none))))) : va_E))]).map Prod.fst = ws.map Prod.fst ++ [q] := by rw [List.map_append]; rfl
      refine g.2 res' hs hR1 hR2 lsC lv _ _ H1 locs hl (by rw [hm]; exact rv_Ls_mono rv_pfx hls) (by rw [hm]; exact ⟨⟨q, by rw [if_pos hlt9, hlen]; simp, rfl⟩, rv_Vs_mono rv_pfx hs2⟩) ⟨?_, hP1, hD1, hS1, ext ++ [q], by rw [hm, hext, List.append_assoc]⟩
      rw [hm]
      exact rv_Ws_app (show rv_E ρ (ws.map Prod.fst ++ [q]) cA (.inr (5, x.toNatClampNeg, rv_nul, [])) (.inl (cA 5, x.toNatClampNeg, .inr (.inr (.inr (.inr (fun _ => none)))))) from ⟨_, rfl, fun _ _ => rfl⟩) (rv_Ws_mono rv_pfx hw.1)
  | ireturn =>
    have hrun1 : (rv_re1 (fun v => rv_fit rt v && rt.ble 1) st h ce sl) = some res := hrun
    clear hrun
    obtain ⟨v, rfl, hf, rfl⟩ := rv_re1_i hrun1
    refine ⟨⟨Nat.le_refl _, Nat.le_refl _⟩, fun res' hs hR1 hR2 lsC lv stk ws H locs hl hls hst hw => ?_⟩
    obtain ⟨w, r2, rfl, hv, hs2⟩ := rv_Vs_c hst
    have := rv_Vs_n hs2
    subst this
    refine W.widen hs.1 hs.2.1 ?_
    rw [Bool.and_eq_true] at hf
    have hq : ∀ t : State, t.heap = H → s.WarmedH t.vm → rv_Q ρ D cA L0 A res'.2.2 args s (.returned (some w)) t := fun t ht hW => ⟨⟨_, hs.2.2 _ List.mem_cons_self, ws, some w, rfl, hv, hw.1, hw.2.2.2.2, by rw [ht]; exact hw.2.1, hw.2.2.1⟩, hw.2.2.2.1.F ht⟩
    have hrt1 := Nat.le_of_ble_eq_true hf.2
    rcases (show rt = 0 ∨ rt = 1 by omega) with h0 | h0
    · subst h0
      obtain ⟨z, rfl, -, -⟩ := rv_V_I (show rv_isI v = true from hf.1) hv
      exact W.iret hx hb (by rw [hr]; exact rv_rtk_0 hrt) hq hw.2.2.2.1.2.2 hdec hlocks
    · subst h0
      obtain ⟨z, rfl, hn⟩ := rv_fit1 hf.1 hv
      exact W.zret hx hb (by rw [hr]; exact rv_rtk_1 hrt) hn hq hw.2.2.2.1.2.2 hdec hlocks
  | lreturn =>
    have hrun1 : (rv_re1 (fun v => rv_isL v && rt.beq 2) st h ce sl) = some res := hrun
    clear hrun
    obtain ⟨v, rfl, hf, rfl⟩ := rv_re1_i hrun1
    refine ⟨⟨Nat.le_refl _, Nat.le_refl _⟩, fun res' hs hR1 hR2 lsC lv stk ws H locs hl hls hst hw => ?_⟩
    obtain ⟨w, r2, rfl, hv, hs2⟩ := rv_Vs_c hst
    have := rv_Vs_n hs2
    subst this
    refine W.widen hs.1 hs.2.1 ?_
    rw [Bool.and_eq_true] at hf
    have hq : ∀ t : State, t.heap = H → s.WarmedH t.vm → rv_Q ρ D cA L0 A res'.2.2 args s (.returned (some w)) t := fun t ht hW => ⟨⟨_, hs.2.2 _ List.mem_cons_self, ws, some w, rfl, hv, hw.1, hw.2.2.2.2, by rw [ht]; exact hw.2.1, hw.2.2.1⟩, hw.2.2.2.1.F ht⟩
    have hrt1 := Nat.eq_of_beq_eq_true hf.2
    subst hrt1
    obtain ⟨z, rfl⟩ := rv_V_L hf.1 hv
    exact W.lret hx hb (by rw [hr]; exact rv_rtk_2 hrt) hq hw.2.2.2.1.2.2 hdec hlocks
  | return_ =>
    have hrun1 : (rv_re0 (rt.beq 4) st h ce sl) = some res := hrun
    clear hrun
    obtain ⟨rfl, hf, rfl⟩ := rv_re0_i hrun1
    refine ⟨⟨Nat.le_refl _, Nat.le_refl _⟩, fun res' hs hR1 hR2 lsC lv stk ws H locs hl hls hst hw => ?_⟩
    have := rv_Vs_n hst
    subst this
    refine W.widen hs.1 hs.2.1 ?_
    have hrt1 := Nat.eq_of_beq_eq_true hf
    subst hrt1
    exact W.vret hx hb (by rw [hr]; exact rv_rtk_4 hrt) (fun t ht hW => ⟨⟨_, hs.2.2 _ List.mem_cons_self, ws, none, rfl, True.intro, hw.1, hw.2.2.2.2, by rw [ht]; exact hw.2.1, hw.2.2.1⟩, hw.2.2.2.1.F ht⟩) hw.2.2.2.1.2.2 hdec hlocks
  | invokevirtual k =>
    have hrun1 : (rv_inv (call n) (fun as => rv_rc2 b h as) a d0 h st ce sl (fun r h' ce' sl' => rv_run call rv_nw rv_ct body nL rt n rest ls r h' ce' sl')) = some res := hrun
    clear hrun
    obtain ⟨as, r, mc, ms, os, rfl, hlen, hwd, hok, hcl, hall0⟩ := rv_inv_i hrun1
    obtain ⟨hMt, ⟨⟨y2, bytes2, nL2, ret2⟩, hinf⟩⟩ := hcall _ _ _ _ _ hcl
    have hall := rv_all_i hall0
    obtain ⟨hcw, hnL2⟩ := hcode _ _ _ _ _ hinf
    obtain ⟨hw1, hw2, hw3, hw4, hnh, hnp, hd1, hcb⟩ := rv_civ_s hinf hchk
    refine ⟨?_, fun res' hs hR1 hR2 lsC lv stk ws H locs hl hls hst hw => ?_⟩
    · obtain ⟨o0, ho0⟩ := hall.1
      obtain ⟨x0, hx2, hsub⟩ := hall.2 o0 ho0
      have g := go hx2
      exact ⟨Nat.le_trans (Nat.le_add_right _ _) (Nat.le_trans g.1.1 hsub.1), Nat.le_trans (Nat.le_add_right _ _) (Nat.le_trans g.1.2 hsub.2.1)⟩
    have hroom : ce + mc ≤ R.cells ∧ sl + ms ≤ R.slots := by
      obtain ⟨o0, ho0⟩ := hall.1
      obtain ⟨x0, hx2, hsub⟩ := hall.2 o0 ho0
      have g := go hx2
      rw [hR1, hR2]
      exact ⟨Nat.le_trans g.1.1 (Nat.le_trans hsub.1 hs.1), Nat.le_trans g.1.2 (Nat.le_trans hsub.2.1 hs.2.1)⟩
    obtain ⟨vr, rs, rfl, hvr, hrs⟩ := rv_Vs_app hst
    have hvs := rv_Vs_rev hvr
    rw [List.reverse_reverse] at hvs
    have hM := hMt y2 bytes2 nL2 ret2 hinf D cA H.size ws vr.reverse hvs hw.1
    have hfree := rv_free hw.2.2.1 hw.2.2.2.1 hA
    have hRR : (rv_rm d mc ms).frames + 1 ≤ R.frames ∧ 8 + (nL2 + 11) + (rv_rm d mc ms).locals ≤ R.locals := by
      rw [hR.1, hR.2]
      exact ⟨Nat.le_refl _, by show 8 + (nL2 + 11) + 60 * d ≤ 60 * (d + 1); omega⟩
    have hrm : (rs.map fun v => v.category).sum ≤ 8 := by rw [rv_wd_le hrs]; exact hwd
    have hblind : FrameBlind (va_Pc vr.reverse (fun U => U.heap.size = H.size ∧ va_P D rv_cl ws U.heap ∧ rv_KK ρ (va_A ws H.size) D cA U ∧ va_D (fun _ => True) ws)) := fun a U g mk q => by
      obtain ⟨q0, q1, qP, qK, qD⟩ := q
      exact ⟨q0, q1, qP, qK.blind, qD⟩
    have hstart : ∀ U : State, U.heap = H → s.WarmedH U.vm → va_Pc vr.reverse (fun U => U.heap.size = H.size ∧ va_P D rv_cl ws U.heap ∧ rv_KK ρ (va_A ws H.size) D cA U ∧ va_D (fun _ => True) ws) vr.reverse.toArray U := fun U hU hW => ⟨rfl, by rw [hU], by rw [hU]; exact hw.2.1, hKK.go hw.2.2.2.1 hfree hU hW, hw.2.2.1.weaken (fun _ _ _ _ => trivial)⟩
    have hgo : ∀ o ∈ os, ∀ (ws2 : va_W) (v : Option Value) (H1 : Heap) (locs1 : List Loc), rv_rv ρ (ws2.map Prod.fst) o.1 v → rv_Ws ρ (ws2.map Prod.fst) cA o.2 ws2 → (∃ ext, ws2.map Prod.fst = ws.map Prod.fst ++ ext) → va_P D rv_cl ws2 H1 → va_D (va_A ws H.size) ws2 → va_S A s.heap H1 locs1 → W p l e R s m args below meth c H1 locs1 (ce + mc) (sl + ms) (MQ below (rv_Q ρ D cA L0 A res'.2.2) args s res'.1 res'.2.1 A) (F0 m (pc + 3) lsC (v.toList ++ rs)) := fun o ho ws2 v H1 locs1 hrv hW2 hext hP1 hD1 hS1 => by
      obtain ⟨x0, hx2, hsub⟩ := hall.2 o ho
      have g := go hx2
      obtain ⟨ext, hext⟩ := hext
      obtain ⟨ext0, hext0⟩ := hw.2.2.2.2
      have hmn : ∀ (k q : Nat), (ws.map Prod.fst)[k]? = some q → (ws2.map Prod.fst)[k]? = some q := by rw [hext]; exact rv_pfx
      refine g.2 res' (hsub.tr hs) hR1 hR2 lsC lv _ ws2 H1 locs1 hl (rv_Ls_mono hmn hls) ?_ ⟨hW2, hP1, hD1.weaken (fun _ _ _ h => hfree _ h), hS1, ext0 ++ ext, by rw [hext, hext0, List.append_assoc]⟩
      have hrs2 := rv_Vs_mono hmn hrs
      cases ho1 : o.1 with
      | none => rw [ho1] at hrv; cases v with
        | none => exact hrs2
        | some v => cases hrv
      | some a1 => rw [ho1] at hrv; cases v with
        | none => cases hrv
        | some v => exact ⟨hrv, hrs2⟩
    rcases rv_rc2_i hok with ⟨hb99, i9, as', rfl, hi9⟩ | ⟨hb99, hok2⟩
    · rcases hcb with ⟨-, hstr⟩ | ⟨T, N, hclb⟩
      · obtain ⟨vb, As, hAs, hvb, hvAs⟩ := rv_Vs_c hvs
        obtain ⟨ad, had, rfl⟩ := hvb
        rw [if_neg (by omega), show 100000 + i9 - 100000 = i9 by omega] at had
        cases had
        have hvrr : vr = As.reverse ++ [.ref (ρ.2.1 i9)] := by rw [← List.reverse_reverse vr, hAs, List.reverse_cons]
        rw [hAs] at hM hblind hstart
        have hlA : As.length = d0 - 1 := by
          rw [← rv_Vs_len hvAs]
          have := hlen
          rw [List.length_cons] at this
          omega
        refine rv_call (va_runV (C := "java/lang/String") (As := As) (rest := rs) ⟨hx, hb, hml, hown, hts⟩ hM ⟨callB_of (d0 - 1) hts (rv_gin hcw) rfl rfl rfl (hts _ hw4) (hts _ hw1) ⟨hnh.1, hnh.2, hnp⟩ hRR, hts _ hw2, hts _ (by rw [← hstr]; exact hw3)⟩ ⟨hblind, vk_recv hKK.2.2.2.2.1 hi9 hw.2.2.2.1, hstart⟩ rfl hlA hl.1 (by show vr ++ rs = _; rw [hvrr, List.append_assoc]; rfl) (lv_room hrm) hdec hroom) hw.2.2.2.1 (fun q _ h => hfree q h) hfree hgo
      · subst hb99
        exact absurd hclb (by simp [rv_cl])
    rcases hcb with ⟨hb9, -⟩ | ⟨T, N, hclb⟩
    · exact absurd hb9 hb99
    obtain ⟨q, as', fs0, rfl, hq⟩ := rv_rcv_i hok2
    obtain ⟨vb, As, hAs, hvb, hvAs⟩ := rv_Vs_c hvs
    obtain ⟨ad, e0, rfl, hat, he0⟩ := rv_ref_at hvb hw.1 hq
    obtain ⟨fsC, rfl, -⟩ := he0
    have hvrr : vr = As.reverse ++ [.ref ad] := by rw [← List.reverse_reverse vr, hAs, List.reverse_cons]
    rw [hAs] at hM hblind hstart
    have hlA : As.length = d0 - 1 := by
      rw [← rv_Vs_len hvAs]
      have := hlen
      rw [List.length_cons] at this
      omega
    refine rv_call (va_runV (As := As) (rest := rs) ⟨hx, hb, hml, hown, hts⟩ hM ⟨callB_of (d0 - 1) hts (rv_gin hcw) rfl rfl rfl (hts _ hw4) (hts _ hw1) ⟨hnh.1, hnh.2, hnp⟩ hRR, hts _ hw2, hts _ hw3⟩ ⟨hblind, va_recv hK hw.2.1 hclb hat, hstart⟩ rfl hlA hl.1 (by show vr ++ rs = _; rw [hvrr, List.append_assoc]; rfl) (lv_room hrm) hdec hroom) hw.2.2.2.1 (fun q _ h => hfree q h) hfree hgo
  | invokestatic k =>
    by_cases hb77 : b = 77
    · subst hb77
      have hrun1 : rv_cpy h st (fun h' r => rv_run call rv_nw rv_ct body nL rt n rest ls r h' ce sl) = some res := hrun
      clear hrun
      obtain ⟨mm, dp, sp, q1, q0, r, n0, dd0, u0, n1, dd1, u1, rfl, hc0, hc1, hq, hk⟩ := rv_cpy_i hrun1
      have g := go hk
      have hchk : rv_cac y.cls k ts = true := hchk
      obtain ⟨hw1, hw2, hw3, hw4⟩ := rv_cac_s hchk
      refine ⟨g.1, fun res' hs hR1 hR2 lsC lv stk ws H locs hl hls hst hw => ?_⟩
      obtain ⟨w1, r1, rfl, hv1, hs1⟩ := rv_Vs_c hst
      cases hv1
      obtain ⟨w2, r2, rfl, hv2, hs2⟩ := rv_Vs_c hs1
      cases hv2
      obtain ⟨w3, r3, rfl, hv3, hs3⟩ := rv_Vs_c hs2
      obtain ⟨w4, r4, rfl, hv4, hs4⟩ := rv_Vs_c hs3
      cases hv4
      obtain ⟨w5, r5, rfl, hv5, hs5⟩ := rv_Vs_c hs4
      obtain ⟨ad1, e1, rfl, hat1, he1⟩ := rv_ref_at hv3 hw.1 hc1
      obtain ⟨ad0, e0, rfl, hat0, he0⟩ := rv_ref_at hv5 hw.1 hc0
      obtain ⟨f1, rfl, hf1⟩ := he1
      obtain ⟨f0, rfl, hf0⟩ := he0
      have hrm : (r5.map fun v => v.category).sum ≤ 8 := by rw [rv_wd_le hs5]; exact hq.2.2.2.2.2
      refine va_copyl hx hb (by rw [hml]; exact hl.1.symm) hown (hts _ hw1) (hts _ hw2) (hts _ hw3) (hts _ hw4) hK hw.2.1 hw.2.2.1 hw.2.2.2.1 q0 q1 1 1 (ty := .long) hat0 hat1 rfl rfl rfl hq.1 hq.2.1 hq.2.2.1 hq.2.2.2.1 hq.2.2.2.2.1 (fun _ _ => rfl) (by rw [hR.1]; omega) (by rw [hR.2]; exact Nat.le_trans (Nat.add_le_add_right hrm _) (Nat.le_trans (show _ ≤ 60 from by decide) (by omega))) hdec (fun H1 locs1 hP1 hD1 hS1 => ?_)
      have hm := rv_map_set (e1 := .inl (cA 1, n1, .inr (.inl (va_cpy f0 f1 sp.toNatClampNeg dp.toNatClampNeg mm.toNatClampNeg)))) hat1
      refine g.2 res' hs hR1 hR2 lsC lv _ _ H1 locs1 hl (by rw [hm]; exact hls) (by rw [hm]; exact hs5) ⟨?_, hP1, hD1, hS1, by rw [hm]; exact hw.2.2.2.2⟩
      rw [hm]
      refine rv_Ws_set (show rv_E ρ (ws.map Prod.fst) cA (.inr (1, n1, dd1, (List.range mm.toNatClampNeg).map (fun j => (dp.toNatClampNeg + j, rv_el dd0 u0 (sp.toNatClampNeg + j))) ++ u1)) (.inl (cA 1, n1, .inr (.inl (va_cpy f0 f1 sp.toNatClampNeg dp.toNatClampNeg mm.toNatClampNeg)))) from ⟨_, rfl, fun j1 hj1 => ?_⟩) q1 hw.1
      rw [rv_el_cp]
      by_cases hj : dp.toNatClampNeg ≤ j1 ∧ j1 < dp.toNatClampNeg + mm.toNatClampNeg
      · rw [if_pos ⟨hj.1, List.mem_range.mpr (by omega)⟩, show va_cpy f0 f1 sp.toNatClampNeg dp.toNatClampNeg mm.toNatClampNeg j1 = f0 (sp.toNatClampNeg + (j1 - dp.toNatClampNeg)) from by unfold va_cpy; rw [if_pos hj]]
        exact hf0 _ (by have := hq.2.2.2.1; omega)
      · rw [if_neg (fun z => hj ⟨z.1, by have := List.mem_range.mp z.2; omega⟩), show va_cpy f0 f1 sp.toNatClampNeg dp.toNatClampNeg mm.toNatClampNeg j1 = f1 j1 from by unfold va_cpy; rw [if_neg hj]]
        exact hf1 j1 hj1
    have hb7 : b.beq 77 = false := by
      cases hq : b.beq 77 with
      | false => rfl
      | true => exact absurd (Nat.eq_of_beq_eq_true hq) hb77
    replace hrun : Bool.rec (motive := fun _ => Option rv_R) (rv_inv (call n) (fun _ => true) a d0 h st ce sl (fun r h' ce' sl' => rv_run call rv_nw rv_ct body nL rt n rest ls r h' ce' sl')) (rv_cpy h st (fun h' r => rv_run call rv_nw rv_ct body nL rt n rest ls r h' ce sl)) (b.beq 77) = some res := hrun
    rw [hb7] at hrun
    replace hchk : Bool.rec (motive := fun _ => Bool) (rv_cis rv_inf y.cls k a d0 ts) (rv_cac y.cls k ts) (b.beq 77) = true := hchk
    rw [hb7] at hchk
    have hrun1 : (rv_inv (call n) (fun _ => true) a d0 h st ce sl (fun r h' ce' sl' => rv_run call rv_nw rv_ct body nL rt n rest ls r h' ce' sl')) = some res := hrun
    clear hrun
    obtain ⟨as, r, mc, ms, os, rfl, hlen, hwd, hok, hcl, hall0⟩ := rv_inv_i hrun1
    obtain ⟨hMt, ⟨⟨y2, bytes2, nL2, ret2⟩, hinf⟩⟩ := hcall _ _ _ _ _ hcl
    have hall := rv_all_i hall0
    obtain ⟨hcw, hnL2⟩ := hcode _ _ _ _ _ hinf
    obtain ⟨hw1, hw2, hw4, hnh, hnp⟩ := rv_cis_s hinf hchk
    refine ⟨?_, fun res' hs hR1 hR2 lsC lv stk ws H locs hl hls hst hw => ?_⟩
    · obtain ⟨o0, ho0⟩ := hall.1
      obtain ⟨x0, hx2, hsub⟩ := hall.2 o0 ho0
      have g := go hx2
      exact ⟨Nat.le_trans (Nat.le_add_right _ _) (Nat.le_trans g.1.1 hsub.1), Nat.le_trans (Nat.le_add_right _ _) (Nat.le_trans g.1.2 hsub.2.1)⟩
    have hroom : ce + mc ≤ R.cells ∧ sl + ms ≤ R.slots := by
      obtain ⟨o0, ho0⟩ := hall.1
      obtain ⟨x0, hx2, hsub⟩ := hall.2 o0 ho0
      have g := go hx2
      rw [hR1, hR2]
      exact ⟨Nat.le_trans g.1.1 (Nat.le_trans hsub.1 hs.1), Nat.le_trans g.1.2 (Nat.le_trans hsub.2.1 hs.2.1)⟩
    obtain ⟨vr, rs, rfl, hvr, hrs⟩ := rv_Vs_app hst
    have hvs := rv_Vs_rev hvr
    rw [List.reverse_reverse] at hvs
    have hM := hMt y2 bytes2 nL2 ret2 hinf D cA H.size ws vr.reverse hvs hw.1
    have hfree := rv_free hw.2.2.1 hw.2.2.2.1 hA
    have hRR : (rv_rm d mc ms).frames + 1 ≤ R.frames ∧ 8 + (nL2 + 11) + (rv_rm d mc ms).locals ≤ R.locals := by
      rw [hR.1, hR.2]
      exact ⟨Nat.le_refl _, by show 8 + (nL2 + 11) + 60 * d ≤ 60 * (d + 1); omega⟩
    have hrm : (rs.map fun v => v.category).sum ≤ 8 := by rw [rv_wd_le hrs]; exact hwd
    have hblind : FrameBlind (va_Pc vr.reverse (fun U => U.heap.size = H.size ∧ va_P D rv_cl ws U.heap ∧ rv_KK ρ (va_A ws H.size) D cA U ∧ va_D (fun _ => True) ws)) := fun a U g mk q => by
      obtain ⟨q0, q1, qP, qK, qD⟩ := q
      exact ⟨q0, q1, qP, qK.blind, qD⟩
    have hstart : ∀ U : State, U.heap = H → s.WarmedH U.vm → va_Pc vr.reverse (fun U => U.heap.size = H.size ∧ va_P D rv_cl ws U.heap ∧ rv_KK ρ (va_A ws H.size) D cA U ∧ va_D (fun _ => True) ws) vr.reverse.toArray U := fun U hU hW => ⟨rfl, by rw [hU], by rw [hU]; exact hw.2.1, hKK.go hw.2.2.2.1 hfree hU hW, hw.2.2.1.weaken (fun _ _ _ _ => trivial)⟩
    have hgo : ∀ o ∈ os, ∀ (ws2 : va_W) (v : Option Value) (H1 : Heap) (locs1 : List Loc), rv_rv ρ (ws2.map Prod.fst) o.1 v → rv_Ws ρ (ws2.map Prod.fst) cA o.2 ws2 → (∃ ext, ws2.map Prod.fst = ws.map Prod.fst ++ ext) → va_P D rv_cl ws2 H1 → va_D (va_A ws H.size) ws2 → va_S A s.heap H1 locs1 → W p l e R s m args below meth c H1 locs1 (ce + mc) (sl + ms) (MQ below (rv_Q ρ D cA L0 A res'.2.2) args s res'.1 res'.2.1 A) (F0 m (pc + 3) lsC (v.toList ++ rs)) := fun o ho ws2 v H1 locs1 hrv hW2 hext hP1 hD1 hS1 => by
      obtain ⟨x0, hx2, hsub⟩ := hall.2 o ho
      have g := go hx2
      obtain ⟨ext, hext⟩ := hext
      obtain ⟨ext0, hext0⟩ := hw.2.2.2.2
      have hmn : ∀ (k q : Nat), (ws.map Prod.fst)[k]? = some q → (ws2.map Prod.fst)[k]? = some q := by rw [hext]; exact rv_pfx
      refine g.2 res' (hsub.tr hs) hR1 hR2 lsC lv _ ws2 H1 locs1 hl (rv_Ls_mono hmn hls) ?_ ⟨hW2, hP1, hD1.weaken (fun _ _ _ h => hfree _ h), hS1, ext0 ++ ext, by rw [hext, hext0, List.append_assoc]⟩
      have hrs2 := rv_Vs_mono hmn hrs
      cases ho1 : o.1 with
      | none => rw [ho1] at hrv; cases v with
        | none => exact hrs2
        | some v => cases hrv
      | some a1 => rw [ho1] at hrv; cases v with
        | none => cases hrv
        | some v => exact ⟨hrv, hrs2⟩
    have hlA : vr.reverse.length = d0 := by rw [← rv_Vs_len hvs]; exact hlen
    refine rv_call (va_runS (As := vr.reverse) (rest := rs) ⟨hx, hb, hml, hown, hts⟩ hM ⟨callB_of d0 hts (rv_gin hcw) rfl rfl rfl (hts _ hw4) (hts _ hw1) ⟨hnh.1, hnh.2, hnp⟩ hRR, hts _ hw2⟩ ⟨hblind, hstart⟩ rfl hlA hl.1 (by show vr ++ rs = _; rw [List.reverse_reverse]) (lv_room hrm) hdec hroom) hw.2.2.2.1 (fun q _ h => hfree q h) hfree hgo
  | invokespecial k =>
    have hrun1 : (rv_isp b (call n) a d0 h st ce sl (fun r h' ce' sl' => rv_run call rv_nw rv_ct body nL rt n rest ls r h' ce' sl')) = some res := hrun
    clear hrun
    cases b with
    | zero =>
      obtain ⟨v, r, rfl, hf, hwd, hk⟩ := rv_isp_0 hrun1
      have g := go hk
      obtain ⟨hw1, hw2, hw3⟩ := rv_cip_0 hchk
      refine ⟨g.1, fun res' hs hR1 hR2 lsC lv stk ws H locs hl hls hst hw => ?_⟩
      obtain ⟨w, r2, rfl, hv, hs2⟩ := rv_Vs_c hst
      obtain ⟨z, rfl⟩ := rv_V_R hf hv
      have hrm : (r2.map fun v => v.category).sum ≤ 8 := by rw [rv_wd_le hs2]; exact hwd
      refine W.objInit hx hb hown (hts _ hw1) (hts _ hw2) (hts _ hw3) rfl (by rw [hml]; exact hl.1) rfl hdec (by rw [hR.1]; omega) (by rw [hR.2]; exact Nat.le_trans (Nat.add_le_add_right (lv_room hrm) 12) (by omega)) ?_
      exact g.2 res' hs hR1 hR2 lsC lv _ ws H locs hl hls hs2 hw
    | succ b =>
      have hrun12 := rv_isp_1 hrun1
      obtain ⟨as, r, mc, ms, os, rfl, hlen, hwd, hok, hcl, hall0⟩ := rv_inv_i hrun12
      obtain ⟨hMt, ⟨⟨y2, bytes2, nL2, ret2⟩, hinf⟩⟩ := hcall _ _ _ _ _ hcl
      have hall := rv_all_i hall0
      obtain ⟨hcw, hnL2⟩ := hcode _ _ _ _ _ hinf
      obtain ⟨hw1, hw2, hw4, hnh, hnp, hd1, hyn⟩ := rv_cip_s hinf hchk
      refine ⟨?_, fun res' hs hR1 hR2 lsC lv stk ws H locs hl hls hst hw => ?_⟩
      · obtain ⟨o0, ho0⟩ := hall.1
        obtain ⟨x0, hx2, hsub⟩ := hall.2 o0 ho0
        have g := go hx2
        exact ⟨Nat.le_trans (Nat.le_add_right _ _) (Nat.le_trans g.1.1 hsub.1), Nat.le_trans (Nat.le_add_right _ _) (Nat.le_trans g.1.2 hsub.2.1)⟩
      have hroom : ce + mc ≤ R.cells ∧ sl + ms ≤ R.slots := by
        obtain ⟨o0, ho0⟩ := hall.1
        obtain ⟨x0, hx2, hsub⟩ := hall.2 o0 ho0
        have g := go hx2
        rw [hR1, hR2]
        exact ⟨Nat.le_trans g.1.1 (Nat.le_trans hsub.1 hs.1), Nat.le_trans g.1.2 (Nat.le_trans hsub.2.1 hs.2.1)⟩
      obtain ⟨vr, rs, rfl, hvr, hrs⟩ := rv_Vs_app hst
      have hvs := rv_Vs_rev hvr
      rw [List.reverse_reverse] at hvs
      have hM := hMt y2 bytes2 nL2 ret2 hinf D cA H.size ws vr.reverse hvs hw.1
      have hfree := rv_free hw.2.2.1 hw.2.2.2.1 hA
      have hRR : (rv_rm d mc ms).frames + 1 ≤ R.frames ∧ 8 + (nL2 + 11) + (rv_rm d mc ms).locals ≤ R.locals := by
        rw [hR.1, hR.2]
        exact ⟨Nat.le_refl _, by show 8 + (nL2 + 11) + 60 * d ≤ 60 * (d + 1); omega⟩
      have hrm : (rs.map fun v => v.category).sum ≤ 8 := by rw [rv_wd_le hrs]; exact hwd
      have hblind : FrameBlind (va_Pc vr.reverse (fun U => U.heap.size = H.size ∧ va_P D rv_cl ws U.heap ∧ rv_KK ρ (va_A ws H.size) D cA U ∧ va_D (fun _ => True) ws)) := fun a U g mk q => by
        obtain ⟨q0, q1, qP, qK, qD⟩ := q
        exact ⟨q0, q1, qP, qK.blind, qD⟩
      have hstart : ∀ U : State, U.heap = H → s.WarmedH U.vm → va_Pc vr.reverse (fun U => U.heap.size = H.size ∧ va_P D rv_cl ws U.heap ∧ rv_KK ρ (va_A ws H.size) D cA U ∧ va_D (fun _ => True) ws) vr.reverse.toArray U := fun U hU hW => ⟨rfl, by rw [hU], by rw [hU]; exact hw.2.1, hKK.go hw.2.2.2.1 hfree hU hW, hw.2.2.1.weaken (fun _ _ _ _ => trivial)⟩
      have hgo : ∀ o ∈ os, ∀ (ws2 : va_W) (v : Option Value) (H1 : Heap) (locs1 : List Loc), rv_rv ρ (ws2.map Prod.fst) o.1 v → rv_Ws ρ (ws2.map Prod.fst) cA o.2 ws2 → (∃ ext, ws2.map Prod.fst = ws.map Prod.fst ++ ext) → va_P D rv_cl ws2 H1 → va_D (va_A ws H.size) ws2 → va_S A s.heap H1 locs1 → W p l e R s m args below meth c H1 locs1 (ce + mc) (sl + ms) (MQ below (rv_Q ρ D cA L0 A res'.2.2) args s res'.1 res'.2.1 A) (F0 m (pc + 3) lsC (v.toList ++ rs)) := fun o ho ws2 v H1 locs1 hrv hW2 hext hP1 hD1 hS1 => by
        obtain ⟨x0, hx2, hsub⟩ := hall.2 o ho
        have g := go hx2
        obtain ⟨ext, hext⟩ := hext
        obtain ⟨ext0, hext0⟩ := hw.2.2.2.2
        have hmn : ∀ (k q : Nat), (ws.map Prod.fst)[k]? = some q → (ws2.map Prod.fst)[k]? = some q := by rw [hext]; exact rv_pfx
        refine g.2 res' (hsub.tr hs) hR1 hR2 lsC lv _ ws2 H1 locs1 hl (rv_Ls_mono hmn hls) ?_ ⟨hW2, hP1, hD1.weaken (fun _ _ _ h => hfree _ h), hS1, ext0 ++ ext, by rw [hext, hext0, List.append_assoc]⟩
        have hrs2 := rv_Vs_mono hmn hrs
        cases ho1 : o.1 with
        | none => rw [ho1] at hrv; cases v with
          | none => exact hrs2
          | some v => cases hrv
        | some a1 => rw [ho1] at hrv; cases v with
          | none => cases hrv
          | some v => exact ⟨hrv, hrs2⟩
      obtain ⟨v0, as', rfl, hf⟩ := rv_hd_i hok
      obtain ⟨vb, As, hAs, hvb, hvAs⟩ := rv_Vs_c hvs
      obtain ⟨ad, rfl⟩ := rv_V_R hf hvb
      have hvrr : vr = As.reverse ++ [.ref ad] := by rw [← List.reverse_reverse vr, hAs, List.reverse_cons]
      rw [hAs] at hM hblind hstart
      have hlA : As.length = d0 - 1 := by
        rw [← rv_Vs_len hvAs]
        have := hlen
        rw [List.length_cons] at this
        omega
      have hret2 : ret2 = none := hini2 _ _ _ _ _ hinf hyn
      subst hret2
      rcases hw1 with hw1 | hw1
      · exact rv_call (va_runI (As := As) (rest := rs) ⟨hx, hb, hml, hown, hts⟩ hM ⟨callB_of (d0 - 1) hts (rv_gin hcw) rfl rfl rfl (hts _ hw4) (hts _ hw1) ⟨hnh.1, hnh.2, hnp⟩ hRR, hyn, hts _ hw2⟩ ⟨hblind, hstart⟩ rfl hlA hl.1 (by show vr ++ rs = _; rw [hvrr, List.append_assoc]; rfl) (lv_room hrm) hdec hroom) hw.2.2.2.1 (fun q _ h => hfree q h) hfree hgo
      · exact rv_call (va_runIN (As := As) (rest := rs) ⟨hx, hb, hml, hown, hts⟩ hM ⟨va_cnB (d0 - 1) hts (rv_gin hcw) rfl rfl rfl (hKK.2.2.2.1 _ hw1) (hts _ hw4) ⟨hnh.1, hnh.2, hnp⟩ hRR, hyn, hts _ hw2⟩ ⟨hblind, hstart⟩ rfl hlA hl.1 (by show vr ++ rs = _; rw [hvrr, List.append_assoc]; rfl) (lv_room hrm) hdec hroom) hw.2.2.2.1 (fun q _ h => hfree q h) hfree hgo
  | tableswitch df lo hi os => exact absurd rfl hT
  | _ => exact (nomatch (show (none : Option rv_R) = some res from hrun))
end RVS
