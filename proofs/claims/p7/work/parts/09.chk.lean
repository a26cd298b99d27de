/-! what the tables say of the code, checked once -/
abbrev rv_T : List Cond := lw_tbl
def rv_T2 : List Cond := rv_T.filter goodWord
def rv_cl : List vw_C := [(RX0, TX0, 9), (RX1, TX1, 5), (RX2, TX2, 8), (RX3, TX3, 17), (RX4, TX4, 8), (RX5, TX5, 13), (RX6, TX6, 13), (RX7, TX7, 3), (RX8, TX8, 6), (RX9, TX9, 11), (RX10, TX10, 6), (RX11, TX11, 13), (RX12, TX12, 72)]
abbrev rv_N : Type := MethodName × ByteArray × Nat × Option FieldType
/-- the tables, a list at a time -/
def rv_chn (k : Nat) : List Cond := match k with
  | 0 => k2_sels lw_privs_1
  | 1 => k2_sels lw_privs_2
  | 2 => k2_sels lw_privs_3
  | 3 => k2_sels lw_privs_4
  | 4 => k2_sels lw_privs_5
  | 5 => k2_sels lw_privs_6
  | 6 => k2_sels lw_privs_7
  | 7 => k2_sels lw_privs_8
  | 10 => tables_1_1
  | 11 => tables_1_2
  | 12 => tables_1_3
  | 13 => tables_1_4
  | 14 => tables_1_5
  | 15 => tables_1_6
  | 16 => tables_1_7
  | 17 => tables_1_8
  | 18 => tables_1_9
  | _ => []
theorem rv_chn_s (k : Nat) : ∀ w ∈ rv_chn k, w ∈ rv_T := by
  intro w hw
  match k, hw with
  | 0, hw =>
    obtain ⟨q, hq, rfl⟩ := List.mem_map.mp hw
    exact List.mem_append_left _ (List.mem_map.mpr ⟨q, List.mem_append_left _ hq, rfl⟩)
  | 1, hw =>
    obtain ⟨q, hq, rfl⟩ := List.mem_map.mp hw
    exact List.mem_append_left _ (List.mem_map.mpr ⟨q, List.mem_append_right _ (List.mem_append_left _ hq), rfl⟩)
  | 2, hw =>
    obtain ⟨q, hq, rfl⟩ := List.mem_map.mp hw
    exact List.mem_append_left _ (List.mem_map.mpr ⟨q, List.mem_append_right _ (List.mem_append_right _ (List.mem_append_left _ hq)), rfl⟩)
  | 3, hw =>
    obtain ⟨q, hq, rfl⟩ := List.mem_map.mp hw
    exact List.mem_append_left _ (List.mem_map.mpr ⟨q, List.mem_append_right _ (List.mem_append_right _ (List.mem_append_right _ (List.mem_append_left _ hq))), rfl⟩)
  | 4, hw =>
    obtain ⟨q, hq, rfl⟩ := List.mem_map.mp hw
    exact List.mem_append_left _ (List.mem_map.mpr ⟨q, List.mem_append_right _ (List.mem_append_right _ (List.mem_append_right _ (List.mem_append_right _ (List.mem_append_left _ hq)))), rfl⟩)
  | 5, hw =>
    obtain ⟨q, hq, rfl⟩ := List.mem_map.mp hw
    exact List.mem_append_left _ (List.mem_map.mpr ⟨q, List.mem_append_right _ (List.mem_append_right _ (List.mem_append_right _ (List.mem_append_right _ (List.mem_append_right _ (List.mem_append_left _ hq))))), rfl⟩)
  | 6, hw =>
    obtain ⟨q, hq, rfl⟩ := List.mem_map.mp hw
    exact List.mem_append_left _ (List.mem_map.mpr ⟨q, List.mem_append_right _ (List.mem_append_right _ (List.mem_append_right _ (List.mem_append_right _ (List.mem_append_right _ (List.mem_append_right _ (List.mem_append_left _ hq)))))), rfl⟩)
  | 7, hw =>
    obtain ⟨q, hq, rfl⟩ := List.mem_map.mp hw
    exact List.mem_append_left _ (List.mem_map.mpr ⟨q, List.mem_append_right _ (List.mem_append_right _ (List.mem_append_right _ (List.mem_append_right _ (List.mem_append_right _ (List.mem_append_right _ (List.mem_append_right _ (hq))))))), rfl⟩)
  | 10, hq => exact List.mem_append_right _ (List.mem_append_left _ hq)
  | 11, hq => exact List.mem_append_right _ (List.mem_append_right _ (List.mem_append_left _ hq))
  | 12, hq => exact List.mem_append_right _ (List.mem_append_right _ (List.mem_append_right _ (List.mem_append_left _ hq)))
  | 13, hq => exact List.mem_append_right _ (List.mem_append_right _ (List.mem_append_right _ (List.mem_append_right _ (List.mem_append_left _ hq))))
  | 14, hq => exact List.mem_append_right _ (List.mem_append_right _ (List.mem_append_right _ (List.mem_append_right _ (List.mem_append_right _ (List.mem_append_left _ hq)))))
  | 15, hq => exact List.mem_append_right _ (List.mem_append_right _ (List.mem_append_right _ (List.mem_append_right _ (List.mem_append_right _ (List.mem_append_right _ (List.mem_append_left _ hq))))))
  | 16, hq => exact List.mem_append_right _ (List.mem_append_right _ (List.mem_append_right _ (List.mem_append_right _ (List.mem_append_right _ (List.mem_append_right _ (List.mem_append_right _ (List.mem_append_left _ hq)))))))
  | 17, hq => exact List.mem_append_right _ (List.mem_append_right _ (List.mem_append_right _ (List.mem_append_right _ (List.mem_append_right _ (List.mem_append_right _ (List.mem_append_right _ (List.mem_append_right _ (List.mem_append_left _ hq))))))))
  | 18, hq => exact List.mem_append_right _ (List.mem_append_right _ (List.mem_append_right _ (List.mem_append_right _ (List.mem_append_right _ (List.mem_append_right _ (List.mem_append_right _ (List.mem_append_right _ (List.mem_append_right _ (hq)))))))))
  | 8, hw => cases hw
  | 9, hw => cases hw
  | k + 19, hw => cases hw
noncomputable def rv_w (p : Nat) (w : Cond) : Bool := decide (rv_nth (rv_chn (p / 1000)) (p % 1000) = some w) && goodWord w
theorem rv_w_s {p : Nat} {w : Cond} (h : rv_w p w = true) : w ∈ rv_T2 := by
  unfold rv_w at h
  rw [Bool.and_eq_true] at h
  have h1 := of_decide_eq_true h.1
  rw [rv_nth_eq] at h1
  exact List.mem_filter.mpr ⟨rv_chn_s _ w (List.mem_of_getElem? h1), h.2⟩
def rv_len (i : Instr) : Nat := match i with
  | .bipush _ | .ldc _ | .iload _ | .istore _ | .lload _ | .lstore _ | .aload _ | .astore _ | .newarray _ => 2
  | .sipush _ | .iinc _ _ | .ifCond _ _ | .if_icmp _ _ | .goto _ | .getfield _ | .putfield _ | .invokevirtual _ | .invokestatic _ | .invokespecial _ | .new _ | .anewarray _ | .ldc_w _ | .ldc2_w _ => 3
  | _ => 1
def rv_p1 (ts : List Nat) (f : Nat → Bool) : Bool := match ts with
  | [p] => f p
  | _ => false
def rv_p3 (ts : List Nat) (f : Nat → Nat → Nat → Bool) : Bool := match ts with
  | [p, q, r] => f p q r
  | _ => false
def rv_p4 (ts : List Nat) (f : Nat → Nat → Nat → Nat → Bool) : Bool := match ts with
  | [p, q, r, s] => f p q r s
  | _ => false
noncomputable def rv_tg (body : List rv_I) (a pc : Nat) (off : Int) : Bool := match rv_nth body a with
  | some e => decide ((pc : Int) + off = (e.1 : Int))
  | none => false
def rv_ft (d : Nat) (s : String) : Bool := match parseFieldDescriptor s with
  | some .int => d.beq 0
  | some .boolean => d.beq 1
  | some .long => d.beq 2
  | some (.object _) => d.beq 3
  | some (.array _) => d.beq 3
  | _ => false
def rv_nh (y : MethodName) : Bool := decide (y.cls ≠ "java/lang/invoke/MethodHandle") && decide (y.cls ≠ "java/lang/invoke/VarHandle")
def rv_np (y : MethodName) (n : Nat) : Bool := decide ((parseMethodDescriptor y.desc).map (fun d => d.parameters.length) = some n)
noncomputable def rv_cgf (own : String) (k a b : Nat) (ts : List Nat) : Bool := match rv_nth rv_cl a with
  | some (C, T, N) => decide (b < N) && decide ((T b).1 = C) && rv_p1 ts (fun p => rv_w p (.fieldLink own k C (T b).2.1 (T b).2.2.1))
  | none => false
noncomputable def rv_cgn (nest : List Cond) (own : String) (k a b : Nat) (ts : List Nat) : Bool := match rv_nth rv_cl a with
  | some (C, T, N) => decide (b < N) && decide ((T b).1 = C) && rv_p1 ts (fun p => decide (rv_nth nest p = some (.fieldLinkNest own k C (T b).2.1 (T b).2.2.1 "CabinPeace")))
  | none => false
theorem rv_cgn_s {nest : List Cond} {own : String} {k a b : Nat} {ts : List Nat} (h : rv_cgn nest own k a b ts = true) : ∃ C T N, rv_cl[a]? = some (C, T, N) ∧ b < N ∧ (T b).1 = C ∧ Cond.fieldLinkNest own k C (T b).2.1 (T b).2.2.1 "CabinPeace" ∈ nest := by
  unfold rv_cgn at h
  rw [rv_nth_eq] at h
  split at h
  · rename_i C T N hc
    simp only [Bool.and_eq_true] at h
    obtain ⟨p, hp⟩ : ∃ p, decide (rv_nth nest p = some (.fieldLinkNest own k C (T b).2.1 (T b).2.2.1 "CabinPeace")) = true := by
      have h2 := h.2
      unfold rv_p1 at h2
      split at h2
      · exact ⟨_, h2⟩
      · cases h2
    have hp := of_decide_eq_true hp
    rw [rv_nth_eq] at hp
    exact ⟨C, T, N, hc, of_decide_eq_true h.1.1, of_decide_eq_true h.1.2, List.mem_of_getElem? hp⟩
  · cases h
noncomputable def rv_cpf (own : String) (ini : Bool) (k a b d : Nat) (ts : List Nat) : Bool := match rv_nth rv_cl a with
  | some (C, T, N) => decide (b < N) && decide ((T b).1 = C) && rv_p1 ts (fun p => rv_w p (.fieldLink own k C (T b).2.1 (T b).2.2.1)) && rv_ft d (T b).2.2.1 && (!(T b).2.2.2 || (ini && decide (C = own)))
  | none => false
noncomputable def rv_cnw (own : String) (k a b : Nat) (ts : List Nat) : Bool := match rv_nth rv_cl a with
  | some (C, _, N) => rv_p3 ts (fun p q r => rv_w p (.classLink own k C) && rv_w q (.instantiable C N) && rv_w r (.initialized C)) && b.beq N
  | none => false
noncomputable def rv_civ (inf : List rv_N) (own : String) (k a b d : Nat) (ts : List Nat) : Bool := match rv_nth inf a with
  | some (y, _) => rv_p4 ts (fun p q r s => rv_w p (.methodLink own k y) && rv_w q (.instanceMethod y) && rv_w r (.selects y.cls y y) && rv_w s (.initialized y.cls)) && rv_nh y && rv_np y (d - 1) && decide (1 ≤ d) && ((b.beq 99 && decide (y.cls = "java/lang/String")) || decide ((rv_nth rv_cl b).map (fun q => q.1) = some y.cls))
  | none => true
noncomputable def rv_cac (own : String) (k : Nat) (ts : List Nat) : Bool := rv_p4 ts (fun p q r s => rv_w p (.methodLink own k arraycopyName) && rv_w q (.native arraycopyName) && rv_w r (.static arraycopyName) && rv_w s (.initialized "java/lang/System"))
noncomputable def rv_cis (inf : List rv_N) (own : String) (k a d : Nat) (ts : List Nat) : Bool := match rv_nth inf a with
  | some (y, _) => rv_p3 ts (fun p q s => rv_w p (.methodLink own k y) && rv_w q (.static y) && rv_w s (.initialized y.cls)) && rv_nh y && rv_np y d
  | none => true
noncomputable def rv_cip (inf : List rv_N) (nest : List Cond) (own : String) (k a b d : Nat) (ts : List Nat) : Bool := match b with
  | 0 => rv_p3 ts (fun p q r => rv_w p (.methodLink own k objectInit) && rv_w q (.instanceMethod objectInit) && rv_w r (.code objectInit ⟨#[0xb1]⟩ 1 none))
  | 1 => match rv_nth inf a with
    | some (y, _) => rv_p3 ts (fun p q s => rv_w p (.methodLink own k y) && rv_w q (.instanceMethod y) && rv_w s (.initialized y.cls)) && rv_nh y && rv_np y (d - 1) && decide (1 ≤ d) && decide (y.name = "<init>")
    | none => true
  | _ => match rv_nth inf a with
    | some (y, _) => rv_p3 ts (fun p q s => decide (rv_nth nest p = some (.methodLinkNest own k y "CabinPeace")) && rv_w q (.instanceMethod y) && rv_w s (.initialized y.cls)) && rv_nh y && rv_np y (d - 1) && decide (1 ≤ d) && decide (y.name = "<init>")
    | none => true
noncomputable def rv_cts (body : List rv_I) (pc : Nat) (dflt lo hi : Int) (offs : Array Int) (ts : List Nat) : Bool := match ts with
  | t0 :: tt => rv_tg body t0 pc dflt && decide (hi - lo + 1 = (offs.toList.length : Int)) && decide (tt.length = offs.toList.length) && (offs.toList.zip tt).all (fun q => rv_tg body q.2 pc q.1)
  | _ => false
noncomputable def rv_cst (own : String) (k a : Nat) : Bool := decide ((rv_nth rs_lit a).map (fun q => q.1) = some k) && decide (own = "CabinPeaceModel")
def rv_isT (i : Instr) : Bool := match i with
  | .tableswitch _ _ _ _ => true
  | _ => false
noncomputable def rv_chk (inf : List rv_N) (nest : List Cond) (own : String) (ini : Bool) (body : List rv_I) (e : rv_I) : Bool := match e with
  | (pc, i, len, a, b, d, ts) => (rv_isT i || len.beq (rv_len i)) && (match i with
    | .iconst n => decide (Int32.ofInt n = Int32.ofNat a)
    | .bipush n => decide ((Int8.ofInt n).toInt32 = Int32.ofNat a)
    | .sipush n => decide ((Int16.ofInt n).toInt32 = Int32.ofNat a)
    | .lconst n => decide (Int64.ofNat (n : Nat) = Int64.ofNat a)
    | .ldc k => Nat.rec (motive := fun _ => Bool) (rv_p1 ts (fun p => rv_w p (.constant own k (Int32.ofNat a)))) (fun _ _ => rv_cst own k a) d
    | .ldc_w k => Nat.rec (motive := fun _ => Bool) (rv_p1 ts (fun p => rv_w p (.constant own k (Int32.ofNat a)))) (fun _ _ => rv_cst own k a) d
    | .tableswitch df lo hi os => rv_cts body pc df lo hi os ts
    | .ldc2_w k => rv_p1 ts (fun p => rv_w p (.constantLong own k (Int64.ofNat a)))
    | .iload_n n | .lload_n n | .aload_n n | .istore_n n | .lstore_n n | .astore_n n => (n : Nat).beq a
    | .iload n | .lload n | .aload n | .istore n | .lstore n | .astore n => n.beq a
    | .goto off => rv_tg body a pc off
    | .ifCond _ off => rv_tg body a pc off
    | .if_icmp _ off => rv_tg body a pc off
    | .getfield k => Bool.rec (motive := fun _ => Bool) (rv_cgf own k a b ts) (rv_cgn nest own k a b ts) (d.beq 8)
    | .putfield k => rv_cpf own ini k a b d ts
    | .new k => rv_cnw own k a b ts
    | .newarray t => rv_p1 ts (fun p => rv_w p (.arrayClass (newarray.typeOf t))) && (rv_aty t).ble 3
    | .anewarray k => rv_p1 ts (fun p => (a.beq 4 && rv_w p (.classLink own k "CabinPeace$Tray")) || (a.beq 5 && rv_w p (.classLink own k "CabinPeace$Wish")))
    | .invokevirtual k => rv_civ inf own k a b d ts
    | .invokestatic k => Bool.rec (motive := fun _ => Bool) (rv_cis inf own k a d ts) (rv_cac own k ts) (b.beq 77)
    | .invokespecial k => rv_cip inf nest own k a b d ts
    | _ => true)
theorem rv_p1_s {ts : List Nat} {f : Nat → Bool} (h : rv_p1 ts f = true) : ∃ p, f p = true := by
  unfold rv_p1 at h
  split at h
  · exact ⟨_, h⟩
  · cases h
theorem rv_p3_s {ts : List Nat} {f : Nat → Nat → Nat → Bool} (h : rv_p3 ts f = true) : ∃ p q r, f p q r = true := by
  unfold rv_p3 at h
  split at h
  · exact ⟨_, _, _, h⟩
  · cases h
theorem rv_p4_s {ts : List Nat} {f : Nat → Nat → Nat → Nat → Bool} (h : rv_p4 ts f = true) : ∃ p q r s, f p q r s = true := by
  unfold rv_p4 at h
  split at h
  · exact ⟨_, _, _, _, h⟩
  · cases h
theorem rv_cgf_s {own : String} {k a b : Nat} {ts : List Nat} (h : rv_cgf own k a b ts = true) : ∃ C T N, rv_cl[a]? = some (C, T, N) ∧ b < N ∧ (T b).1 = C ∧ Cond.fieldLink own k C (T b).2.1 (T b).2.2.1 ∈ rv_T2 := by
  unfold rv_cgf at h
  rw [rv_nth_eq] at h
  split at h
  · rename_i C T N hc
    simp only [Bool.and_eq_true] at h
    obtain ⟨p, hp⟩ := rv_p1_s h.2
    exact ⟨C, T, N, hc, of_decide_eq_true h.1.1, of_decide_eq_true h.1.2, rv_w_s hp⟩
  · cases h
theorem rv_cpf_s {own : String} {ini : Bool} {k a b d : Nat} {ts : List Nat} (h : rv_cpf own ini k a b d ts = true) : ∃ C T N, rv_cl[a]? = some (C, T, N) ∧ b < N ∧ (T b).1 = C ∧ Cond.fieldLink own k C (T b).2.1 (T b).2.2.1 ∈ rv_T2 ∧ rv_ft d (T b).2.2.1 = true ∧ ((T b).2.2.2 = false ∨ (ini = true ∧ C = own)) := by
  unfold rv_cpf at h
  rw [rv_nth_eq] at h
  split at h
  · rename_i C T N hc
    simp only [Bool.and_eq_true] at h
    obtain ⟨p, hp⟩ := rv_p1_s h.1.1.2
    refine ⟨C, T, N, hc, of_decide_eq_true h.1.1.1.1, of_decide_eq_true h.1.1.1.2, rv_w_s hp, h.1.2, ?_⟩
    have h2 := h.2
    rw [Bool.or_eq_true] at h2
    rcases h2 with h2 | h2
    · exact Or.inl (by simpa using h2)
    · rw [Bool.and_eq_true] at h2
      exact Or.inr ⟨h2.1, of_decide_eq_true h2.2⟩
  · cases h
theorem rv_cnw_s {own : String} {k a b : Nat} {ts : List Nat} (h : rv_cnw own k a b ts = true) : ∃ C T N, rv_cl[a]? = some (C, T, N) ∧ Cond.classLink own k C ∈ rv_T2 ∧ Cond.instantiable C N ∈ rv_T2 ∧ Cond.initialized C ∈ rv_T2 ∧ b = N := by
  unfold rv_cnw at h
  rw [rv_nth_eq] at h
  split at h
  · rename_i C T N hc
    rw [Bool.and_eq_true] at h
    obtain ⟨p, q, r, hp⟩ := rv_p3_s h.1
    simp only [Bool.and_eq_true] at hp
    exact ⟨C, T, N, hc, rv_w_s hp.1.1, rv_w_s hp.1.2, rv_w_s hp.2, Nat.eq_of_beq_eq_true h.2⟩
  · cases h
theorem rv_nh_s {y : MethodName} (h : rv_nh y = true) : y.cls ≠ "java/lang/invoke/MethodHandle" ∧ y.cls ≠ "java/lang/invoke/VarHandle" := by
  unfold rv_nh at h
  rw [Bool.and_eq_true] at h
  exact ⟨of_decide_eq_true h.1, of_decide_eq_true h.2⟩
theorem rv_civ_s {inf : List rv_N} {own : String} {k a b d : Nat} {ts : List Nat} {y : MethodName} {z : ByteArray × Nat × Option FieldType} (hi : inf[a]? = some (y, z)) (h : rv_civ inf own k a b d ts = true) : Cond.methodLink own k y ∈ rv_T2 ∧ Cond.instanceMethod y ∈ rv_T2 ∧ Cond.selects y.cls y y ∈ rv_T2 ∧ Cond.initialized y.cls ∈ rv_T2 ∧ (y.cls ≠ "java/lang/invoke/MethodHandle" ∧ y.cls ≠ "java/lang/invoke/VarHandle") ∧ (parseMethodDescriptor y.desc).map (fun d => d.parameters.length) = some (d - 1) ∧ 1 ≤ d ∧ ((b = 99 ∧ y.cls = "java/lang/String") ∨ ∃ T N, rv_cl[b]? = some (y.cls, T, N)) := by
  unfold rv_civ at h
  rw [rv_nth_eq, hi, rv_nth_eq] at h
  dsimp only at h
  simp only [Bool.and_eq_true] at h
  obtain ⟨⟨⟨⟨h1, h2⟩, h3⟩, h4⟩, h5⟩ := h
  obtain ⟨p, q, r, s, hp⟩ := rv_p4_s h1
  simp only [Bool.and_eq_true] at hp
  refine ⟨rv_w_s hp.1.1.1, rv_w_s hp.1.1.2, rv_w_s hp.1.2, rv_w_s hp.2, rv_nh_s h2, of_decide_eq_true h3, of_decide_eq_true h4, ?_⟩
  rw [Bool.or_eq_true, Bool.and_eq_true] at h5
  rcases h5 with h5 | h5
  · exact Or.inl ⟨Nat.eq_of_beq_eq_true h5.1, of_decide_eq_true h5.2⟩
  · right
    have h6 := of_decide_eq_true h5
    cases hc : rv_cl[b]? with
    | none => rw [hc] at h6; cases h6
    | some q =>
      rw [hc] at h6
      obtain ⟨C, T, N⟩ := q
      cases h6
      exact ⟨T, N, rfl⟩
theorem rv_cis_s {inf : List rv_N} {own : String} {k a d : Nat} {ts : List Nat} {y : MethodName} {z : ByteArray × Nat × Option FieldType} (hi : inf[a]? = some (y, z)) (h : rv_cis inf own k a d ts = true) : Cond.methodLink own k y ∈ rv_T2 ∧ Cond.static y ∈ rv_T2 ∧ Cond.initialized y.cls ∈ rv_T2 ∧ (y.cls ≠ "java/lang/invoke/MethodHandle" ∧ y.cls ≠ "java/lang/invoke/VarHandle") ∧ (parseMethodDescriptor y.desc).map (fun d => d.parameters.length) = some d := by
  unfold rv_cis at h
  rw [rv_nth_eq, hi] at h
  dsimp only at h
  simp only [Bool.and_eq_true] at h
  obtain ⟨⟨h1, h2⟩, h3⟩ := h
  obtain ⟨p, q, r, hp⟩ := rv_p3_s h1
  simp only [Bool.and_eq_true] at hp
  exact ⟨rv_w_s hp.1.1, rv_w_s hp.1.2, rv_w_s hp.2, rv_nh_s h2, of_decide_eq_true h3⟩
theorem rv_cip_0 {inf : List rv_N} {nest : List Cond} {own : String} {k a d : Nat} {ts : List Nat} (h : rv_cip inf nest own k a 0 d ts = true) : Cond.methodLink own k objectInit ∈ rv_T2 ∧ Cond.instanceMethod objectInit ∈ rv_T2 ∧ Cond.code objectInit ⟨#[0xb1]⟩ 1 none ∈ rv_T2 := by
  obtain ⟨p, q, r, hp⟩ := rv_p3_s (show rv_p3 ts _ = true from h)
  simp only [Bool.and_eq_true] at hp
  exact ⟨rv_w_s hp.1.1, rv_w_s hp.1.2, rv_w_s hp.2⟩
theorem rv_cip_s {inf : List rv_N} {nest : List Cond} {own : String} {k a b d : Nat} {ts : List Nat} {y : MethodName} {z : ByteArray × Nat × Option FieldType} (hi : inf[a]? = some (y, z)) (h : rv_cip inf nest own k a (b + 1) d ts = true) : (Cond.methodLink own k y ∈ rv_T2 ∨ Cond.methodLinkNest own k y "CabinPeace" ∈ nest) ∧ Cond.instanceMethod y ∈ rv_T2 ∧ Cond.initialized y.cls ∈ rv_T2 ∧ (y.cls ≠ "java/lang/invoke/MethodHandle" ∧ y.cls ≠ "java/lang/invoke/VarHandle") ∧ (parseMethodDescriptor y.desc).map (fun d => d.parameters.length) = some (d - 1) ∧ 1 ≤ d ∧ y.name = "<init>" := by
  unfold rv_cip at h
  rw [rv_nth_eq, hi] at h
  split at h
  · rename_i q; cases q
  · dsimp only at h
    simp only [Bool.and_eq_true] at h
    obtain ⟨⟨⟨⟨h1, h2⟩, h3⟩, h4⟩, h5⟩ := h
    obtain ⟨p, q, r, hp⟩ := rv_p3_s h1
    simp only [Bool.and_eq_true] at hp
    exact ⟨Or.inl (rv_w_s hp.1.1), rv_w_s hp.1.2, rv_w_s hp.2, rv_nh_s h2, of_decide_eq_true h3, of_decide_eq_true h4, of_decide_eq_true h5⟩
  · dsimp only at h
    simp only [Bool.and_eq_true] at h
    obtain ⟨⟨⟨⟨h1, h2⟩, h3⟩, h4⟩, h5⟩ := h
    obtain ⟨p, q, r, hp⟩ := rv_p3_s h1
    simp only [Bool.and_eq_true] at hp
    have hq := of_decide_eq_true hp.1.1
    rw [rv_nth_eq] at hq
    exact ⟨Or.inr (List.mem_of_getElem? hq), rv_w_s hp.1.2, rv_w_s hp.2, rv_nh_s h2, of_decide_eq_true h3, of_decide_eq_true h4, of_decide_eq_true h5⟩
def rv_seq (body : List rv_I) : Bool := match body with
  | [] => true
  | e :: t => (match t with
    | [] => true
    | e2 :: _ => e2.1.beq (e.1 + e.2.2.1)) && rv_seq t
def rv_rtk (ret : Option FieldType) (rt : Nat) : Bool := match ret with
  | none => rt.beq 4
  | some .int => rt.beq 0
  | some .boolean => rt.beq 1
  | some .long => rt.beq 2
  | some .char => rt.beq 3
  | _ => false
noncomputable def rv_chM (inf : List rv_N) (cpl : List Nat) (nest : List Cond) (tab : List rv_M) (mi : Nat) : Bool := match rv_nth inf mi with
  | some (y, bytes, nL, ret) => match rv_nth tab mi with
    | some (body, nL', rt) => match rv_nth cpl mi with
      | some p => nL.beq nL' && rv_rtk ret rt && plainFor y && rv_w p (.code y bytes nL ret) && rv_seq body && (match body with
        | [] => true
        | e :: _ => e.1.beq 0) && nL.ble 40 && body.all (fun e => rv_chk inf nest y.cls (decide (y.name = "<init>")) body e)
      | none => false
    | none => false
  | none => false
def rv_dc (bytes : ByteArray) (body : List rv_I) : Bool := body.all (fun e => decide (decode bytes e.1 = .ok (e.2.1, e.2.2.1)))
def rv_dj (bytes : ByteArray) (body : List rv_I) (j : Nat) : Bool := rv_dc bytes ((body.drop (40 * j)).take 40)
def rv_DK (q : ByteArray × List rv_I) : Prop := ∀ e ∈ q.2, decode q.1 e.1 = .ok (e.2.1, e.2.2.1)
theorem rv_dc_join {bytes : ByteArray} {body : List rv_I} (m : Nat) (h : ∀ j, j < m → rv_dj bytes body j = true) (hl : body.length ≤ 40 * m) : rv_DK (bytes, body) := by
  intro e he
  have he : e ∈ body := he
  obtain ⟨i, hi, hq⟩ := List.getElem_of_mem he
  have hj : i / 40 < m := by omega
  have h1 := List.all_eq_true.mp (h (i / 40) hj) e (by
    refine List.mem_of_getElem? (i := i % 40) ?_
    rw [List.getElem?_take_of_lt (Nat.mod_lt _ (by decide)), List.getElem?_drop, show 40 * (i / 40) + i % 40 = i from Nat.div_add_mod i 40, List.getElem?_eq_getElem hi, hq])
  exact of_decide_eq_true h1
theorem rv_cac_s {own : String} {k : Nat} {ts : List Nat} (h : rv_cac own k ts = true) : Cond.methodLink own k arraycopyName ∈ rv_T2 ∧ Cond.native arraycopyName ∈ rv_T2 ∧ Cond.static arraycopyName ∈ rv_T2 ∧ Cond.initialized "java/lang/System" ∈ rv_T2 := by
  obtain ⟨p, q, r, s, hp⟩ := rv_p4_s h
  simp only [Bool.and_eq_true] at hp
  exact ⟨rv_w_s hp.1.1.1, rv_w_s hp.1.1.2, rv_w_s hp.1.2, rv_w_s hp.2⟩
theorem rv_cst_s {own : String} {k a : Nat} (h : rv_cst own k a = true) : own = "CabinPeaceModel" ∧ ∃ tx, rs_lit[a]? = some (k, tx) := by
  unfold rv_cst at h
  rw [Bool.and_eq_true, rv_nth_eq] at h
  refine ⟨of_decide_eq_true h.2, ?_⟩
  have h1 := of_decide_eq_true h.1
  cases hc : rs_lit[a]? with
  | none => rw [hc] at h1; cases h1
  | some q =>
    rw [hc] at h1
    obtain ⟨k2, tx⟩ := q
    cases h1
    exact ⟨tx, rfl⟩
