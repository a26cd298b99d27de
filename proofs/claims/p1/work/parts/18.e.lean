def nk_call (mi0 : Nat) (kv : Int32) : Nat → List rv_A → List rv_C → Option rv_R := fun mi as h => if mi = mi0 ∧ rv_eqL rv_eqA as [rv_sym 1] = true then some (0, 0, [(some (.inl kv), h)]) else none
theorem nk_call_s {mi0 mi : Nat} {kv : Int32} {as : List rv_A} {h : List rv_C} {res : rv_R} (hc : nk_call mi0 kv mi as h = some res) : mi = mi0 ∧ as = [rv_sym 1] ∧ res = (0, 0, [(some (.inl kv), h)]) := by
  unfold nk_call at hc
  split at hc
  · rename_i q
    cases hc
    exact ⟨q.1, rv_eqL_s (fun _ _ => rv_eqA_s) q.2, rfl⟩
  · cases hc
theorem nk_ge1 {a : Nat} (h : a < 2 ^ 40) : lN a < 1 ↔ a < 1 := pk_lLT (a := a) (b := 1) (by omega) (by omega)
theorem nk_le26 {a : Nat} (h : a < 2 ^ 40) : lN a ≤ 26 ↔ a ≤ 26 := pk_lLE (a := a) (b := 26) (by omega) (by omega)
theorem nk_gt26 {a : Nat} (h : a < 2 ^ 40) : 26 < lN a ↔ 26 < a := pk_lLT (a := 26) (b := a) (by omega) (by omega)
theorem nk_eq0 {a : Nat} (h : a < 2 ^ 40) : lN a = 0 ↔ a = 0 := pk_lEQ (a := a) (b := 0) (by omega) (by omega)
theorem nk_le0 {a : Nat} (h : a < 2 ^ 40) : lN a ≤ 0 ↔ a ≤ 0 := pk_lLE (a := a) (b := 0) (by omega) (by omega)
set_option maxHeartbeats 4000000 in
set_option maxRecDepth 100000 in
/-- canBeName -/
theorem nk_can {l : Launch} {ρ : Nat → Int64} {d : Nat} {h : List rv_C} {v : Int32} (hv : ((nk_vn (ρ 0) ∧ ¬ nk_kw (ρ 0)) ∧ v = Int32.ofNat 1) ∨ (¬ (nk_vn (ρ 0) ∧ ¬ nk_kw (ρ 0)) ∧ v = Int32.ofNat 0)) : rv_Mt l ρ (d + 2) 27 [rv_sym 1] h (0, 0, [(some (.inl v), h)]) := by
  obtain ⟨-, f2, f3, -⟩ := rv_fct (mi := 27) rfl rfl
  obtain ⟨kv, hkv⟩ : ∃ kv : Int32, (nk_kw (ρ 0) ∧ kv = Int32.ofNat 1) ∨ (¬ nk_kw (ρ 0) ∧ kv = Int32.ofNat 0) := by
    by_cases q : nk_kw (ρ 0)
    · exact ⟨_, Or.inl ⟨q, rfl⟩⟩
    · exact ⟨_, Or.inr ⟨q, rfl⟩⟩
  refine nk_wrap (call := nk_call 36 kv) (body := nb_can) (rt := 1) rfl (fun mi as h res hc => ?_) f2 nd_can (List.all_eq_true.mp nc_can) ns_can f3 (by decide) ?_
  · obtain ⟨rfl, rfl, rfl⟩ := nk_call_s hc
    exact ⟨nk_isKeyWord hkv, _, rfl⟩
  intro p e R s m args below meth c Q hx hb hown hts G ls hl
  have K0 : ¬ (nk_vn (ρ 0) ∧ ¬ nk_kw (ρ 0)) → ∀ ls, lv_has ls 7 [] → W p l e R s m args below meth c s.heap [] 0 0 Q (F0 m 14 ls []) ∧ W p l e R s m args below meth c s.heap [] 0 0 Q (F0 m 57 ls []) := fun q ls hl => by
    rcases hv with ⟨hn, -⟩ | ⟨-, rfl⟩
    · exact absurd hn q
    · exact ⟨G 8 10 _ _ [] [] rfl rfl [] ls [] [] hl True.intro True.intro, G 33 10 _ _ [] [] rfl rfl [] ls [] [] hl True.intro True.intro⟩
  have K69 : nk_vn (ρ 0) → ∀ ls, lv_has ls 7 [(0, .long (ρ 0))] → W p l e R s m args below meth c s.heap [] 0 0 Q (F0 m 69 ls []) := fun q ls hl => by
    rcases hkv with ⟨hk, rfl⟩ | ⟨hk, rfl⟩
    · rcases hv with ⟨hn, -⟩ | ⟨-, rfl⟩
      · exact absurd hk hn.2
      · exact G 41 20 _ _ [(0, rv_sym 1)] [] rfl rfl [] ls _ [] hl ⟨rfl, ⟨_, rfl, fun k hk => by cases hk; rfl⟩, True.intro⟩ True.intro
    · rcases hv with ⟨-, rfl⟩ | ⟨hn, -⟩
      · exact G 41 20 _ _ [(0, rv_sym 1)] [] rfl rfl [] ls _ [] hl ⟨rfl, ⟨_, rfl, fun k hk => by cases hk; rfl⟩, True.intro⟩ True.intro
      · exact absurd ⟨q, hk⟩ hn
  generalize ρ 0 = x at hl K0 K69
  refine lv_lload_n hx hb nq_can_0 rfl (lv_at hl 0 rfl) ?_
  refine lv_lconst (v := 0) hx hb nq_can_1 (by decide) ?_
  refine W.lcmp hx hb nq_can_2 ?_
  refine lv_if_le (tgt := 14) hx hb nq_can_3 (by decide) (fun q => (K0 (fun z => nk_neg ((lg_cmp_le _ _).mp q) z.1) ls (lv_sub hl [] rfl)).1) (fun q0 => ?_)
  refine lv_lload_n hx hb nq_can_6 rfl (lv_at hl 0 rfl) ?_
  refine lv_ldc2 (v := 1099511627776) hx hb hown (hts _ (rv_w_s (p := 12111) (by decide +kernel))) nq_can_7 ?_
  refine W.lcmp hx hb nq_can_10 ?_
  refine lv_if_lt (tgt := 16) hx hb nq_can_11 (by decide) (fun q1 => ?_) (fun q => (K0 (fun z => nk_big (fun w => q ((lg_cmp_lt _ _).mpr w)) z.1) ls (lv_sub hl [] rfl)).1)
  obtain ⟨n, rfl, hn0, hn⟩ := nk_of (fun w => q0 ((lg_cmp_le _ _).mpr w)) ((lg_cmp_lt _ _).mp q1)
  have loop : ∀ (f i : Nat), i + f = 8 → nk_ok n i → ∀ ls, lv_has ls 7 [(0, .long (lN n)), (2, .long (lN (n / 32 ^ i))), (4, .int (nI i))] → W p l e R s m args below meth c s.heap [] 0 0 Q (F0 m 21 ls []) := by
    intro f
    induction f with
    | zero =>
      intro i hi ho ls hl
      have hi : i = 8 := by omega
      subst hi
      refine lv_iload hx hb nq_can_21 (lv_at hl 2 rfl) ?_
      refine lv_bipush (v := 8) hx hb nq_can_23 (by decide) ?_
      exact lv_icmp_ge (tgt := 69) hx hb nq_can_25 (by decide) (fun _ => K69 ⟨n, rfl, hn0, hn, ho⟩ ls (lv_sub hl [0] rfl)) (fun q => absurd (by decide) q)
    | succ f ih =>
      intro i hi ho ls hl
      have hk := nk_lt i hn
      have hk2 : n / 32 ^ i % 32 < 2 ^ 40 := by omega
      refine lv_iload hx hb nq_can_21 (lv_at hl 2 rfl) ?_
      refine lv_bipush (v := 8) hx hb nq_can_23 (by decide) ?_
      refine lv_icmp_ge (tgt := 69) hx hb nq_can_25 (by decide) (fun q => absurd q (nI_ge (a := i) (b := 8) (by omega) (by decide))) (fun _ => ?_)
      refine lv_lload_n hx hb nq_can_28 rfl (lv_at hl 1 rfl) ?_
      refine lv_lconst (v := 0) hx hb nq_can_29 (by decide) ?_
      refine W.lcmp hx hb nq_can_30 ?_
      refine lv_if_eq (tgt := 69) hx hb nq_can_31 (by decide) (fun q => K69 ⟨n, rfl, hn0, hn, nk_all ho ((nk_eq0 hk).mp ((lg_cmp_eq _ _).mp q))⟩ ls (lv_sub hl [0] rfl)) (fun q2 => ?_)
      have hz : n / 32 ^ i ≠ 0 := fun w => q2 ((lg_cmp_eq _ _).mpr ((nk_eq0 hk).mpr w))
      refine lv_lload_n hx hb nq_can_34 rfl (lv_at hl 1 rfl) ?_
      refine lv_ldc2 (v := 31) hx hb hown (hts _ (rv_w_s (p := 12112) (by decide +kernel))) nq_can_35 ?_
      refine lv_land hx hb nq_can_38 ?_
      rw [nk_and hk]
      refine lv_lstore (lv' := [(5, .long (lN (n / 32 ^ i % 32))), (0, .long (lN n)), (2, .long (lN (n / 32 ^ i))), (4, .int (nI i))]) hx hb nq_can_39 hl (by decide) rfl (fun ls hl => ?_)
      refine lv_lload hx hb nq_can_41 (lv_at hl 0 rfl) ?_
      refine lv_lconst (v := 1) hx hb nq_can_43 (by decide) ?_
      refine W.lcmp hx hb nq_can_44 ?_
      refine lv_if_lt (tgt := 57) hx hb nq_can_45 (by decide) (fun q => (K0 (fun z => nk_no rfl hn (by omega) hz (fun w => by have := (nk_ge1 hk2).mp ((lg_cmp_lt _ _).mp q); omega) z.1) ls (lv_sub hl [] rfl)).2) (fun q3 => ?_)
      refine lv_lload hx hb nq_can_48 (lv_at hl 0 rfl) ?_
      refine lv_ldc2 (v := 26) hx hb hown (hts _ (rv_w_s (p := 12113) (by decide +kernel))) nq_can_50 ?_
      refine W.lcmp hx hb nq_can_53 ?_
      refine lv_if_le (tgt := 59) hx hb nq_can_54 (by decide) (fun q4 => ?_) (fun q => (K0 (fun z => nk_no rfl hn (by omega) hz (fun w => q ((lg_cmp_le _ _).mpr ((nk_le26 hk2).mpr w.2))) z.1) ls (lv_sub hl [] rfl)).2)
      refine lv_lload_n hx hb nq_can_59 rfl (lv_at hl 2 rfl) ?_
      refine lv_iconst (v := 5) hx hb nq_can_60 (by decide) ?_
      refine lv_lshr hx hb nq_can_61 (nk_shr hk) ?_
      rw [nk_div]
      refine lv_lstore_n (lv' := [(2, .long (lN (n / 32 ^ (i + 1)))), (5, .long (lN (n / 32 ^ i % 32))), (0, .long (lN n)), (4, .int (nI i))]) hx hb nq_can_62 rfl hl (by decide) rfl (fun ls hl => ?_)
      refine lv_iinc (v := nI (i + 1)) (lv' := [(4, .int (nI (i + 1))), (2, .long (lN (n / 32 ^ (i + 1)))), (5, .long (lN (n / 32 ^ i % 32))), (0, .long (lN n))]) hx hb nq_can_63 hl (k := 3) rfl (nI_1 i) (by decide) rfl (fun ls hl => ?_)
      refine lv_goto (tgt := 21) hx hb nq_can_66 (by decide) ?_
      refine ih (i + 1) (by omega) (nk_s ho (fun _ => ⟨?_, ?_⟩)) ls (lv_sub hl [3, 1, 0] rfl)
      · rcases Nat.lt_or_ge (n / 32 ^ i % 32) 1 with w | w
        · exact absurd ((lg_cmp_lt _ _).mpr ((nk_ge1 hk2).mpr w)) q3
        · exact w
      · exact (nk_le26 hk2).mp ((lg_cmp_le _ _).mp q4)
  refine lv_lload_n hx hb nq_can_16 rfl (lv_at hl 0 rfl) ?_
  refine lv_lstore_n (lv' := [(2, .long (lN n)), (0, .long (lN n))]) hx hb nq_can_17 rfl hl (by decide) rfl (fun ls hl => ?_)
  refine lv_iconst (v := 0) hx hb nq_can_18 (by decide) ?_
  refine lv_istore (lv' := [(4, .int 0), (2, .long (lN n)), (0, .long (lN n))]) hx hb nq_can_19 hl (by decide) rfl (fun ls hl => ?_)
  refine loop 8 0 (by omega) nk_0 ls ?_
  rw [show n / 32 ^ 0 = n by simp]
  exact lv_sub hl [2, 1, 0] rfl
theorem nk_lt1 {x : Int64} (h : x < 1) : x ≤ 0 := by
  rw [Int64.le_iff_toInt_le]
  rw [Int64.lt_iff_toInt_lt] at h
  have e0 : (0 : Int64).toInt = 0 := rfl
  have e1 : (1 : Int64).toInt = 1 := rfl
  omega
theorem nk_lt1' {x : Int64} (h : x ≤ 0) : x < 1 := by
  rw [Int64.le_iff_toInt_le] at h
  rw [Int64.lt_iff_toInt_lt]
  have e0 : (0 : Int64).toInt = 0 := rfl
  have e1 : (1 : Int64).toInt = 1 := rfl
  omega
set_option maxHeartbeats 4000000 in
set_option maxRecDepth 100000 in
/-- isName -/
theorem nk_nam_w {p : Program} {l : Launch} {e : Env} {R : Room} {s : State} {m : MethodId} {args : Array Value} {below : List Frame} {meth : Method} {c : Code} {H : Heap} {locs : List Loc} {cells slots : Nat} {Q : State → Prop} {x : Int64} {v : Int32} (hv : (nk_vn x ∧ v = 1) ∨ (¬ nk_vn x ∧ v = 0)) (hx : p.tables.exec = Jvm.exec) (hb : c.code = cX12_isName) (hown : s.vm.findClass RX12 = some m.cls) (hts : ∀ w ∈ rv_T2, w.before args s = true) (K : ∀ (pc : Nat) (ls : Array Slot), decode cX12_isName pc = .ok (.ireturn, 1) → W p l e R s m args below meth c H locs cells slots Q (F0 m pc ls [.int v])) (ls : Array Slot) (hl : lv_has ls 5 [(0, .long x)]) : W p l e R s m args below meth c H locs cells slots Q (F0 m 0 ls []) := by
  have K0 : ¬ nk_vn x → ∀ ls, lv_has ls 5 [] → W p l e R s m args below meth c H locs cells slots Q (F0 m 14 ls []) := fun q ls hl => by
    rcases hv with ⟨hn, -⟩ | ⟨-, rfl⟩
    · exact absurd hn q
    · refine lv_iconst (v := 0) hx hb nq_nam_14 (by decide) ?_
      exact K 15 ls nq_nam_15
  have K65 : ∀ g : Int32, (nk_vn x ∧ g = 1) ∨ (¬ nk_vn x ∧ g = 0) → ∀ ls, lv_has ls 5 [(2, .int g)] → W p l e R s m args below meth c H locs cells slots Q (F0 m 65 ls []) := fun g hg ls hl => by
    refine lv_iload_n hx hb nq_nam_65 rfl (lv_at hl 0 rfl) ?_
    rcases hg with ⟨hk, rfl⟩ | ⟨hk, rfl⟩
    · rcases hv with ⟨-, rfl⟩ | ⟨hn, -⟩
      · exact K 66 ls nq_nam_66
      · exact absurd hk hn
    · rcases hv with ⟨hn, -⟩ | ⟨-, rfl⟩
      · exact absurd hn hk
      · exact K 66 ls nq_nam_66
  refine lv_lload_n hx hb nq_nam_0 rfl (lv_at hl 0 rfl) ?_
  refine lv_lconst (v := 1) hx hb nq_nam_1 (by decide) ?_
  refine W.lcmp hx hb nq_nam_2 ?_
  refine lv_if_lt (tgt := 14) hx hb nq_nam_3 (by decide) (fun q => K0 (nk_neg (nk_lt1 ((lg_cmp_lt _ _).mp q))) ls (lv_sub hl [] rfl)) (fun q0 => ?_)
  refine lv_lload_n hx hb nq_nam_6 rfl (lv_at hl 0 rfl) ?_
  refine lv_ldc2 (v := 1099511627776) hx hb hown (hts _ (rv_w_s (p := 16094) (by decide +kernel))) nq_nam_7 ?_
  refine W.lcmp hx hb nq_nam_10 ?_
  refine lv_if_lt (tgt := 16) hx hb nq_nam_11 (by decide) (fun q1 => ?_) (fun q => K0 (nk_big (fun w => q ((lg_cmp_lt _ _).mpr w))) ls (lv_sub hl [] rfl))
  obtain ⟨n, rfl, hn0, hn⟩ := nk_of (fun w => q0 ((lg_cmp_lt _ _).mpr (nk_lt1' w))) ((lg_cmp_lt _ _).mp q1)
  have loop : ∀ (f i : Nat), i + f = 8 → ∀ g : Int32, (nk_ok n i ∧ g = 1) ∨ (¬ nk_vn (lN n) ∧ g = 0) → ∀ ls, lv_has ls 5 [(0, .long (lN n)), (3, .long (lN (n / 32 ^ i))), (2, .int g)] → W p l e R s m args below meth c H locs cells slots Q (F0 m 20 ls []) := by
    intro f
    induction f with
    | zero =>
      intro i hi g hg ls hl
      have hi : i = 8 := by omega
      subst hi
      refine lv_lload_n hx hb nq_nam_20 rfl (lv_at hl 1 rfl) ?_
      refine lv_lconst (v := 0) hx hb nq_nam_21 (by decide) ?_
      refine W.lcmp hx hb nq_nam_22 ?_
      refine lv_if_le (tgt := 65) hx hb nq_nam_23 (by decide) (fun _ => K65 g ?_ ls (lv_sub hl [2] rfl)) (fun q => absurd ((lg_cmp_le _ _).mpr ((nk_le0 (nk_lt 8 hn)).mpr (by rw [nk_8 hn]; exact Nat.le_refl 0))) q)
      rcases hg with ⟨ho, rfl⟩ | hg
      · exact Or.inl ⟨⟨n, rfl, hn0, hn, ho⟩, rfl⟩
      · exact Or.inr hg
    | succ f ih =>
      intro i hi g hg ls hl
      have hk := nk_lt i hn
      have hk2 : n / 32 ^ i % 32 < 2 ^ 40 := by omega
      refine lv_lload_n hx hb nq_nam_20 rfl (lv_at hl 1 rfl) ?_
      refine lv_lconst (v := 0) hx hb nq_nam_21 (by decide) ?_
      refine W.lcmp hx hb nq_nam_22 ?_
      refine lv_if_le (tgt := 65) hx hb nq_nam_23 (by decide) (fun q => K65 g ?_ ls (lv_sub hl [2] rfl)) (fun q2 => ?_)
      · have hz : n / 32 ^ i = 0 := Nat.le_zero.mp ((nk_le0 hk).mp ((lg_cmp_le _ _).mp q))
        rcases hg with ⟨ho, rfl⟩ | hg
        · exact Or.inl ⟨⟨n, rfl, hn0, hn, nk_all ho hz⟩, rfl⟩
        · exact Or.inr hg
      have hz : n / 32 ^ i ≠ 0 := fun w => q2 ((lg_cmp_le _ _).mpr ((nk_le0 hk).mpr (by rw [w]; exact Nat.le_refl 0)))
      have K57 : ∀ g2 : Int32, (nk_ok n (i + 1) ∧ g2 = 1) ∨ (¬ nk_vn (lN n) ∧ g2 = 0) → W p l e R s m args below meth c H locs cells slots Q (F0 m 57 ls [.int g2]) := fun g2 hg2 => by
        refine lv_istore_n (lv' := [(2, .int g2), (0, .long (lN n)), (3, .long (lN (n / 32 ^ i)))]) hx hb nq_nam_57 rfl hl (by decide) rfl (fun ls hl => ?_)
        refine lv_lload_n hx hb nq_nam_58 rfl (lv_at hl 2 rfl) ?_
        refine lv_iconst (v := 5) hx hb nq_nam_59 (by decide) ?_
        refine lv_lshr hx hb nq_nam_60 (nk_shr hk) ?_
        rw [nk_div]
        refine lv_lstore_n (lv' := [(3, .long (lN (n / 32 ^ (i + 1)))), (2, .int g2), (0, .long (lN n))]) hx hb nq_nam_61 rfl hl (by decide) rfl (fun ls hl => ?_)
        refine lv_goto (tgt := 20) hx hb nq_nam_62 (by decide) ?_
        exact ih (i + 1) (by omega) g2 hg2 ls (lv_sub hl [2, 0, 1] rfl)
      have K56 : ¬ nk_vn (lN n) → W p l e R s m args below meth c H locs cells slots Q (F0 m 56 ls []) := fun q => by
        refine lv_iconst (v := 0) hx hb nq_nam_56 (by decide) ?_
        exact K57 0 (Or.inr ⟨q, rfl⟩)
      refine lv_iload_n hx hb nq_nam_26 rfl (lv_at hl 2 rfl) ?_
      refine lv_if_eq (tgt := 56) hx hb nq_nam_27 (by decide) (fun q => K56 ?_) (fun q => ?_)
      · rcases hg with ⟨-, rfl⟩ | hg
        · exact absurd q (by decide)
        · exact hg.1
      have ho : nk_ok n i := by
        rcases hg with ⟨ho, -⟩ | hg
        · exact ho
        · exact absurd hg.2 q
      refine lv_lload_n hx hb nq_nam_30 rfl (lv_at hl 1 rfl) ?_
      refine lv_ldc2 (v := 31) hx hb hown (hts _ (rv_w_s (p := 16095) (by decide +kernel))) nq_nam_31 ?_
      refine lv_land hx hb nq_nam_34 ?_
      rw [nk_and hk]
      refine lv_lconst (v := 1) hx hb nq_nam_35 (by decide) ?_
      refine W.lcmp hx hb nq_nam_36 ?_
      refine lv_if_lt (tgt := 56) hx hb nq_nam_37 (by decide) (fun q => K56 (nk_no rfl hn (by omega) hz (fun w => by have := (nk_ge1 hk2).mp ((lg_cmp_lt _ _).mp q); omega))) (fun q3 => ?_)
      refine lv_lload_n hx hb nq_nam_40 rfl (lv_at hl 1 rfl) ?_
      refine lv_ldc2 (v := 31) hx hb hown (hts _ (rv_w_s (p := 16095) (by decide +kernel))) nq_nam_41 ?_
      refine lv_land hx hb nq_nam_44 ?_
      rw [nk_and hk]
      refine lv_ldc2 (v := 26) hx hb hown (hts _ (rv_w_s (p := 16096) (by decide +kernel))) nq_nam_45 ?_
      refine W.lcmp hx hb nq_nam_48 ?_
      refine lv_if_gt (tgt := 56) hx hb nq_nam_49 (by decide) (fun q => K56 (nk_no rfl hn (by omega) hz (fun w => by have := (nk_gt26 hk2).mp ((lg_cmp_gt _ _).mp q); omega))) (fun q4 => ?_)
      refine lv_iconst (v := 1) hx hb nq_nam_52 (by decide) ?_
      refine lv_goto (tgt := 57) hx hb nq_nam_53 (by decide) ?_
      refine K57 1 (Or.inl ⟨nk_s ho (fun _ => ⟨?_, ?_⟩), rfl⟩)
      · rcases Nat.lt_or_ge (n / 32 ^ i % 32) 1 with w | w
        · exact absurd ((lg_cmp_lt _ _).mpr ((nk_ge1 hk2).mpr w)) q3
        · exact w
      · rcases Nat.lt_or_ge 26 (n / 32 ^ i % 32) with w | w
        · exact absurd ((lg_cmp_gt _ _).mpr ((nk_gt26 hk2).mpr w)) q4
        · exact w
  refine lv_iconst (v := 1) hx hb nq_nam_16 (by decide) ?_
  refine lv_istore_n (lv' := [(2, .int 1), (0, .long (lN n))]) hx hb nq_nam_17 rfl hl (by decide) rfl (fun ls hl => ?_)
  refine lv_lload_n hx hb nq_nam_18 rfl (lv_at hl 1 rfl) ?_
  refine lv_lstore_n (lv' := [(3, .long (lN n)), (2, .int 1), (0, .long (lN n))]) hx hb nq_nam_19 rfl hl (by decide) rfl (fun ls hl => ?_)
  refine loop 8 0 (by omega) 1 (Or.inl ⟨nk_0, rfl⟩) ls ?_
  rw [show n / 32 ^ 0 = n by simp]
  exact lv_sub hl [2, 0, 1] rfl
