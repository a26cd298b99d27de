def ik_step (v : Int64) (c : Int32) : Int64 := (v <<< ((5 : Int32).toInt64 &&& 63)) ||| ((c - 97).toInt64 + 1)
def ik_r : Nat → Nat → Int64 → Int64 → Int32
  | 0, _, _, _ => 0
  | f + 1, k, v, x => if ns_c k = 32 then (if v = x then 1 else if k + 1 < 32 then ik_r f (k + 1) 0 x else 0) else ik_r f (k + 1) (ik_step v (ns_c k)) x
theorem ik_31 : ns_c 31 = 32 := by decide
set_option maxHeartbeats 4000000 in
set_option maxRecDepth 100000 in
/-- isKey -/
theorem ns_key {l : Launch} {d kS vS : Nat} {x : Int64} {r : Int32} (hr0 : ik_r 31 1 0 x = r) (hr1 : r = 0 ∨ r = 1) : ns_M l (d + 4) kS vS yX12_isKey cX12_isKey 5 (some .boolean) [.long x] r := by
  refine ns_wrap np_key (Nat.le_of_ble_eq_true rfl) (by rcases hr1 with rfl | rfl <;> rfl) ?_
  intro p e s m args below meth c Q hx hb hml hown hts hS K ls hl
  have hl : lv_has ls 5 [(0, .long x)] := hl
  have loop : ∀ (f k : Nat) (v : Int64), k + f = 32 → k < 32 → ik_r f k v x = r → ∀ ls, lv_has ls 5 [(0, .long x), (2, .int (nI k)), (3, .long v)] → W p l e (rv_rm (d + 4) 0 0) s m args below meth c s.heap [] 0 0 Q (F0 m 13 ls []) := by
    intro f
    induction f with
    | zero => intro k v h1 h2; omega
    | succ f ih =>
      intro k v h1 hk hr ls hl
      rw [ik_r] at hr
      refine va_ldcS hx hb hown hS.2.2.2 nq_key_13 ?_
      refine lv_iload_n hx hb nq_key_15 rfl (lv_at hl 1 rfl) ?_
      refine ns_cV (n := 1) hx hb hml hown hts hS ⟨rfl, rfl⟩ (ns_cha hk) nw_cha (rv_w_s (p := 16111) (by decide +kernel)) (rv_w_s (p := 16112) (by decide +kernel)) (rv_w_s (p := 16113) (by decide +kernel)) (rv_w_s (p := 10017) (by decide +kernel)) (by decide +kernel) (As := [.int (nI k)]) rfl (by decide) hl.1 (rest := []) (Nat.le_of_ble_eq_true rfl) nq_key_16 rfl ?_
      refine lv_bipush (v := 32) hx hb nq_key_19 (by decide) ?_
      refine lv_icmp_eq (tgt := 47) hx hb nq_key_21 (by decide) (fun q => ?_) (fun q => ?_)
      · rw [if_pos q] at hr
        refine lv_lload_n hx hb nq_key_47 rfl (lv_at hl 2 rfl) ?_
        refine lv_lload_n hx hb nq_key_48 rfl (lv_at hl 0 rfl) ?_
        refine W.lcmp hx hb nq_key_49 ?_
        refine lv_if_ne (tgt := 55) hx hb nq_key_50 (by decide) (fun q2 => ?_) (fun q2 => ?_)
        · have hvx : ¬ v = x := fun w => q2 ((lg_cmp_eq _ _).mpr w)
          rw [if_neg hvx] at hr
          refine lv_iinc (v := nI (k + 1)) (lv' := [(2, .int (nI (k + 1))), (0, .long x), (3, .long v)]) hx hb nq_key_55 hl (k := 1) rfl (nI_1 k) (by decide) rfl (fun ls hl => ?_)
          refine lv_goto (tgt := 2) hx hb nq_key_58 (by decide) ?_
          refine lv_iload_n hx hb nq_key_2 rfl (lv_at hl 0 rfl) ?_
          refine va_ldcS hx hb hown hS.2.2.2 nq_key_3 ?_
          refine ns_cV (n := 0) hx hb hml hown hts hS ⟨rfl, rfl⟩ ns_len nw_len (rv_w_s (p := 16101) (by decide +kernel)) (rv_w_s (p := 16102) (by decide +kernel)) (rv_w_s (p := 16103) (by decide +kernel)) (rv_w_s (p := 10017) (by decide +kernel)) (by decide +kernel) (As := []) rfl (by decide) hl.1 (rest := [.int (nI (k + 1))]) (Nat.le_of_ble_eq_true rfl) nq_key_5 rfl ?_
          refine lv_icmp_ge (tgt := 61) hx hb nq_key_8 (by decide) (fun q3 => ?_) (fun q3 => ?_)
          · have hk1 : ¬ k + 1 < 32 := fun w => absurd q3 (nI_ge (a := k + 1) (b := 32) w (by decide))
            rw [if_neg hk1] at hr
            subst hr
            refine lv_iconst (v := 0) hx hb nq_key_61 (by decide) ?_
            exact K 62 ls nq_key_62
          · have hk1 : k + 1 < 32 := by
              rcases Nat.lt_or_ge (k + 1) 32 with w | w
              · exact w
              · exact absurd (nI_le (a := 32) (b := k + 1) w (by omega)) q3
            rw [if_pos hk1] at hr
            refine lv_lconst (v := 0) hx hb nq_key_11 (by decide) ?_
            refine lv_lstore_n (lv' := [(3, .long 0), (2, .int (nI (k + 1))), (0, .long x)]) hx hb nq_key_12 rfl hl (by decide) rfl (fun ls hl => ?_)
            exact ih (k + 1) 0 (by omega) hk1 hr ls (lv_sub hl [2, 1, 0] rfl)
        · have hvx : v = x := (lg_cmp_eq _ _).mp q2
          rw [if_pos hvx] at hr
          subst hr
          refine lv_iconst (v := 1) hx hb nq_key_53 (by decide) ?_
          exact K 54 ls nq_key_54
      · rw [if_neg q] at hr
        have hk1 : k + 1 < 32 := by
          rcases Nat.lt_or_ge (k + 1) 32 with w | w
          · exact w
          · have : k = 31 := by omega
            subst this
            exact absurd ik_31 q
        refine lv_lload_n hx hb nq_key_24 rfl (lv_at hl 2 rfl) ?_
        refine lv_iconst (v := 5) hx hb nq_key_25 (by decide) ?_
        refine lv_lshl hx hb nq_key_26 rfl ?_
        refine va_ldcS hx hb hown hS.2.2.2 nq_key_27 ?_
        refine lv_iload_n hx hb nq_key_29 rfl (lv_at hl 1 rfl) ?_
        refine ns_cV (n := 1) hx hb hml hown hts hS ⟨rfl, rfl⟩ (ns_cha hk) nw_cha (rv_w_s (p := 16111) (by decide +kernel)) (rv_w_s (p := 16112) (by decide +kernel)) (rv_w_s (p := 16113) (by decide +kernel)) (rv_w_s (p := 10017) (by decide +kernel)) (by decide +kernel) (As := [.int (nI k)]) rfl (by decide) hl.1 (rest := [.long _]) (Nat.le_of_ble_eq_true rfl) nq_key_30 rfl ?_
        refine lv_bipush (v := 97) hx hb nq_key_33 (by decide) ?_
        refine lv_isub hx hb nq_key_35 ?_
        refine lv_i2l hx hb nq_key_36 rfl ?_
        refine lv_lconst (v := 1) hx hb nq_key_37 (by decide) ?_
        refine lv_ladd hx hb nq_key_38 ?_
        refine lv_lor hx hb nq_key_39 ?_
        refine lv_lstore_n (lv' := [(3, .long (ik_step v (ns_c k))), (0, .long x), (2, .int (nI k))]) hx hb nq_key_40 rfl hl (by decide) rfl (fun ls hl => ?_)
        refine lv_iinc (v := nI (k + 1)) (lv' := [(2, .int (nI (k + 1))), (3, .long (ik_step v (ns_c k))), (0, .long x)]) hx hb nq_key_41 hl (k := 2) rfl (nI_1 k) (by decide) rfl (fun ls hl => ?_)
        refine lv_goto (tgt := 13) hx hb nq_key_44 (by decide) ?_
        exact ih (k + 1) _ (by omega) hk1 hr ls (lv_sub hl [2, 0, 1] rfl)
  refine lv_iconst (v := 1) hx hb nq_key_0 (by decide) ?_
  refine lv_istore_n (lv' := [(2, .int 1), (0, .long x)]) hx hb nq_key_1 rfl hl (by decide) rfl (fun ls hl => ?_)
  refine lv_iload_n hx hb nq_key_2 rfl (lv_at hl 0 rfl) ?_
  refine va_ldcS hx hb hown hS.2.2.2 nq_key_3 ?_
  refine ns_cV (n := 0) hx hb hml hown hts hS ⟨rfl, rfl⟩ ns_len nw_len (rv_w_s (p := 16101) (by decide +kernel)) (rv_w_s (p := 16102) (by decide +kernel)) (rv_w_s (p := 16103) (by decide +kernel)) (rv_w_s (p := 10017) (by decide +kernel)) (by decide +kernel) (As := []) rfl (by decide) hl.1 (rest := [.int 1]) (Nat.le_of_ble_eq_true rfl) nq_key_5 rfl ?_
  refine lv_icmp_ge (tgt := 61) hx hb nq_key_8 (by decide) (fun q3 => absurd q3 (by decide)) (fun _ => ?_)
  refine lv_lconst (v := 0) hx hb nq_key_11 (by decide) ?_
  refine lv_lstore_n (lv' := [(3, .long 0), (2, .int 1), (0, .long x)]) hx hb nq_key_12 rfl hl (by decide) rfl (fun ls hl => ?_)
  exact loop 31 1 0 (by decide) (by decide) hr0 ls (lv_sub hl [2, 1, 0] rfl)
set_option maxRecDepth 100000 in
theorem ik_val (x : Int64) : ik_r 31 1 0 x = if (1156 : Int64) = x then 1 else if (2098 : Int64) = x then 1 else if (294 : Int64) = x then 1 else if (498 : Int64) = x then 1 else if (1476 : Int64) = x then 1 else if (14836 : Int64) = x then 1 else if (632645 : Int64) = x then 1 else if (11566 : Int64) = x then 1 else 0 := rfl
theorem ik_kw (x : Int64) : (nk_kw x ∧ ik_r 31 1 0 x = 1) ∨ (¬ nk_kw x ∧ ik_r 31 1 0 x = 0) := by
  rw [ik_val]
  by_cases h1 : (1156 : Int64) = x
  · exact Or.inl ⟨Or.inl h1.symm, by rw [if_pos h1]⟩
  by_cases h2 : (2098 : Int64) = x
  · exact Or.inl ⟨Or.inr (Or.inl h2.symm), by rw [if_neg h1, if_pos h2]⟩
  by_cases h3 : (294 : Int64) = x
  · exact Or.inl ⟨Or.inr (Or.inr (Or.inl h3.symm)), by rw [if_neg h1, if_neg h2, if_pos h3]⟩
  by_cases h4 : (498 : Int64) = x
  · exact Or.inl ⟨Or.inr (Or.inr (Or.inr (Or.inl h4.symm))), by rw [if_neg h1, if_neg h2, if_neg h3, if_pos h4]⟩
  by_cases h5 : (1476 : Int64) = x
  · exact Or.inl ⟨Or.inr (Or.inr (Or.inr (Or.inr (Or.inl h5.symm)))), by rw [if_neg h1, if_neg h2, if_neg h3, if_neg h4, if_pos h5]⟩
  by_cases h6 : (14836 : Int64) = x
  · exact Or.inl ⟨Or.inr (Or.inr (Or.inr (Or.inr (Or.inr (Or.inl h6.symm))))), by rw [if_neg h1, if_neg h2, if_neg h3, if_neg h4, if_neg h5, if_pos h6]⟩
  by_cases h7 : (632645 : Int64) = x
  · exact Or.inl ⟨Or.inr (Or.inr (Or.inr (Or.inr (Or.inr (Or.inr (Or.inl h7.symm)))))), by rw [if_neg h1, if_neg h2, if_neg h3, if_neg h4, if_neg h5, if_neg h6, if_pos h7]⟩
  by_cases h8 : (11566 : Int64) = x
  · exact Or.inl ⟨Or.inr (Or.inr (Or.inr (Or.inr (Or.inr (Or.inr (Or.inr h8.symm)))))), by rw [if_neg h1, if_neg h2, if_neg h3, if_neg h4, if_neg h5, if_neg h6, if_neg h7, if_pos h8]⟩
  refine Or.inr ⟨?_, by rw [if_neg h1, if_neg h2, if_neg h3, if_neg h4, if_neg h5, if_neg h6, if_neg h7, if_neg h8]⟩
  rintro (h | h | h | h | h | h | h | h)
  · exact h1 h.symm
  · exact h2 h.symm
  · exact h3 h.symm
  · exact h4 h.symm
  · exact h5 h.symm
  · exact h6 h.symm
  · exact h7 h.symm
  · exact h8 h.symm
theorem nw_nam : Cond.code yX12_isName cX12_isName 5 (some .boolean) ∈ rv_T2 := (rv_w_s (p := 16093) (by decide +kernel))
theorem nm_nam {l : Launch} {d kS vS : Nat} {x : Int64} {r : Int32} (hv : (nk_vn x ∧ r = 1) ∨ (¬ nk_vn x ∧ r = 0)) : ns_M l d kS vS yX12_isName cX12_isName 5 (some .boolean) [.long x] r := by
  refine ns_wrap (by decide +kernel) (Nat.le_of_ble_eq_true rfl) (by rcases hv with ⟨-, rfl⟩ | ⟨-, rfl⟩ <;> rfl) ?_
  intro p e s m args below meth c Q hx hb hml hown hts hS K ls hl
  exact nk_nam_w hv hx hb hown hts K ls hl
