theorem lw_pm_95 {as : List rv_A} {σ σ' : Nat → Int} {o : rv_O} {x : Int32} {a1 a2 : Int} {A : Nat → Nat → Int} {τ : Nat → Int} (hx : o.1 = some (.inl x)) (h1 : lw_av as 1 = a1) (h2 : lw_av as 2 = a2) (hb : ∀ s, (sx_sr s).1 ≤ σ s ∧ σ s ≤ (sx_sr s).2) (hG : sx_GG σ' A) (hW : lw_W ([(18509, 1, 1099511627770), (18510, 0, 34359738367)], [((-1156), [(19001, 1)]), (1156, [(19001, (-1))])], [(12800, (1, [])), (18509, (0, [(1000000, 1)])), (18510, (0, [(1000001, 1)])), (18511, (0, [(19001, 1)])), (18512, (0, [])), (18513, (1, []))], some (false, ((-1), []))) as σ σ' τ o) : lw_pm_C a1 a2 x.toInt σ σ' := by
  unfold lw_pm_C
  have bM : 0 ≤ σ 12804 ∧ σ 12804 ≤ 8 := by
    have h0 := hb 12804
    rw [show sx_sr 12804 = (0, 8) from by decide +kernel] at h0
    exact h0
  obtain ⟨-, -, -, -, -, -, -, -, -, -, -, -, -, -, -, -, -, -, -, g19, g20, -, g22, -, g24⟩ := hG
  obtain ⟨hs, ht, hf, hr, hm, hw⟩ := hW
  have e1 : τ 19001 = a1 := by rw [ht 19001 (by decide) (by decide)]; exact h1
  have e2 : τ 19002 = a2 := by rw [ht 19002 (by decide) (by decide)]; exact h2
  have s133 : τ 133 = σ 133 := hs 133 (by decide)
  have s134 : τ 134 = σ 134 := hs 134 (by decide)
  have s10250 : τ 10250 = σ 10250 := hs 10250 (by decide)
  have s12804 : τ 12804 = σ 12804 := hs 12804 (by decide)
  have s12805 : τ 12805 = σ 12805 := hs 12805 (by decide)
  have s12814 : τ 12814 = σ 12814 := hs 12814 (by decide)
  have s18520 : τ 18520 = σ 18520 := hs 18520 (by decide)
  have s18521 : τ 18521 = σ 18521 := hs 18521 (by decide)
  have s18522 : τ 18522 = σ 18522 := hs 18522 (by decide)
  have s18523 : τ 18523 = σ 18523 := hs 18523 (by decide)
  have s18524 : τ 18524 = σ 18524 := hs 18524 (by decide)
  have s18525 : τ 18525 = σ 18525 := hs 18525 (by decide)
  have s18526 : τ 18526 = σ 18526 := hs 18526 (by decide)
  have s18527 : τ 18527 = σ 18527 := hs 18527 (by decide)
  have s18528 : τ 18528 = σ 18528 := hs 18528 (by decide)
  have s18529 : τ 18529 = σ 18529 := hs 18529 (by decide)
  have s18530 : τ 18530 = σ 18530 := hs 18530 (by decide)
  have s18531 : τ 18531 = σ 18531 := hs 18531 (by decide)
  have s18532 : τ 18532 = σ 18532 := hs 18532 (by decide)
  have s18533 : τ 18533 = σ 18533 := hs 18533 (by decide)
  have s18534 : τ 18534 = σ 18534 := hs 18534 (by decide)
  have s18535 : τ 18535 = σ 18535 := hs 18535 (by decide)
  clear ht hb h1 h2
  rw [hx] at hr
  clear hx
  obtain ⟨y, hy, hv⟩ := hr
  cases hy
  replace hv : x.toInt = (-1) + 0 := hv
  have sm : σ' 133 = σ 133 ∧ σ' 134 = σ 134 ∧ σ' 12805 = σ 12805 ∧ σ' 10250 = σ 10250 ∧ σ' 12814 = σ 12814 ∧ σ' 18520 = σ 18520 ∧ σ' 18521 = σ 18521 ∧ σ' 18522 = σ 18522 ∧ σ' 18523 = σ 18523 ∧ σ' 18524 = σ 18524 ∧ σ' 18525 = σ 18525 ∧ σ' 18526 = σ 18526 ∧ σ' 18527 = σ 18527 := ⟨lw_id s133 (hm 133 (by decide)), lw_id s134 (hm 134 (by decide)), lw_id s12805 (hm 12805 (by decide)), lw_id s10250 (hm 10250 (by decide)), lw_id s12814 (hm 12814 (by decide)), lw_id s18520 (hm 18520 (by decide)), lw_id s18521 (hm 18521 (by decide)), lw_id s18522 (hm 18522 (by decide)), lw_id s18523 (hm 18523 (by decide)), lw_id s18524 (hm 18524 (by decide)), lw_id s18525 (hm 18525 (by decide)), lw_id s18526 (hm 18526 (by decide)), lw_id s18527 (hm 18527 (by decide))⟩
  refine ⟨?_, sm⟩
  clear sm
  have f0 : 0 ≤ (-1156) + (1 * τ 19001 + 0) := hf _ (List.Mem.head _)
  have f1 : 0 ≤ 1156 + ((-1) * τ 19001 + 0) := hf _ (List.Mem.tail _ (List.Mem.head _))
  refine Or.inl ⟨by omega, ⟨lw_id s12804 (hm 12804 (by decide)), lw_id s18528 (hm 18528 (by decide)), lw_id s18529 (hm 18529 (by decide)), lw_id s18530 (hm 18530 (by decide)), lw_id s18531 (hm 18531 (by decide)), lw_id s18532 (hm 18532 (by decide)), lw_id s18533 (hm 18533 (by decide)), lw_id s18534 (hm 18534 (by decide)), lw_id s18535 (hm 18535 (by decide))⟩, fun hok => ?_⟩
  obtain ⟨o1, o2, o3, o4, o5, o6⟩ := hok
  obtain ⟨z0, z1, z2, z3, z4, z5, z6, z7⟩ := o4
  omega
theorem lw_pm_96 {as : List rv_A} {σ σ' : Nat → Int} {o : rv_O} {x : Int32} {a1 a2 : Int} {A : Nat → Nat → Int} {τ : Nat → Int} (hx : o.1 = some (.inl x)) (h1 : lw_av as 1 = a1) (h2 : lw_av as 2 = a2) (hb : ∀ s, (sx_sr s).1 ≤ σ s ∧ σ s ≤ (sx_sr s).2) (hG : sx_GG σ' A) (hW : lw_W ([(18509, 1, 1099511627770), (18510, 0, 34359738367)], [((-11566), [(19001, 1)]), (11566, [(19001, (-1))])], [(12800, (1, [])), (18509, (0, [(1000000, 1)])), (18510, (0, [(1000001, 1)])), (18511, (0, [(19001, 1)])), (18512, (0, [])), (18513, (1, []))], some (false, ((-1), []))) as σ σ' τ o) : lw_pm_C a1 a2 x.toInt σ σ' := by
  unfold lw_pm_C
  have bM : 0 ≤ σ 12804 ∧ σ 12804 ≤ 8 := by
    have h0 := hb 12804
    rw [show sx_sr 12804 = (0, 8) from by decide +kernel] at h0
    exact h0
  obtain ⟨-, -, -, -, -, -, -, -, -, -, -, -, -, -, -, -, -, -, -, g19, g20, -, g22, -, g24⟩ := hG
  obtain ⟨hs, ht, hf, hr, hm, hw⟩ := hW
  have e1 : τ 19001 = a1 := by rw [ht 19001 (by decide) (by decide)]; exact h1
  have e2 : τ 19002 = a2 := by rw [ht 19002 (by decide) (by decide)]; exact h2
  have s133 : τ 133 = σ 133 := hs 133 (by decide)
  have s134 : τ 134 = σ 134 := hs 134 (by decide)
  have s10250 : τ 10250 = σ 10250 := hs 10250 (by decide)
  have s12804 : τ 12804 = σ 12804 := hs 12804 (by decide)
  have s12805 : τ 12805 = σ 12805 := hs 12805 (by decide)
  have s12814 : τ 12814 = σ 12814 := hs 12814 (by decide)
  have s18520 : τ 18520 = σ 18520 := hs 18520 (by decide)
  have s18521 : τ 18521 = σ 18521 := hs 18521 (by decide)
  have s18522 : τ 18522 = σ 18522 := hs 18522 (by decide)
  have s18523 : τ 18523 = σ 18523 := hs 18523 (by decide)
  have s18524 : τ 18524 = σ 18524 := hs 18524 (by decide)
  have s18525 : τ 18525 = σ 18525 := hs 18525 (by decide)
  have s18526 : τ 18526 = σ 18526 := hs 18526 (by decide)
  have s18527 : τ 18527 = σ 18527 := hs 18527 (by decide)
  have s18528 : τ 18528 = σ 18528 := hs 18528 (by decide)
  have s18529 : τ 18529 = σ 18529 := hs 18529 (by decide)
  have s18530 : τ 18530 = σ 18530 := hs 18530 (by decide)
  have s18531 : τ 18531 = σ 18531 := hs 18531 (by decide)
  have s18532 : τ 18532 = σ 18532 := hs 18532 (by decide)
  have s18533 : τ 18533 = σ 18533 := hs 18533 (by decide)
  have s18534 : τ 18534 = σ 18534 := hs 18534 (by decide)
  have s18535 : τ 18535 = σ 18535 := hs 18535 (by decide)
  clear ht hb h1 h2
  rw [hx] at hr
  clear hx
  obtain ⟨y, hy, hv⟩ := hr
  cases hy
  replace hv : x.toInt = (-1) + 0 := hv
  have sm : σ' 133 = σ 133 ∧ σ' 134 = σ 134 ∧ σ' 12805 = σ 12805 ∧ σ' 10250 = σ 10250 ∧ σ' 12814 = σ 12814 ∧ σ' 18520 = σ 18520 ∧ σ' 18521 = σ 18521 ∧ σ' 18522 = σ 18522 ∧ σ' 18523 = σ 18523 ∧ σ' 18524 = σ 18524 ∧ σ' 18525 = σ 18525 ∧ σ' 18526 = σ 18526 ∧ σ' 18527 = σ 18527 := ⟨lw_id s133 (hm 133 (by decide)), lw_id s134 (hm 134 (by decide)), lw_id s12805 (hm 12805 (by decide)), lw_id s10250 (hm 10250 (by decide)), lw_id s12814 (hm 12814 (by decide)), lw_id s18520 (hm 18520 (by decide)), lw_id s18521 (hm 18521 (by decide)), lw_id s18522 (hm 18522 (by decide)), lw_id s18523 (hm 18523 (by decide)), lw_id s18524 (hm 18524 (by decide)), lw_id s18525 (hm 18525 (by decide)), lw_id s18526 (hm 18526 (by decide)), lw_id s18527 (hm 18527 (by decide))⟩
  refine ⟨?_, sm⟩
  clear sm
  have f0 : 0 ≤ (-11566) + (1 * τ 19001 + 0) := hf _ (List.Mem.head _)
  have f1 : 0 ≤ 11566 + ((-1) * τ 19001 + 0) := hf _ (List.Mem.tail _ (List.Mem.head _))
  refine Or.inl ⟨by omega, ⟨lw_id s12804 (hm 12804 (by decide)), lw_id s18528 (hm 18528 (by decide)), lw_id s18529 (hm 18529 (by decide)), lw_id s18530 (hm 18530 (by decide)), lw_id s18531 (hm 18531 (by decide)), lw_id s18532 (hm 18532 (by decide)), lw_id s18533 (hm 18533 (by decide)), lw_id s18534 (hm 18534 (by decide)), lw_id s18535 (hm 18535 (by decide))⟩, fun hok => ?_⟩
  obtain ⟨o1, o2, o3, o4, o5, o6⟩ := hok
  obtain ⟨z0, z1, z2, z3, z4, z5, z6, z7⟩ := o4
  omega
theorem lw_pm_97 {as : List rv_A} {σ σ' : Nat → Int} {o : rv_O} {x : Int32} {a1 a2 : Int} {A : Nat → Nat → Int} {τ : Nat → Int} (hx : o.1 = some (.inl x)) (h1 : lw_av as 1 = a1) (h2 : lw_av as 2 = a2) (hb : ∀ s, (sx_sr s).1 ≤ σ s ∧ σ s ≤ (sx_sr s).2) (hG : sx_GG σ' A) (hW : lw_W ([(18509, 1, 1099511627770), (18510, 0, 34359738367)], [((-11567), [(19001, 1)]), (14835, [(19001, (-1))]), ((-1), [(19002, (-1))])], [(12800, (1, [])), (18509, (0, [(1000000, 1)])), (18510, (0, [(1000001, 1)])), (18511, (0, [(19001, 1)])), (18512, (0, [])), (18513, (1, []))], some (false, ((-1), []))) as σ σ' τ o) : lw_pm_C a1 a2 x.toInt σ σ' := by
  unfold lw_pm_C
  have bM : 0 ≤ σ 12804 ∧ σ 12804 ≤ 8 := by
    have h0 := hb 12804
    rw [show sx_sr 12804 = (0, 8) from by decide +kernel] at h0
    exact h0
  obtain ⟨-, -, -, -, -, -, -, -, -, -, -, -, -, -, -, -, -, -, -, g19, g20, -, g22, -, g24⟩ := hG
  obtain ⟨hs, ht, hf, hr, hm, hw⟩ := hW
  have e1 : τ 19001 = a1 := by rw [ht 19001 (by decide) (by decide)]; exact h1
  have e2 : τ 19002 = a2 := by rw [ht 19002 (by decide) (by decide)]; exact h2
  have s133 : τ 133 = σ 133 := hs 133 (by decide)
  have s134 : τ 134 = σ 134 := hs 134 (by decide)
  have s10250 : τ 10250 = σ 10250 := hs 10250 (by decide)
  have s12804 : τ 12804 = σ 12804 := hs 12804 (by decide)
  have s12805 : τ 12805 = σ 12805 := hs 12805 (by decide)
  have s12814 : τ 12814 = σ 12814 := hs 12814 (by decide)
  have s18520 : τ 18520 = σ 18520 := hs 18520 (by decide)
  have s18521 : τ 18521 = σ 18521 := hs 18521 (by decide)
  have s18522 : τ 18522 = σ 18522 := hs 18522 (by decide)
  have s18523 : τ 18523 = σ 18523 := hs 18523 (by decide)
  have s18524 : τ 18524 = σ 18524 := hs 18524 (by decide)
  have s18525 : τ 18525 = σ 18525 := hs 18525 (by decide)
  have s18526 : τ 18526 = σ 18526 := hs 18526 (by decide)
  have s18527 : τ 18527 = σ 18527 := hs 18527 (by decide)
  have s18528 : τ 18528 = σ 18528 := hs 18528 (by decide)
  have s18529 : τ 18529 = σ 18529 := hs 18529 (by decide)
  have s18530 : τ 18530 = σ 18530 := hs 18530 (by decide)
  have s18531 : τ 18531 = σ 18531 := hs 18531 (by decide)
  have s18532 : τ 18532 = σ 18532 := hs 18532 (by decide)
  have s18533 : τ 18533 = σ 18533 := hs 18533 (by decide)
  have s18534 : τ 18534 = σ 18534 := hs 18534 (by decide)
  have s18535 : τ 18535 = σ 18535 := hs 18535 (by decide)
  clear ht hb h1 h2
  rw [hx] at hr
  clear hx
  obtain ⟨y, hy, hv⟩ := hr
  cases hy
  replace hv : x.toInt = (-1) + 0 := hv
  have sm : σ' 133 = σ 133 ∧ σ' 134 = σ 134 ∧ σ' 12805 = σ 12805 ∧ σ' 10250 = σ 10250 ∧ σ' 12814 = σ 12814 ∧ σ' 18520 = σ 18520 ∧ σ' 18521 = σ 18521 ∧ σ' 18522 = σ 18522 ∧ σ' 18523 = σ 18523 ∧ σ' 18524 = σ 18524 ∧ σ' 18525 = σ 18525 ∧ σ' 18526 = σ 18526 ∧ σ' 18527 = σ 18527 := ⟨lw_id s133 (hm 133 (by decide)), lw_id s134 (hm 134 (by decide)), lw_id s12805 (hm 12805 (by decide)), lw_id s10250 (hm 10250 (by decide)), lw_id s12814 (hm 12814 (by decide)), lw_id s18520 (hm 18520 (by decide)), lw_id s18521 (hm 18521 (by decide)), lw_id s18522 (hm 18522 (by decide)), lw_id s18523 (hm 18523 (by decide)), lw_id s18524 (hm 18524 (by decide)), lw_id s18525 (hm 18525 (by decide)), lw_id s18526 (hm 18526 (by decide)), lw_id s18527 (hm 18527 (by decide))⟩
  refine ⟨?_, sm⟩
  clear sm
  have f0 : 0 ≤ (-11567) + (1 * τ 19001 + 0) := hf _ (List.Mem.head _)
  have f1 : 0 ≤ 14835 + ((-1) * τ 19001 + 0) := hf _ (List.Mem.tail _ (List.Mem.head _))
  have f2 : 0 ≤ (-1) + ((-1) * τ 19002 + 0) := hf _ (List.Mem.tail _ (List.Mem.tail _ (List.Mem.head _)))
  refine Or.inl ⟨by omega, ⟨lw_id s12804 (hm 12804 (by decide)), lw_id s18528 (hm 18528 (by decide)), lw_id s18529 (hm 18529 (by decide)), lw_id s18530 (hm 18530 (by decide)), lw_id s18531 (hm 18531 (by decide)), lw_id s18532 (hm 18532 (by decide)), lw_id s18533 (hm 18533 (by decide)), lw_id s18534 (hm 18534 (by decide)), lw_id s18535 (hm 18535 (by decide))⟩, fun hok => ?_⟩
  obtain ⟨o1, o2, o3, o4, o5, o6⟩ := hok
  obtain ⟨z0, z1, z2, z3, z4, z5, z6, z7⟩ := o4
  omega
theorem lw_pm_98 {as : List rv_A} {σ σ' : Nat → Int} {o : rv_O} {x : Int32} {a1 a2 : Int} {A : Nat → Nat → Int} {τ : Nat → Int} (hx : o.1 = some (.inl x)) (h1 : lw_av as 1 = a1) (h2 : lw_av as 2 = a2) (hb : ∀ s, (sx_sr s).1 ≤ σ s ∧ σ s ≤ (sx_sr s).2) (hG : sx_GG σ' A) (hW : lw_W ([(18509, 1, 1099511627770), (18510, 0, 34359738367)], [((-11567), [(19001, 1)]), (14835, [(19001, (-1))]), ((-10), [(19002, 1)])], [(12800, (1, [])), (18509, (0, [(1000000, 1)])), (18510, (0, [(1000001, 1)])), (18511, (0, [(19001, 1)])), (18512, (0, [])), (18513, (1, []))], some (false, ((-1), []))) as σ σ' τ o) : lw_pm_C a1 a2 x.toInt σ σ' := by
  unfold lw_pm_C
  have bM : 0 ≤ σ 12804 ∧ σ 12804 ≤ 8 := by
    have h0 := hb 12804
    rw [show sx_sr 12804 = (0, 8) from by decide +kernel] at h0
    exact h0
  obtain ⟨-, -, -, -, -, -, -, -, -, -, -, -, -, -, -, -, -, -, -, g19, g20, -, g22, -, g24⟩ := hG
  obtain ⟨hs, ht, hf, hr, hm, hw⟩ := hW
  have e1 : τ 19001 = a1 := by rw [ht 19001 (by decide) (by decide)]; exact h1
  have e2 : τ 19002 = a2 := by rw [ht 19002 (by decide) (by decide)]; exact h2
  have s133 : τ 133 = σ 133 := hs 133 (by decide)
  have s134 : τ 134 = σ 134 := hs 134 (by decide)
  have s10250 : τ 10250 = σ 10250 := hs 10250 (by decide)
  have s12804 : τ 12804 = σ 12804 := hs 12804 (by decide)
  have s12805 : τ 12805 = σ 12805 := hs 12805 (by decide)
  have s12814 : τ 12814 = σ 12814 := hs 12814 (by decide)
  have s18520 : τ 18520 = σ 18520 := hs 18520 (by decide)
  have s18521 : τ 18521 = σ 18521 := hs 18521 (by decide)
  have s18522 : τ 18522 = σ 18522 := hs 18522 (by decide)
  have s18523 : τ 18523 = σ 18523 := hs 18523 (by decide)
  have s18524 : τ 18524 = σ 18524 := hs 18524 (by decide)
  have s18525 : τ 18525 = σ 18525 := hs 18525 (by decide)
  have s18526 : τ 18526 = σ 18526 := hs 18526 (by decide)
  have s18527 : τ 18527 = σ 18527 := hs 18527 (by decide)
  have s18528 : τ 18528 = σ 18528 := hs 18528 (by decide)
  have s18529 : τ 18529 = σ 18529 := hs 18529 (by decide)
  have s18530 : τ 18530 = σ 18530 := hs 18530 (by decide)
  have s18531 : τ 18531 = σ 18531 := hs 18531 (by decide)
  have s18532 : τ 18532 = σ 18532 := hs 18532 (by decide)
  have s18533 : τ 18533 = σ 18533 := hs 18533 (by decide)
  have s18534 : τ 18534 = σ 18534 := hs 18534 (by decide)
  have s18535 : τ 18535 = σ 18535 := hs 18535 (by decide)
  clear ht hb h1 h2
  rw [hx] at hr
  clear hx
  obtain ⟨y, hy, hv⟩ := hr
  cases hy
  replace hv : x.toInt = (-1) + 0 := hv
  have sm : σ' 133 = σ 133 ∧ σ' 134 = σ 134 ∧ σ' 12805 = σ 12805 ∧ σ' 10250 = σ 10250 ∧ σ' 12814 = σ 12814 ∧ σ' 18520 = σ 18520 ∧ σ' 18521 = σ 18521 ∧ σ' 18522 = σ 18522 ∧ σ' 18523 = σ 18523 ∧ σ' 18524 = σ 18524 ∧ σ' 18525 = σ 18525 ∧ σ' 18526 = σ 18526 ∧ σ' 18527 = σ 18527 := ⟨lw_id s133 (hm 133 (by decide)), lw_id s134 (hm 134 (by decide)), lw_id s12805 (hm 12805 (by decide)), lw_id s10250 (hm 10250 (by decide)), lw_id s12814 (hm 12814 (by decide)), lw_id s18520 (hm 18520 (by decide)), lw_id s18521 (hm 18521 (by decide)), lw_id s18522 (hm 18522 (by decide)), lw_id s18523 (hm 18523 (by decide)), lw_id s18524 (hm 18524 (by decide)), lw_id s18525 (hm 18525 (by decide)), lw_id s18526 (hm 18526 (by decide)), lw_id s18527 (hm 18527 (by decide))⟩
  refine ⟨?_, sm⟩
  clear sm
  have f0 : 0 ≤ (-11567) + (1 * τ 19001 + 0) := hf _ (List.Mem.head _)
  have f1 : 0 ≤ 14835 + ((-1) * τ 19001 + 0) := hf _ (List.Mem.tail _ (List.Mem.head _))
  have f2 : 0 ≤ (-10) + (1 * τ 19002 + 0) := hf _ (List.Mem.tail _ (List.Mem.tail _ (List.Mem.head _)))
  refine Or.inl ⟨by omega, ⟨lw_id s12804 (hm 12804 (by decide)), lw_id s18528 (hm 18528 (by decide)), lw_id s18529 (hm 18529 (by decide)), lw_id s18530 (hm 18530 (by decide)), lw_id s18531 (hm 18531 (by decide)), lw_id s18532 (hm 18532 (by decide)), lw_id s18533 (hm 18533 (by decide)), lw_id s18534 (hm 18534 (by decide)), lw_id s18535 (hm 18535 (by decide))⟩, fun hok => ?_⟩
  obtain ⟨o1, o2, o3, o4, o5, o6⟩ := hok
  obtain ⟨z0, z1, z2, z3, z4, z5, z6, z7⟩ := o4
  omega
theorem lw_pm_99 {as : List rv_A} {σ σ' : Nat → Int} {o : rv_O} {x : Int32} {a1 a2 : Int} {A : Nat → Nat → Int} {τ : Nat → Int} (hx : o.1 = some (.inl x)) (h1 : lw_av as 1 = a1) (h2 : lw_av as 2 = a2) (hb : ∀ s, (sx_sr s).1 ≤ σ s ∧ σ s ≤ (sx_sr s).2) (hG : sx_GG σ' A) (hW : lw_W ([(18509, 1, 1099511627770), (18510, 0, 34359738367)], [((-1157), [(19001, 1)]), (1475, [(19001, (-1))]), ((-1), [(19002, (-1))])], [(12800, (1, [])), (18509, (0, [(1000000, 1)])), (18510, (0, [(1000001, 1)])), (18511, (0, [(19001, 1)])), (18512, (0, [])), (18513, (1, []))], some (false, ((-1), []))) as σ σ' τ o) : lw_pm_C a1 a2 x.toInt σ σ' := by
  unfold lw_pm_C
  have bM : 0 ≤ σ 12804 ∧ σ 12804 ≤ 8 := by
    have h0 := hb 12804
    rw [show sx_sr 12804 = (0, 8) from by decide +kernel] at h0
    exact h0
  obtain ⟨-, -, -, -, -, -, -, -, -, -, -, -, -, -, -, -, -, -, -, g19, g20, -, g22, -, g24⟩ := hG
  obtain ⟨hs, ht, hf, hr, hm, hw⟩ := hW
  have e1 : τ 19001 = a1 := by rw [ht 19001 (by decide) (by decide)]; exact h1
  have e2 : τ 19002 = a2 := by rw [ht 19002 (by decide) (by decide)]; exact h2
  have s133 : τ 133 = σ 133 := hs 133 (by decide)
  have s134 : τ 134 = σ 134 := hs 134 (by decide)
  have s10250 : τ 10250 = σ 10250 := hs 10250 (by decide)
  have s12804 : τ 12804 = σ 12804 := hs 12804 (by decide)
  have s12805 : τ 12805 = σ 12805 := hs 12805 (by decide)
  have s12814 : τ 12814 = σ 12814 := hs 12814 (by decide)
  have s18520 : τ 18520 = σ 18520 := hs 18520 (by decide)
  have s18521 : τ 18521 = σ 18521 := hs 18521 (by decide)
  have s18522 : τ 18522 = σ 18522 := hs 18522 (by decide)
  have s18523 : τ 18523 = σ 18523 := hs 18523 (by decide)
  have s18524 : τ 18524 = σ 18524 := hs 18524 (by decide)
  have s18525 : τ 18525 = σ 18525 := hs 18525 (by decide)
  have s18526 : τ 18526 = σ 18526 := hs 18526 (by decide)
  have s18527 : τ 18527 = σ 18527 := hs 18527 (by decide)
  have s18528 : τ 18528 = σ 18528 := hs 18528 (by decide)
  have s18529 : τ 18529 = σ 18529 := hs 18529 (by decide)
  have s18530 : τ 18530 = σ 18530 := hs 18530 (by decide)
  have s18531 : τ 18531 = σ 18531 := hs 18531 (by decide)
  have s18532 : τ 18532 = σ 18532 := hs 18532 (by decide)
  have s18533 : τ 18533 = σ 18533 := hs 18533 (by decide)
  have s18534 : τ 18534 = σ 18534 := hs 18534 (by decide)
  have s18535 : τ 18535 = σ 18535 := hs 18535 (by decide)
  clear ht hb h1 h2
  rw [hx] at hr
  clear hx
  obtain ⟨y, hy, hv⟩ := hr
  cases hy
  replace hv : x.toInt = (-1) + 0 := hv
  have sm : σ' 133 = σ 133 ∧ σ' 134 = σ 134 ∧ σ' 12805 = σ 12805 ∧ σ' 10250 = σ 10250 ∧ σ' 12814 = σ 12814 ∧ σ' 18520 = σ 18520 ∧ σ' 18521 = σ 18521 ∧ σ' 18522 = σ 18522 ∧ σ' 18523 = σ 18523 ∧ σ' 18524 = σ 18524 ∧ σ' 18525 = σ 18525 ∧ σ' 18526 = σ 18526 ∧ σ' 18527 = σ 18527 := ⟨lw_id s133 (hm 133 (by decide)), lw_id s134 (hm 134 (by decide)), lw_id s12805 (hm 12805 (by decide)), lw_id s10250 (hm 10250 (by decide)), lw_id s12814 (hm 12814 (by decide)), lw_id s18520 (hm 18520 (by decide)), lw_id s18521 (hm 18521 (by decide)), lw_id s18522 (hm 18522 (by decide)), lw_id s18523 (hm 18523 (by decide)), lw_id s18524 (hm 18524 (by decide)), lw_id s18525 (hm 18525 (by decide)), lw_id s18526 (hm 18526 (by decide)), lw_id s18527 (hm 18527 (by decide))⟩
  refine ⟨?_, sm⟩
  clear sm
  have f0 : 0 ≤ (-1157) + (1 * τ 19001 + 0) := hf _ (List.Mem.head _)
  have f1 : 0 ≤ 1475 + ((-1) * τ 19001 + 0) := hf _ (List.Mem.tail _ (List.Mem.head _))
  have f2 : 0 ≤ (-1) + ((-1) * τ 19002 + 0) := hf _ (List.Mem.tail _ (List.Mem.tail _ (List.Mem.head _)))
  refine Or.inl ⟨by omega, ⟨lw_id s12804 (hm 12804 (by decide)), lw_id s18528 (hm 18528 (by decide)), lw_id s18529 (hm 18529 (by decide)), lw_id s18530 (hm 18530 (by decide)), lw_id s18531 (hm 18531 (by decide)), lw_id s18532 (hm 18532 (by decide)), lw_id s18533 (hm 18533 (by decide)), lw_id s18534 (hm 18534 (by decide)), lw_id s18535 (hm 18535 (by decide))⟩, fun hok => ?_⟩
  obtain ⟨o1, o2, o3, o4, o5, o6⟩ := hok
  obtain ⟨z0, z1, z2, z3, z4, z5, z6, z7⟩ := o4
  omega
theorem lw_pm_100 {as : List rv_A} {σ σ' : Nat → Int} {o : rv_O} {x : Int32} {a1 a2 : Int} {A : Nat → Nat → Int} {τ : Nat → Int} (hx : o.1 = some (.inl x)) (h1 : lw_av as 1 = a1) (h2 : lw_av as 2 = a2) (hb : ∀ s, (sx_sr s).1 ≤ σ s ∧ σ s ≤ (sx_sr s).2) (hG : sx_GG σ' A) (hW : lw_W ([(18509, 1, 1099511627770), (18510, 0, 34359738367)], [((-1157), [(19001, 1)]), (1475, [(19001, (-1))]), ((-10), [(19002, 1)])], [(12800, (1, [])), (18509, (0, [(1000000, 1)])), (18510, (0, [(1000001, 1)])), (18511, (0, [(19001, 1)])), (18512, (0, [])), (18513, (1, []))], some (false, ((-1), []))) as σ σ' τ o) : lw_pm_C a1 a2 x.toInt σ σ' := by
  unfold lw_pm_C
  have bM : 0 ≤ σ 12804 ∧ σ 12804 ≤ 8 := by
    have h0 := hb 12804
    rw [show sx_sr 12804 = (0, 8) from by decide +kernel] at h0
    exact h0
  obtain ⟨-, -, -, -, -, -, -, -, -, -, -, -, -, -, -, -, -, -, -, g19, g20, -, g22, -, g24⟩ := hG
  obtain ⟨hs, ht, hf, hr, hm, hw⟩ := hW
  have e1 : τ 19001 = a1 := by rw [ht 19001 (by decide) (by decide)]; exact h1
  have e2 : τ 19002 = a2 := by rw [ht 19002 (by decide) (by decide)]; exact h2
  have s133 : τ 133 = σ 133 := hs 133 (by decide)
  have s134 : τ 134 = σ 134 := hs 134 (by decide)
  have s10250 : τ 10250 = σ 10250 := hs 10250 (by decide)
  have s12804 : τ 12804 = σ 12804 := hs 12804 (by decide)
  have s12805 : τ 12805 = σ 12805 := hs 12805 (by decide)
  have s12814 : τ 12814 = σ 12814 := hs 12814 (by decide)
  have s18520 : τ 18520 = σ 18520 := hs 18520 (by decide)
  have s18521 : τ 18521 = σ 18521 := hs 18521 (by decide)
  have s18522 : τ 18522 = σ 18522 := hs 18522 (by decide)
  have s18523 : τ 18523 = σ 18523 := hs 18523 (by decide)
  have s18524 : τ 18524 = σ 18524 := hs 18524 (by decide)
  have s18525 : τ 18525 = σ 18525 := hs 18525 (by decide)
  have s18526 : τ 18526 = σ 18526 := hs 18526 (by decide)
  have s18527 : τ 18527 = σ 18527 := hs 18527 (by decide)
  have s18528 : τ 18528 = σ 18528 := hs 18528 (by decide)
  have s18529 : τ 18529 = σ 18529 := hs 18529 (by decide)
  have s18530 : τ 18530 = σ 18530 := hs 18530 (by decide)
  have s18531 : τ 18531 = σ 18531 := hs 18531 (by decide)
  have s18532 : τ 18532 = σ 18532 := hs 18532 (by decide)
  have s18533 : τ 18533 = σ 18533 := hs 18533 (by decide)
  have s18534 : τ 18534 = σ 18534 := hs 18534 (by decide)
  have s18535 : τ 18535 = σ 18535 := hs 18535 (by decide)
  clear ht hb h1 h2
  rw [hx] at hr
  clear hx
  obtain ⟨y, hy, hv⟩ := hr
  cases hy
  replace hv : x.toInt = (-1) + 0 := hv
  have sm : σ' 133 = σ 133 ∧ σ' 134 = σ 134 ∧ σ' 12805 = σ 12805 ∧ σ' 10250 = σ 10250 ∧ σ' 12814 = σ 12814 ∧ σ' 18520 = σ 18520 ∧ σ' 18521 = σ 18521 ∧ σ' 18522 = σ 18522 ∧ σ' 18523 = σ 18523 ∧ σ' 18524 = σ 18524 ∧ σ' 18525 = σ 18525 ∧ σ' 18526 = σ 18526 ∧ σ' 18527 = σ 18527 := ⟨lw_id s133 (hm 133 (by decide)), lw_id s134 (hm 134 (by decide)), lw_id s12805 (hm 12805 (by decide)), lw_id s10250 (hm 10250 (by decide)), lw_id s12814 (hm 12814 (by decide)), lw_id s18520 (hm 18520 (by decide)), lw_id s18521 (hm 18521 (by decide)), lw_id s18522 (hm 18522 (by decide)), lw_id s18523 (hm 18523 (by decide)), lw_id s18524 (hm 18524 (by decide)), lw_id s18525 (hm 18525 (by decide)), lw_id s18526 (hm 18526 (by decide)), lw_id s18527 (hm 18527 (by decide))⟩
  refine ⟨?_, sm⟩
  clear sm
  have f0 : 0 ≤ (-1157) + (1 * τ 19001 + 0) := hf _ (List.Mem.head _)
  have f1 : 0 ≤ 1475 + ((-1) * τ 19001 + 0) := hf _ (List.Mem.tail _ (List.Mem.head _))
  have f2 : 0 ≤ (-10) + (1 * τ 19002 + 0) := hf _ (List.Mem.tail _ (List.Mem.tail _ (List.Mem.head _)))
  refine Or.inl ⟨by omega, ⟨lw_id s12804 (hm 12804 (by decide)), lw_id s18528 (hm 18528 (by decide)), lw_id s18529 (hm 18529 (by decide)), lw_id s18530 (hm 18530 (by decide)), lw_id s18531 (hm 18531 (by decide)), lw_id s18532 (hm 18532 (by decide)), lw_id s18533 (hm 18533 (by decide)), lw_id s18534 (hm 18534 (by decide)), lw_id s18535 (hm 18535 (by decide))⟩, fun hok => ?_⟩
  obtain ⟨o1, o2, o3, o4, o5, o6⟩ := hok
  obtain ⟨z0, z1, z2, z3, z4, z5, z6, z7⟩ := o4
  omega
theorem lw_pm_101 {as : List rv_A} {σ σ' : Nat → Int} {o : rv_O} {x : Int32} {a1 a2 : Int} {A : Nat → Nat → Int} {τ : Nat → Int} (hx : o.1 = some (.inl x)) (h1 : lw_av as 1 = a1) (h2 : lw_av as 2 = a2) (hb : ∀ s, (sx_sr s).1 ≤ σ s ∧ σ s ≤ (sx_sr s).2) (hG : sx_GG σ' A) (hW : lw_W ([(18509, 1, 1099511627770), (18510, 0, 34359738367)], [((-1476), [(19001, 1)]), (1476, [(19001, (-1))])], [(12800, (1, [])), (18509, (0, [(1000000, 1)])), (18510, (0, [(1000001, 1)])), (18511, (0, [(19001, 1)])), (18512, (0, [])), (18513, (1, []))], some (false, ((-1), []))) as σ σ' τ o) : lw_pm_C a1 a2 x.toInt σ σ' := by
  unfold lw_pm_C
  have bM : 0 ≤ σ 12804 ∧ σ 12804 ≤ 8 := by
    have h0 := hb 12804
    rw [show sx_sr 12804 = (0, 8) from by decide +kernel] at h0
    exact h0
  obtain ⟨-, -, -, -, -, -, -, -, -, -, -, -, -, -, -, -, -, -, -, g19, g20, -, g22, -, g24⟩ := hG
  obtain ⟨hs, ht, hf, hr, hm, hw⟩ := hW
  have e1 : τ 19001 = a1 := by rw [ht 19001 (by decide) (by decide)]; exact h1
  have e2 : τ 19002 = a2 := by rw [ht 19002 (by decide) (by decide)]; exact h2
  have s133 : τ 133 = σ 133 := hs 133 (by decide)
  have s134 : τ 134 = σ 134 := hs 134 (by decide)
  have s10250 : τ 10250 = σ 10250 := hs 10250 (by decide)
  have s12804 : τ 12804 = σ 12804 := hs 12804 (by decide)
  have s12805 : τ 12805 = σ 12805 := hs 12805 (by decide)
  have s12814 : τ 12814 = σ 12814 := hs 12814 (by decide)
  have s18520 : τ 18520 = σ 18520 := hs 18520 (by decide)
  have s18521 : τ 18521 = σ 18521 := hs 18521 (by decide)
  have s18522 : τ 18522 = σ 18522 := hs 18522 (by decide)
  have s18523 : τ 18523 = σ 18523 := hs 18523 (by decide)
  have s18524 : τ 18524 = σ 18524 := hs 18524 (by decide)
  have s18525 : τ 18525 = σ 18525 := hs 18525 (by decide)
  have s18526 : τ 18526 = σ 18526 := hs 18526 (by decide)
  have s18527 : τ 18527 = σ 18527 := hs 18527 (by decide)
  have s18528 : τ 18528 = σ 18528 := hs 18528 (by decide)
  have s18529 : τ 18529 = σ 18529 := hs 18529 (by decide)
  have s18530 : τ 18530 = σ 18530 := hs 18530 (by decide)
  have s18531 : τ 18531 = σ 18531 := hs 18531 (by decide)
  have s18532 : τ 18532 = σ 18532 := hs 18532 (by decide)
  have s18533 : τ 18533 = σ 18533 := hs 18533 (by decide)
  have s18534 : τ 18534 = σ 18534 := hs 18534 (by decide)
  have s18535 : τ 18535 = σ 18535 := hs 18535 (by decide)
  clear ht hb h1 h2
  rw [hx] at hr
  clear hx
  obtain ⟨y, hy, hv⟩ := hr
  cases hy
  replace hv : x.toInt = (-1) + 0 := hv
  have sm : σ' 133 = σ 133 ∧ σ' 134 = σ 134 ∧ σ' 12805 = σ 12805 ∧ σ' 10250 = σ 10250 ∧ σ' 12814 = σ 12814 ∧ σ' 18520 = σ 18520 ∧ σ' 18521 = σ 18521 ∧ σ' 18522 = σ 18522 ∧ σ' 18523 = σ 18523 ∧ σ' 18524 = σ 18524 ∧ σ' 18525 = σ 18525 ∧ σ' 18526 = σ 18526 ∧ σ' 18527 = σ 18527 := ⟨lw_id s133 (hm 133 (by decide)), lw_id s134 (hm 134 (by decide)), lw_id s12805 (hm 12805 (by decide)), lw_id s10250 (hm 10250 (by decide)), lw_id s12814 (hm 12814 (by decide)), lw_id s18520 (hm 18520 (by decide)), lw_id s18521 (hm 18521 (by decide)), lw_id s18522 (hm 18522 (by decide)), lw_id s18523 (hm 18523 (by decide)), lw_id s18524 (hm 18524 (by decide)), lw_id s18525 (hm 18525 (by decide)), lw_id s18526 (hm 18526 (by decide)), lw_id s18527 (hm 18527 (by decide))⟩
  refine ⟨?_, sm⟩
  clear sm
  have f0 : 0 ≤ (-1476) + (1 * τ 19001 + 0) := hf _ (List.Mem.head _)
  have f1 : 0 ≤ 1476 + ((-1) * τ 19001 + 0) := hf _ (List.Mem.tail _ (List.Mem.head _))
  refine Or.inl ⟨by omega, ⟨lw_id s12804 (hm 12804 (by decide)), lw_id s18528 (hm 18528 (by decide)), lw_id s18529 (hm 18529 (by decide)), lw_id s18530 (hm 18530 (by decide)), lw_id s18531 (hm 18531 (by decide)), lw_id s18532 (hm 18532 (by decide)), lw_id s18533 (hm 18533 (by decide)), lw_id s18534 (hm 18534 (by decide)), lw_id s18535 (hm 18535 (by decide))⟩, fun hok => ?_⟩
  obtain ⟨o1, o2, o3, o4, o5, o6⟩ := hok
  obtain ⟨z0, z1, z2, z3, z4, z5, z6, z7⟩ := o4
  omega
theorem lw_pm_102 {as : List rv_A} {σ σ' : Nat → Int} {o : rv_O} {x : Int32} {a1 a2 : Int} {A : Nat → Nat → Int} {τ : Nat → Int} (hx : o.1 = some (.inl x)) (h1 : lw_av as 1 = a1) (h2 : lw_av as 2 = a2) (hb : ∀ s, (sx_sr s).1 ≤ σ s ∧ σ s ≤ (sx_sr s).2) (hG : sx_GG σ' A) (hW : lw_W ([(18509, 1, 1099511627770), (18510, 0, 34359738367)], [((-1477), [(19001, 1)]), (2097, [(19001, (-1))]), ((-1), [(19002, (-1))])], [(12800, (1, [])), (18509, (0, [(1000000, 1)])), (18510, (0, [(1000001, 1)])), (18511, (0, [(19001, 1)])), (18512, (0, [])), (18513, (1, []))], some (false, ((-1), []))) as σ σ' τ o) : lw_pm_C a1 a2 x.toInt σ σ' := by
  unfold lw_pm_C
  have bM : 0 ≤ σ 12804 ∧ σ 12804 ≤ 8 := by
    have h0 := hb 12804
    rw [show sx_sr 12804 = (0, 8) from by decide +kernel] at h0
    exact h0
  obtain ⟨-, -, -, -, -, -, -, -, -, -, -, -, -, -, -, -, -, -, -, g19, g20, -, g22, -, g24⟩ := hG
  obtain ⟨hs, ht, hf, hr, hm, hw⟩ := hW
  have e1 : τ 19001 = a1 := by rw [ht 19001 (by decide) (by decide)]; exact h1
  have e2 : τ 19002 = a2 := by rw [ht 19002 (by decide) (by decide)]; exact h2
  have s133 : τ 133 = σ 133 := hs 133 (by decide)
  have s134 : τ 134 = σ 134 := hs 134 (by decide)
  have s10250 : τ 10250 = σ 10250 := hs 10250 (by decide)
  have s12804 : τ 12804 = σ 12804 := hs 12804 (by decide)
  have s12805 : τ 12805 = σ 12805 := hs 12805 (by decide)
  have s12814 : τ 12814 = σ 12814 := hs 12814 (by decide)
  have s18520 : τ 18520 = σ 18520 := hs 18520 (by decide)
  have s18521 : τ 18521 = σ 18521 := hs 18521 (by decide)
  have s18522 : τ 18522 = σ 18522 := hs 18522 (by decide)
  have s18523 : τ 18523 = σ 18523 := hs 18523 (by decide)
  have s18524 : τ 18524 = σ 18524 := hs 18524 (by decide)
  have s18525 : τ 18525 = σ 18525 := hs 18525 (by decide)
  have s18526 : τ 18526 = σ 18526 := hs 18526 (by decide)
  have s18527 : τ 18527 = σ 18527 := hs 18527 (by decide)
  have s18528 : τ 18528 = σ 18528 := hs 18528 (by decide)
  have s18529 : τ 18529 = σ 18529 := hs 18529 (by decide)
  have s18530 : τ 18530 = σ 18530 := hs 18530 (by decide)
  have s18531 : τ 18531 = σ 18531 := hs 18531 (by decide)
  have s18532 : τ 18532 = σ 18532 := hs 18532 (by decide)
  have s18533 : τ 18533 = σ 18533 := hs 18533 (by decide)
  have s18534 : τ 18534 = σ 18534 := hs 18534 (by decide)
  have s18535 : τ 18535 = σ 18535 := hs 18535 (by decide)
  clear ht hb h1 h2
  rw [hx] at hr
  clear hx
  obtain ⟨y, hy, hv⟩ := hr
  cases hy
  replace hv : x.toInt = (-1) + 0 := hv
  have sm : σ' 133 = σ 133 ∧ σ' 134 = σ 134 ∧ σ' 12805 = σ 12805 ∧ σ' 10250 = σ 10250 ∧ σ' 12814 = σ 12814 ∧ σ' 18520 = σ 18520 ∧ σ' 18521 = σ 18521 ∧ σ' 18522 = σ 18522 ∧ σ' 18523 = σ 18523 ∧ σ' 18524 = σ 18524 ∧ σ' 18525 = σ 18525 ∧ σ' 18526 = σ 18526 ∧ σ' 18527 = σ 18527 := ⟨lw_id s133 (hm 133 (by decide)), lw_id s134 (hm 134 (by decide)), lw_id s12805 (hm 12805 (by decide)), lw_id s10250 (hm 10250 (by decide)), lw_id s12814 (hm 12814 (by decide)), lw_id s18520 (hm 18520 (by decide)), lw_id s18521 (hm 18521 (by decide)), lw_id s18522 (hm 18522 (by decide)), lw_id s18523 (hm 18523 (by decide)), lw_id s18524 (hm 18524 (by decide)), lw_id s18525 (hm 18525 (by decide)), lw_id s18526 (hm 18526 (by decide)), lw_id s18527 (hm 18527 (by decide))⟩
  refine ⟨?_, sm⟩
  clear sm
  have f0 : 0 ≤ (-1477) + (1 * τ 19001 + 0) := hf _ (List.Mem.head _)
  have f1 : 0 ≤ 2097 + ((-1) * τ 19001 + 0) := hf _ (List.Mem.tail _ (List.Mem.head _))
  have f2 : 0 ≤ (-1) + ((-1) * τ 19002 + 0) := hf _ (List.Mem.tail _ (List.Mem.tail _ (List.Mem.head _)))
  refine Or.inl ⟨by omega, ⟨lw_id s12804 (hm 12804 (by decide)), lw_id s18528 (hm 18528 (by decide)), lw_id s18529 (hm 18529 (by decide)), lw_id s18530 (hm 18530 (by decide)), lw_id s18531 (hm 18531 (by decide)), lw_id s18532 (hm 18532 (by decide)), lw_id s18533 (hm 18533 (by decide)), lw_id s18534 (hm 18534 (by decide)), lw_id s18535 (hm 18535 (by decide))⟩, fun hok => ?_⟩
  obtain ⟨o1, o2, o3, o4, o5, o6⟩ := hok
  obtain ⟨z0, z1, z2, z3, z4, z5, z6, z7⟩ := o4
  omega
theorem lw_pm_103 {as : List rv_A} {σ σ' : Nat → Int} {o : rv_O} {x : Int32} {a1 a2 : Int} {A : Nat → Nat → Int} {τ : Nat → Int} (hx : o.1 = some (.inl x)) (h1 : lw_av as 1 = a1) (h2 : lw_av as 2 = a2) (hb : ∀ s, (sx_sr s).1 ≤ σ s ∧ σ s ≤ (sx_sr s).2) (hG : sx_GG σ' A) (hW : lw_W ([(18509, 1, 1099511627770), (18510, 0, 34359738367)], [((-1477), [(19001, 1)]), (2097, [(19001, (-1))]), ((-10), [(19002, 1)])], [(12800, (1, [])), (18509, (0, [(1000000, 1)])), (18510, (0, [(1000001, 1)])), (18511, (0, [(19001, 1)])), (18512, (0, [])), (18513, (1, []))], some (false, ((-1), []))) as σ σ' τ o) : lw_pm_C a1 a2 x.toInt σ σ' := by
  unfold lw_pm_C
  have bM : 0 ≤ σ 12804 ∧ σ 12804 ≤ 8 := by
    have h0 := hb 12804
    rw [show sx_sr 12804 = (0, 8) from by decide +kernel] at h0
    exact h0
  obtain ⟨-, -, -, -, -, -, -, -, -, -, -, -, -, -, -, -, -, -, -, g19, g20, -, g22, -, g24⟩ := hG
  obtain ⟨hs, ht, hf, hr, hm, hw⟩ := hW
  have e1 : τ 19001 = a1 := by rw [ht 19001 (by decide) (by decide)]; exact h1
  have e2 : τ 19002 = a2 := by rw [ht 19002 (by decide) (by decide)]; exact h2
  have s133 : τ 133 = σ 133 := hs 133 (by decide)
  have s134 : τ 134 = σ 134 := hs 134 (by decide)
  have s10250 : τ 10250 = σ 10250 := hs 10250 (by decide)
  have s12804 : τ 12804 = σ 12804 := hs 12804 (by decide)
  have s12805 : τ 12805 = σ 12805 := hs 12805 (by decide)
  have s12814 : τ 12814 = σ 12814 := hs 12814 (by decide)
  have s18520 : τ 18520 = σ 18520 := hs 18520 (by decide)
  have s18521 : τ 18521 = σ 18521 := hs 18521 (by decide)
  have s18522 : τ 18522 = σ 18522 := hs 18522 (by decide)
  have s18523 : τ 18523 = σ 18523 := hs 18523 (by decide)
  have s18524 : τ 18524 = σ 18524 := hs 18524 (by decide)
  have s18525 : τ 18525 = σ 18525 := hs 18525 (by decide)
  have s18526 : τ 18526 = σ 18526 := hs 18526 (by decide)
  have s18527 : τ 18527 = σ 18527 := hs 18527 (by decide)
  have s18528 : τ 18528 = σ 18528 := hs 18528 (by decide)
  have s18529 : τ 18529 = σ 18529 := hs 18529 (by decide)
  have s18530 : τ 18530 = σ 18530 := hs 18530 (by decide)
  have s18531 : τ 18531 = σ 18531 := hs 18531 (by decide)
  have s18532 : τ 18532 = σ 18532 := hs 18532 (by decide)
  have s18533 : τ 18533 = σ 18533 := hs 18533 (by decide)
  have s18534 : τ 18534 = σ 18534 := hs 18534 (by decide)
  have s18535 : τ 18535 = σ 18535 := hs 18535 (by decide)
  clear ht hb h1 h2
  rw [hx] at hr
  clear hx
  obtain ⟨y, hy, hv⟩ := hr
  cases hy
  replace hv : x.toInt = (-1) + 0 := hv
  have sm : σ' 133 = σ 133 ∧ σ' 134 = σ 134 ∧ σ' 12805 = σ 12805 ∧ σ' 10250 = σ 10250 ∧ σ' 12814 = σ 12814 ∧ σ' 18520 = σ 18520 ∧ σ' 18521 = σ 18521 ∧ σ' 18522 = σ 18522 ∧ σ' 18523 = σ 18523 ∧ σ' 18524 = σ 18524 ∧ σ' 18525 = σ 18525 ∧ σ' 18526 = σ 18526 ∧ σ' 18527 = σ 18527 := ⟨lw_id s133 (hm 133 (by decide)), lw_id s134 (hm 134 (by decide)), lw_id s12805 (hm 12805 (by decide)), lw_id s10250 (hm 10250 (by decide)), lw_id s12814 (hm 12814 (by decide)), lw_id s18520 (hm 18520 (by decide)), lw_id s18521 (hm 18521 (by decide)), lw_id s18522 (hm 18522 (by decide)), lw_id s18523 (hm 18523 (by decide)), lw_id s18524 (hm 18524 (by decide)), lw_id s18525 (hm 18525 (by decide)), lw_id s18526 (hm 18526 (by decide)), lw_id s18527 (hm 18527 (by decide))⟩
  refine ⟨?_, sm⟩
  clear sm
  have f0 : 0 ≤ (-1477) + (1 * τ 19001 + 0) := hf _ (List.Mem.head _)
  have f1 : 0 ≤ 2097 + ((-1) * τ 19001 + 0) := hf _ (List.Mem.tail _ (List.Mem.head _))
  have f2 : 0 ≤ (-10) + (1 * τ 19002 + 0) := hf _ (List.Mem.tail _ (List.Mem.tail _ (List.Mem.head _)))
  refine Or.inl ⟨by omega, ⟨lw_id s12804 (hm 12804 (by decide)), lw_id s18528 (hm 18528 (by decide)), lw_id s18529 (hm 18529 (by decide)), lw_id s18530 (hm 18530 (by decide)), lw_id s18531 (hm 18531 (by decide)), lw_id s18532 (hm 18532 (by decide)), lw_id s18533 (hm 18533 (by decide)), lw_id s18534 (hm 18534 (by decide)), lw_id s18535 (hm 18535 (by decide))⟩, fun hok => ?_⟩
  obtain ⟨o1, o2, o3, o4, o5, o6⟩ := hok
  obtain ⟨z0, z1, z2, z3, z4, z5, z6, z7⟩ := o4
  omega
theorem lw_pm_104 {as : List rv_A} {σ σ' : Nat → Int} {o : rv_O} {x : Int32} {a1 a2 : Int} {A : Nat → Nat → Int} {τ : Nat → Int} (hx : o.1 = some (.inl x)) (h1 : lw_av as 1 = a1) (h2 : lw_av as 2 = a2) (hb : ∀ s, (sx_sr s).1 ≤ σ s ∧ σ s ≤ (sx_sr s).2) (hG : sx_GG σ' A) (hW : lw_W ([(18509, 1, 1099511627770), (18510, 0, 34359738367)], [((-14836), [(19001, 1)]), (14836, [(19001, (-1))])], [(12800, (1, [])), (18509, (0, [(1000000, 1)])), (18510, (0, [(1000001, 1)])), (18511, (0, [(19001, 1)])), (18512, (0, [])), (18513, (1, []))], some (false, ((-1), []))) as σ σ' τ o) : lw_pm_C a1 a2 x.toInt σ σ' := by
  unfold lw_pm_C
  have bM : 0 ≤ σ 12804 ∧ σ 12804 ≤ 8 := by
    have h0 := hb 12804
    rw [show sx_sr 12804 = (0, 8) from by decide +kernel] at h0
    exact h0
  obtain ⟨-, -, -, -, -, -, -, -, -, -, -, -, -, -, -, -, -, -, -, g19, g20, -, g22, -, g24⟩ := hG
  obtain ⟨hs, ht, hf, hr, hm, hw⟩ := hW
  have e1 : τ 19001 = a1 := by rw [ht 19001 (by decide) (by decide)]; exact h1
  have e2 : τ 19002 = a2 := by rw [ht 19002 (by decide) (by decide)]; exact h2
  have s133 : τ 133 = σ 133 := hs 133 (by decide)
  have s134 : τ 134 = σ 134 := hs 134 (by decide)
  have s10250 : τ 10250 = σ 10250 := hs 10250 (by decide)
  have s12804 : τ 12804 = σ 12804 := hs 12804 (by decide)
  have s12805 : τ 12805 = σ 12805 := hs 12805 (by decide)
  have s12814 : τ 12814 = σ 12814 := hs 12814 (by decide)
  have s18520 : τ 18520 = σ 18520 := hs 18520 (by decide)
  have s18521 : τ 18521 = σ 18521 := hs 18521 (by decide)
  have s18522 : τ 18522 = σ 18522 := hs 18522 (by decide)
  have s18523 : τ 18523 = σ 18523 := hs 18523 (by decide)
  have s18524 : τ 18524 = σ 18524 := hs 18524 (by decide)
  have s18525 : τ 18525 = σ 18525 := hs 18525 (by decide)
  have s18526 : τ 18526 = σ 18526 := hs 18526 (by decide)
  have s18527 : τ 18527 = σ 18527 := hs 18527 (by decide)
  have s18528 : τ 18528 = σ 18528 := hs 18528 (by decide)
  have s18529 : τ 18529 = σ 18529 := hs 18529 (by decide)
  have s18530 : τ 18530 = σ 18530 := hs 18530 (by decide)
  have s18531 : τ 18531 = σ 18531 := hs 18531 (by decide)
  have s18532 : τ 18532 = σ 18532 := hs 18532 (by decide)
  have s18533 : τ 18533 = σ 18533 := hs 18533 (by decide)
  have s18534 : τ 18534 = σ 18534 := hs 18534 (by decide)
  have s18535 : τ 18535 = σ 18535 := hs 18535 (by decide)
  clear ht hb h1 h2
  rw [hx] at hr
  clear hx
  obtain ⟨y, hy, hv⟩ := hr
  cases hy
  replace hv : x.toInt = (-1) + 0 := hv
  have sm : σ' 133 = σ 133 ∧ σ' 134 = σ 134 ∧ σ' 12805 = σ 12805 ∧ σ' 10250 = σ 10250 ∧ σ' 12814 = σ 12814 ∧ σ' 18520 = σ 18520 ∧ σ' 18521 = σ 18521 ∧ σ' 18522 = σ 18522 ∧ σ' 18523 = σ 18523 ∧ σ' 18524 = σ 18524 ∧ σ' 18525 = σ 18525 ∧ σ' 18526 = σ 18526 ∧ σ' 18527 = σ 18527 := ⟨lw_id s133 (hm 133 (by decide)), lw_id s134 (hm 134 (by decide)), lw_id s12805 (hm 12805 (by decide)), lw_id s10250 (hm 10250 (by decide)), lw_id s12814 (hm 12814 (by decide)), lw_id s18520 (hm 18520 (by decide)), lw_id s18521 (hm 18521 (by decide)), lw_id s18522 (hm 18522 (by decide)), lw_id s18523 (hm 18523 (by decide)), lw_id s18524 (hm 18524 (by decide)), lw_id s18525 (hm 18525 (by decide)), lw_id s18526 (hm 18526 (by decide)), lw_id s18527 (hm 18527 (by decide))⟩
  refine ⟨?_, sm⟩
  clear sm
  have f0 : 0 ≤ (-14836) + (1 * τ 19001 + 0) := hf _ (List.Mem.head _)
  have f1 : 0 ≤ 14836 + ((-1) * τ 19001 + 0) := hf _ (List.Mem.tail _ (List.Mem.head _))
  refine Or.inl ⟨by omega, ⟨lw_id s12804 (hm 12804 (by decide)), lw_id s18528 (hm 18528 (by decide)), lw_id s18529 (hm 18529 (by decide)), lw_id s18530 (hm 18530 (by decide)), lw_id s18531 (hm 18531 (by decide)), lw_id s18532 (hm 18532 (by decide)), lw_id s18533 (hm 18533 (by decide)), lw_id s18534 (hm 18534 (by decide)), lw_id s18535 (hm 18535 (by decide))⟩, fun hok => ?_⟩
  obtain ⟨o1, o2, o3, o4, o5, o6⟩ := hok
  obtain ⟨z0, z1, z2, z3, z4, z5, z6, z7⟩ := o4
  omega
theorem lw_pm_105 {as : List rv_A} {σ σ' : Nat → Int} {o : rv_O} {x : Int32} {a1 a2 : Int} {A : Nat → Nat → Int} {τ : Nat → Int} (hx : o.1 = some (.inl x)) (h1 : lw_av as 1 = a1) (h2 : lw_av as 2 = a2) (hb : ∀ s, (sx_sr s).1 ≤ σ s ∧ σ s ≤ (sx_sr s).2) (hG : sx_GG σ' A) (hW : lw_W ([(18509, 1, 1099511627770), (18510, 0, 34359738367)], [((-14837), [(19001, 1)]), (632644, [(19001, (-1))]), ((-1), [(19002, (-1))])], [(12800, (1, [])), (18509, (0, [(1000000, 1)])), (18510, (0, [(1000001, 1)])), (18511, (0, [(19001, 1)])), (18512, (0, [])), (18513, (1, []))], some (false, ((-1), []))) as σ σ' τ o) : lw_pm_C a1 a2 x.toInt σ σ' := by
  unfold lw_pm_C
  have bM : 0 ≤ σ 12804 ∧ σ 12804 ≤ 8 := by
    have h0 := hb 12804
    rw [show sx_sr 12804 = (0, 8) from by decide +kernel] at h0
    exact h0
  obtain ⟨-, -, -, -, -, -, -, -, -, -, -, -, -, -, -, -, -, -, -, g19, g20, -, g22, -, g24⟩ := hG
  obtain ⟨hs, ht, hf, hr, hm, hw⟩ := hW
  have e1 : τ 19001 = a1 := by rw [ht 19001 (by decide) (by decide)]; exact h1
  have e2 : τ 19002 = a2 := by rw [ht 19002 (by decide) (by decide)]; exact h2
  have s133 : τ 133 = σ 133 := hs 133 (by decide)
  have s134 : τ 134 = σ 134 := hs 134 (by decide)
  have s10250 : τ 10250 = σ 10250 := hs 10250 (by decide)
  have s12804 : τ 12804 = σ 12804 := hs 12804 (by decide)
  have s12805 : τ 12805 = σ 12805 := hs 12805 (by decide)
  have s12814 : τ 12814 = σ 12814 := hs 12814 (by decide)
  have s18520 : τ 18520 = σ 18520 := hs 18520 (by decide)
  have s18521 : τ 18521 = σ 18521 := hs 18521 (by decide)
  have s18522 : τ 18522 = σ 18522 := hs 18522 (by decide)
  have s18523 : τ 18523 = σ 18523 := hs 18523 (by decide)
  have s18524 : τ 18524 = σ 18524 := hs 18524 (by decide)
  have s18525 : τ 18525 = σ 18525 := hs 18525 (by decide)
  have s18526 : τ 18526 = σ 18526 := hs 18526 (by decide)
  have s18527 : τ 18527 = σ 18527 := hs 18527 (by decide)
  have s18528 : τ 18528 = σ 18528 := hs 18528 (by decide)
  have s18529 : τ 18529 = σ 18529 := hs 18529 (by decide)
  have s18530 : τ 18530 = σ 18530 := hs 18530 (by decide)
  have s18531 : τ 18531 = σ 18531 := hs 18531 (by decide)
  have s18532 : τ 18532 = σ 18532 := hs 18532 (by decide)
  have s18533 : τ 18533 = σ 18533 := hs 18533 (by decide)
  have s18534 : τ 18534 = σ 18534 := hs 18534 (by decide)
  have s18535 : τ 18535 = σ 18535 := hs 18535 (by decide)
  clear ht hb h1 h2
  rw [hx] at hr
  clear hx
  obtain ⟨y, hy, hv⟩ := hr
  cases hy
  replace hv : x.toInt = (-1) + 0 := hv
  have sm : σ' 133 = σ 133 ∧ σ' 134 = σ 134 ∧ σ' 12805 = σ 12805 ∧ σ' 10250 = σ 10250 ∧ σ' 12814 = σ 12814 ∧ σ' 18520 = σ 18520 ∧ σ' 18521 = σ 18521 ∧ σ' 18522 = σ 18522 ∧ σ' 18523 = σ 18523 ∧ σ' 18524 = σ 18524 ∧ σ' 18525 = σ 18525 ∧ σ' 18526 = σ 18526 ∧ σ' 18527 = σ 18527 := ⟨lw_id s133 (hm 133 (by decide)), lw_id s134 (hm 134 (by decide)), lw_id s12805 (hm 12805 (by decide)), lw_id s10250 (hm 10250 (by decide)), lw_id s12814 (hm 12814 (by decide)), lw_id s18520 (hm 18520 (by decide)), lw_id s18521 (hm 18521 (by decide)), lw_id s18522 (hm 18522 (by decide)), lw_id s18523 (hm 18523 (by decide)), lw_id s18524 (hm 18524 (by decide)), lw_id s18525 (hm 18525 (by decide)), lw_id s18526 (hm 18526 (by decide)), lw_id s18527 (hm 18527 (by decide))⟩
  refine ⟨?_, sm⟩
  clear sm
  have f0 : 0 ≤ (-14837) + (1 * τ 19001 + 0) := hf _ (List.Mem.head _)
  have f1 : 0 ≤ 632644 + ((-1) * τ 19001 + 0) := hf _ (List.Mem.tail _ (List.Mem.head _))
  have f2 : 0 ≤ (-1) + ((-1) * τ 19002 + 0) := hf _ (List.Mem.tail _ (List.Mem.tail _ (List.Mem.head _)))
  refine Or.inl ⟨by omega, ⟨lw_id s12804 (hm 12804 (by decide)), lw_id s18528 (hm 18528 (by decide)), lw_id s18529 (hm 18529 (by decide)), lw_id s18530 (hm 18530 (by decide)), lw_id s18531 (hm 18531 (by decide)), lw_id s18532 (hm 18532 (by decide)), lw_id s18533 (hm 18533 (by decide)), lw_id s18534 (hm 18534 (by decide)), lw_id s18535 (hm 18535 (by decide))⟩, fun hok => ?_⟩
  obtain ⟨o1, o2, o3, o4, o5, o6⟩ := hok
  obtain ⟨z0, z1, z2, z3, z4, z5, z6, z7⟩ := o4
  omega
theorem lw_pm_106 {as : List rv_A} {σ σ' : Nat → Int} {o : rv_O} {x : Int32} {a1 a2 : Int} {A : Nat → Nat → Int} {τ : Nat → Int} (hx : o.1 = some (.inl x)) (h1 : lw_av as 1 = a1) (h2 : lw_av as 2 = a2) (hb : ∀ s, (sx_sr s).1 ≤ σ s ∧ σ s ≤ (sx_sr s).2) (hG : sx_GG σ' A) (hW : lw_W ([(18509, 1, 1099511627770), (18510, 0, 34359738367)], [((-14837), [(19001, 1)]), (632644, [(19001, (-1))]), ((-10), [(19002, 1)])], [(12800, (1, [])), (18509, (0, [(1000000, 1)])), (18510, (0, [(1000001, 1)])), (18511, (0, [(19001, 1)])), (18512, (0, [])), (18513, (1, []))], some (false, ((-1), []))) as σ σ' τ o) : lw_pm_C a1 a2 x.toInt σ σ' := by
  unfold lw_pm_C
  have bM : 0 ≤ σ 12804 ∧ σ 12804 ≤ 8 := by
    have h0 := hb 12804
    rw [show sx_sr 12804 = (0, 8) from by decide +kernel] at h0
    exact h0
  obtain ⟨-, -, -, -, -, -, -, -, -, -, -, -, -, -, -, -, -, -, -, g19, g20, -, g22, -, g24⟩ := hG
  obtain ⟨hs, ht, hf, hr, hm, hw⟩ := hW
  have e1 : τ 19001 = a1 := by rw [ht 19001 (by decide) (by decide)]; exact h1
  have e2 : τ 19002 = a2 := by rw [ht 19002 (by decide) (by decide)]; exact h2
  have s133 : τ 133 = σ 133 := hs 133 (by decide)
  have s134 : τ 134 = σ 134 := hs 134 (by decide)
  have s10250 : τ 10250 = σ 10250 := hs 10250 (by decide)
  have s12804 : τ 12804 = σ 12804 := hs 12804 (by decide)
  have s12805 : τ 12805 = σ 12805 := hs 12805 (by decide)
  have s12814 : τ 12814 = σ 12814 := hs 12814 (by decide)
  have s18520 : τ 18520 = σ 18520 := hs 18520 (by decide)
  have s18521 : τ 18521 = σ 18521 := hs 18521 (by decide)
  have s18522 : τ 18522 = σ 18522 := hs 18522 (by decide)
  have s18523 : τ 18523 = σ 18523 := hs 18523 (by decide)
  have s18524 : τ 18524 = σ 18524 := hs 18524 (by decide)
  have s18525 : τ 18525 = σ 18525 := hs 18525 (by decide)
  have s18526 : τ 18526 = σ 18526 := hs 18526 (by decide)
  have s18527 : τ 18527 = σ 18527 := hs 18527 (by decide)
  have s18528 : τ 18528 = σ 18528 := hs 18528 (by decide)
  have s18529 : τ 18529 = σ 18529 := hs 18529 (by decide)
  have s18530 : τ 18530 = σ 18530 := hs 18530 (by decide)
  have s18531 : τ 18531 = σ 18531 := hs 18531 (by decide)
  have s18532 : τ 18532 = σ 18532 := hs 18532 (by decide)
  have s18533 : τ 18533 = σ 18533 := hs 18533 (by decide)
  have s18534 : τ 18534 = σ 18534 := hs 18534 (by decide)
  have s18535 : τ 18535 = σ 18535 := hs 18535 (by decide)
  clear ht hb h1 h2
  rw [hx] at hr
  clear hx
  obtain ⟨y, hy, hv⟩ := hr
  cases hy
  replace hv : x.toInt = (-1) + 0 := hv
  have sm : σ' 133 = σ 133 ∧ σ' 134 = σ 134 ∧ σ' 12805 = σ 12805 ∧ σ' 10250 = σ 10250 ∧ σ' 12814 = σ 12814 ∧ σ' 18520 = σ 18520 ∧ σ' 18521 = σ 18521 ∧ σ' 18522 = σ 18522 ∧ σ' 18523 = σ 18523 ∧ σ' 18524 = σ 18524 ∧ σ' 18525 = σ 18525 ∧ σ' 18526 = σ 18526 ∧ σ' 18527 = σ 18527 := ⟨lw_id s133 (hm 133 (by decide)), lw_id s134 (hm 134 (by decide)), lw_id s12805 (hm 12805 (by decide)), lw_id s10250 (hm 10250 (by decide)), lw_id s12814 (hm 12814 (by decide)), lw_id s18520 (hm 18520 (by decide)), lw_id s18521 (hm 18521 (by decide)), lw_id s18522 (hm 18522 (by decide)), lw_id s18523 (hm 18523 (by decide)), lw_id s18524 (hm 18524 (by decide)), lw_id s18525 (hm 18525 (by decide)), lw_id s18526 (hm 18526 (by decide)), lw_id s18527 (hm 18527 (by decide))⟩
  refine ⟨?_, sm⟩
  clear sm
  have f0 : 0 ≤ (-14837) + (1 * τ 19001 + 0) := hf _ (List.Mem.head _)
  have f1 : 0 ≤ 632644 + ((-1) * τ 19001 + 0) := hf _ (List.Mem.tail _ (List.Mem.head _))
  have f2 : 0 ≤ (-10) + (1 * τ 19002 + 0) := hf _ (List.Mem.tail _ (List.Mem.tail _ (List.Mem.head _)))
  refine Or.inl ⟨by omega, ⟨lw_id s12804 (hm 12804 (by decide)), lw_id s18528 (hm 18528 (by decide)), lw_id s18529 (hm 18529 (by decide)), lw_id s18530 (hm 18530 (by decide)), lw_id s18531 (hm 18531 (by decide)), lw_id s18532 (hm 18532 (by decide)), lw_id s18533 (hm 18533 (by decide)), lw_id s18534 (hm 18534 (by decide)), lw_id s18535 (hm 18535 (by decide))⟩, fun hok => ?_⟩
  obtain ⟨o1, o2, o3, o4, o5, o6⟩ := hok
  obtain ⟨z0, z1, z2, z3, z4, z5, z6, z7⟩ := o4
  omega
theorem lw_pm_107 {as : List rv_A} {σ σ' : Nat → Int} {o : rv_O} {x : Int32} {a1 a2 : Int} {A : Nat → Nat → Int} {τ : Nat → Int} (hx : o.1 = some (.inl x)) (h1 : lw_av as 1 = a1) (h2 : lw_av as 2 = a2) (hb : ∀ s, (sx_sr s).1 ≤ σ s ∧ σ s ≤ (sx_sr s).2) (hG : sx_GG σ' A) (hW : lw_W ([(18509, 1, 1099511627770), (18510, 0, 34359738367)], [((-2098), [(19001, 1)]), (2098, [(19001, (-1))])], [(12800, (1, [])), (18509, (0, [(1000000, 1)])), (18510, (0, [(1000001, 1)])), (18511, (0, [(19001, 1)])), (18512, (0, [])), (18513, (1, []))], some (false, ((-1), []))) as σ σ' τ o) : lw_pm_C a1 a2 x.toInt σ σ' := by
  unfold lw_pm_C
  have bM : 0 ≤ σ 12804 ∧ σ 12804 ≤ 8 := by
    have h0 := hb 12804
    rw [show sx_sr 12804 = (0, 8) from by decide +kernel] at h0
    exact h0
  obtain ⟨-, -, -, -, -, -, -, -, -, -, -, -, -, -, -, -, -, -, -, g19, g20, -, g22, -, g24⟩ := hG
  obtain ⟨hs, ht, hf, hr, hm, hw⟩ := hW
  have e1 : τ 19001 = a1 := by rw [ht 19001 (by decide) (by decide)]; exact h1
  have e2 : τ 19002 = a2 := by rw [ht 19002 (by decide) (by decide)]; exact h2
  have s133 : τ 133 = σ 133 := hs 133 (by decide)
  have s134 : τ 134 = σ 134 := hs 134 (by decide)
  have s10250 : τ 10250 = σ 10250 := hs 10250 (by decide)
  have s12804 : τ 12804 = σ 12804 := hs 12804 (by decide)
  have s12805 : τ 12805 = σ 12805 := hs 12805 (by decide)
  have s12814 : τ 12814 = σ 12814 := hs 12814 (by decide)
  have s18520 : τ 18520 = σ 18520 := hs 18520 (by decide)
  have s18521 : τ 18521 = σ 18521 := hs 18521 (by decide)
  have s18522 : τ 18522 = σ 18522 := hs 18522 (by decide)
  have s18523 : τ 18523 = σ 18523 := hs 18523 (by decide)
  have s18524 : τ 18524 = σ 18524 := hs 18524 (by decide)
  have s18525 : τ 18525 = σ 18525 := hs 18525 (by decide)
  have s18526 : τ 18526 = σ 18526 := hs 18526 (by decide)
  have s18527 : τ 18527 = σ 18527 := hs 18527 (by decide)
  have s18528 : τ 18528 = σ 18528 := hs 18528 (by decide)
  have s18529 : τ 18529 = σ 18529 := hs 18529 (by decide)
  have s18530 : τ 18530 = σ 18530 := hs 18530 (by decide)
  have s18531 : τ 18531 = σ 18531 := hs 18531 (by decide)
  have s18532 : τ 18532 = σ 18532 := hs 18532 (by decide)
  have s18533 : τ 18533 = σ 18533 := hs 18533 (by decide)
  have s18534 : τ 18534 = σ 18534 := hs 18534 (by decide)
  have s18535 : τ 18535 = σ 18535 := hs 18535 (by decide)
  clear ht hb h1 h2
  rw [hx] at hr
  clear hx
  obtain ⟨y, hy, hv⟩ := hr
  cases hy
  replace hv : x.toInt = (-1) + 0 := hv
  have sm : σ' 133 = σ 133 ∧ σ' 134 = σ 134 ∧ σ' 12805 = σ 12805 ∧ σ' 10250 = σ 10250 ∧ σ' 12814 = σ 12814 ∧ σ' 18520 = σ 18520 ∧ σ' 18521 = σ 18521 ∧ σ' 18522 = σ 18522 ∧ σ' 18523 = σ 18523 ∧ σ' 18524 = σ 18524 ∧ σ' 18525 = σ 18525 ∧ σ' 18526 = σ 18526 ∧ σ' 18527 = σ 18527 := ⟨lw_id s133 (hm 133 (by decide)), lw_id s134 (hm 134 (by decide)), lw_id s12805 (hm 12805 (by decide)), lw_id s10250 (hm 10250 (by decide)), lw_id s12814 (hm 12814 (by decide)), lw_id s18520 (hm 18520 (by decide)), lw_id s18521 (hm 18521 (by decide)), lw_id s18522 (hm 18522 (by decide)), lw_id s18523 (hm 18523 (by decide)), lw_id s18524 (hm 18524 (by decide)), lw_id s18525 (hm 18525 (by decide)), lw_id s18526 (hm 18526 (by decide)), lw_id s18527 (hm 18527 (by decide))⟩
  refine ⟨?_, sm⟩
  clear sm
  have f0 : 0 ≤ (-2098) + (1 * τ 19001 + 0) := hf _ (List.Mem.head _)
  have f1 : 0 ≤ 2098 + ((-1) * τ 19001 + 0) := hf _ (List.Mem.tail _ (List.Mem.head _))
  refine Or.inl ⟨by omega, ⟨lw_id s12804 (hm 12804 (by decide)), lw_id s18528 (hm 18528 (by decide)), lw_id s18529 (hm 18529 (by decide)), lw_id s18530 (hm 18530 (by decide)), lw_id s18531 (hm 18531 (by decide)), lw_id s18532 (hm 18532 (by decide)), lw_id s18533 (hm 18533 (by decide)), lw_id s18534 (hm 18534 (by decide)), lw_id s18535 (hm 18535 (by decide))⟩, fun hok => ?_⟩
  obtain ⟨o1, o2, o3, o4, o5, o6⟩ := hok
  obtain ⟨z0, z1, z2, z3, z4, z5, z6, z7⟩ := o4
  omega
theorem lw_pm_108 {as : List rv_A} {σ σ' : Nat → Int} {o : rv_O} {x : Int32} {a1 a2 : Int} {A : Nat → Nat → Int} {τ : Nat → Int} (hx : o.1 = some (.inl x)) (h1 : lw_av as 1 = a1) (h2 : lw_av as 2 = a2) (hb : ∀ s, (sx_sr s).1 ≤ σ s ∧ σ s ≤ (sx_sr s).2) (hG : sx_GG σ' A) (hW : lw_W ([(18509, 1, 1099511627770), (18510, 0, 34359738367)], [((-2099), [(19001, 1)]), (11565, [(19001, (-1))]), ((-1), [(19002, (-1))])], [(12800, (1, [])), (18509, (0, [(1000000, 1)])), (18510, (0, [(1000001, 1)])), (18511, (0, [(19001, 1)])), (18512, (0, [])), (18513, (1, []))], some (false, ((-1), []))) as σ σ' τ o) : lw_pm_C a1 a2 x.toInt σ σ' := by
  unfold lw_pm_C
  have bM : 0 ≤ σ 12804 ∧ σ 12804 ≤ 8 := by
    have h0 := hb 12804
    rw [show sx_sr 12804 = (0, 8) from by decide +kernel] at h0
    exact h0
  obtain ⟨-, -, -, -, -, -, -, -, -, -, -, -, -, -, -, -, -, -, -, g19, g20, -, g22, -, g24⟩ := hG
  obtain ⟨hs, ht, hf, hr, hm, hw⟩ := hW
  have e1 : τ 19001 = a1 := by rw [ht 19001 (by decide) (by decide)]; exact h1
  have e2 : τ 19002 = a2 := by rw [ht 19002 (by decide) (by decide)]; exact h2
  have s133 : τ 133 = σ 133 := hs 133 (by decide)
  have s134 : τ 134 = σ 134 := hs 134 (by decide)
  have s10250 : τ 10250 = σ 10250 := hs 10250 (by decide)
  have s12804 : τ 12804 = σ 12804 := hs 12804 (by decide)
  have s12805 : τ 12805 = σ 12805 := hs 12805 (by decide)
  have s12814 : τ 12814 = σ 12814 := hs 12814 (by decide)
  have s18520 : τ 18520 = σ 18520 := hs 18520 (by decide)
  have s18521 : τ 18521 = σ 18521 := hs 18521 (by decide)
  have s18522 : τ 18522 = σ 18522 := hs 18522 (by decide)
  have s18523 : τ 18523 = σ 18523 := hs 18523 (by decide)
  have s18524 : τ 18524 = σ 18524 := hs 18524 (by decide)
  have s18525 : τ 18525 = σ 18525 := hs 18525 (by decide)
  have s18526 : τ 18526 = σ 18526 := hs 18526 (by decide)
  have s18527 : τ 18527 = σ 18527 := hs 18527 (by decide)
  have s18528 : τ 18528 = σ 18528 := hs 18528 (by decide)
  have s18529 : τ 18529 = σ 18529 := hs 18529 (by decide)
  have s18530 : τ 18530 = σ 18530 := hs 18530 (by decide)
  have s18531 : τ 18531 = σ 18531 := hs 18531 (by decide)
  have s18532 : τ 18532 = σ 18532 := hs 18532 (by decide)
  have s18533 : τ 18533 = σ 18533 := hs 18533 (by decide)
  have s18534 : τ 18534 = σ 18534 := hs 18534 (by decide)
  have s18535 : τ 18535 = σ 18535 := hs 18535 (by decide)
  clear ht hb h1 h2
  rw [hx] at hr
  clear hx
  obtain ⟨y, hy, hv⟩ := hr
  cases hy
  replace hv : x.toInt = (-1) + 0 := hv
  have sm : σ' 133 = σ 133 ∧ σ' 134 = σ 134 ∧ σ' 12805 = σ 12805 ∧ σ' 10250 = σ 10250 ∧ σ' 12814 = σ 12814 ∧ σ' 18520 = σ 18520 ∧ σ' 18521 = σ 18521 ∧ σ' 18522 = σ 18522 ∧ σ' 18523 = σ 18523 ∧ σ' 18524 = σ 18524 ∧ σ' 18525 = σ 18525 ∧ σ' 18526 = σ 18526 ∧ σ' 18527 = σ 18527 := ⟨lw_id s133 (hm 133 (by decide)), lw_id s134 (hm 134 (by decide)), lw_id s12805 (hm 12805 (by decide)), lw_id s10250 (hm 10250 (by decide)), lw_id s12814 (hm 12814 (by decide)), lw_id s18520 (hm 18520 (by decide)), lw_id s18521 (hm 18521 (by decide)), lw_id s18522 (hm 18522 (by decide)), lw_id s18523 (hm 18523 (by decide)), lw_id s18524 (hm 18524 (by decide)), lw_id s18525 (hm 18525 (by decide)), lw_id s18526 (hm 18526 (by decide)), lw_id s18527 (hm 18527 (by decide))⟩
  refine ⟨?_, sm⟩
  clear sm
  have f0 : 0 ≤ (-2099) + (1 * τ 19001 + 0) := hf _ (List.Mem.head _)
  have f1 : 0 ≤ 11565 + ((-1) * τ 19001 + 0) := hf _ (List.Mem.tail _ (List.Mem.head _))
  have f2 : 0 ≤ (-1) + ((-1) * τ 19002 + 0) := hf _ (List.Mem.tail _ (List.Mem.tail _ (List.Mem.head _)))
  refine Or.inl ⟨by omega, ⟨lw_id s12804 (hm 12804 (by decide)), lw_id s18528 (hm 18528 (by decide)), lw_id s18529 (hm 18529 (by decide)), lw_id s18530 (hm 18530 (by decide)), lw_id s18531 (hm 18531 (by decide)), lw_id s18532 (hm 18532 (by decide)), lw_id s18533 (hm 18533 (by decide)), lw_id s18534 (hm 18534 (by decide)), lw_id s18535 (hm 18535 (by decide))⟩, fun hok => ?_⟩
  obtain ⟨o1, o2, o3, o4, o5, o6⟩ := hok
  obtain ⟨z0, z1, z2, z3, z4, z5, z6, z7⟩ := o4
  omega
theorem lw_pm_109 {as : List rv_A} {σ σ' : Nat → Int} {o : rv_O} {x : Int32} {a1 a2 : Int} {A : Nat → Nat → Int} {τ : Nat → Int} (hx : o.1 = some (.inl x)) (h1 : lw_av as 1 = a1) (h2 : lw_av as 2 = a2) (hb : ∀ s, (sx_sr s).1 ≤ σ s ∧ σ s ≤ (sx_sr s).2) (hG : sx_GG σ' A) (hW : lw_W ([(18509, 1, 1099511627770), (18510, 0, 34359738367)], [((-2099), [(19001, 1)]), (11565, [(19001, (-1))]), ((-10), [(19002, 1)])], [(12800, (1, [])), (18509, (0, [(1000000, 1)])), (18510, (0, [(1000001, 1)])), (18511, (0, [(19001, 1)])), (18512, (0, [])), (18513, (1, []))], some (false, ((-1), []))) as σ σ' τ o) : lw_pm_C a1 a2 x.toInt σ σ' := by
  unfold lw_pm_C
  have bM : 0 ≤ σ 12804 ∧ σ 12804 ≤ 8 := by
    have h0 := hb 12804
    rw [show sx_sr 12804 = (0, 8) from by decide +kernel] at h0
    exact h0
  obtain ⟨-, -, -, -, -, -, -, -, -, -, -, -, -, -, -, -, -, -, -, g19, g20, -, g22, -, g24⟩ := hG
  obtain ⟨hs, ht, hf, hr, hm, hw⟩ := hW
  have e1 : τ 19001 = a1 := by rw [ht 19001 (by decide) (by decide)]; exact h1
  have e2 : τ 19002 = a2 := by rw [ht 19002 (by decide) (by decide)]; exact h2
  have s133 : τ 133 = σ 133 := hs 133 (by decide)
  have s134 : τ 134 = σ 134 := hs 134 (by decide)
  have s10250 : τ 10250 = σ 10250 := hs 10250 (by decide)
  have s12804 : τ 12804 = σ 12804 := hs 12804 (by decide)
  have s12805 : τ 12805 = σ 12805 := hs 12805 (by decide)
  have s12814 : τ 12814 = σ 12814 := hs 12814 (by decide)
  have s18520 : τ 18520 = σ 18520 := hs 18520 (by decide)
  have s18521 : τ 18521 = σ 18521 := hs 18521 (by decide)
  have s18522 : τ 18522 = σ 18522 := hs 18522 (by decide)
  have s18523 : τ 18523 = σ 18523 := hs 18523 (by decide)
  have s18524 : τ 18524 = σ 18524 := hs 18524 (by decide)
  have s18525 : τ 18525 = σ 18525 := hs 18525 (by decide)
  have s18526 : τ 18526 = σ 18526 := hs 18526 (by decide)
  have s18527 : τ 18527 = σ 18527 := hs 18527 (by decide)
  have s18528 : τ 18528 = σ 18528 := hs 18528 (by decide)
  have s18529 : τ 18529 = σ 18529 := hs 18529 (by decide)
  have s18530 : τ 18530 = σ 18530 := hs 18530 (by decide)
  have s18531 : τ 18531 = σ 18531 := hs 18531 (by decide)
  have s18532 : τ 18532 = σ 18532 := hs 18532 (by decide)
  have s18533 : τ 18533 = σ 18533 := hs 18533 (by decide)
  have s18534 : τ 18534 = σ 18534 := hs 18534 (by decide)
  have s18535 : τ 18535 = σ 18535 := hs 18535 (by decide)
  clear ht hb h1 h2
  rw [hx] at hr
  clear hx
  obtain ⟨y, hy, hv⟩ := hr
  cases hy
  replace hv : x.toInt = (-1) + 0 := hv
  have sm : σ' 133 = σ 133 ∧ σ' 134 = σ 134 ∧ σ' 12805 = σ 12805 ∧ σ' 10250 = σ 10250 ∧ σ' 12814 = σ 12814 ∧ σ' 18520 = σ 18520 ∧ σ' 18521 = σ 18521 ∧ σ' 18522 = σ 18522 ∧ σ' 18523 = σ 18523 ∧ σ' 18524 = σ 18524 ∧ σ' 18525 = σ 18525 ∧ σ' 18526 = σ 18526 ∧ σ' 18527 = σ 18527 := ⟨lw_id s133 (hm 133 (by decide)), lw_id s134 (hm 134 (by decide)), lw_id s12805 (hm 12805 (by decide)), lw_id s10250 (hm 10250 (by decide)), lw_id s12814 (hm 12814 (by decide)), lw_id s18520 (hm 18520 (by decide)), lw_id s18521 (hm 18521 (by decide)), lw_id s18522 (hm 18522 (by decide)), lw_id s18523 (hm 18523 (by decide)), lw_id s18524 (hm 18524 (by decide)), lw_id s18525 (hm 18525 (by decide)), lw_id s18526 (hm 18526 (by decide)), lw_id s18527 (hm 18527 (by decide))⟩
  refine ⟨?_, sm⟩
  clear sm
  have f0 : 0 ≤ (-2099) + (1 * τ 19001 + 0) := hf _ (List.Mem.head _)
  have f1 : 0 ≤ 11565 + ((-1) * τ 19001 + 0) := hf _ (List.Mem.tail _ (List.Mem.head _))
  have f2 : 0 ≤ (-10) + (1 * τ 19002 + 0) := hf _ (List.Mem.tail _ (List.Mem.tail _ (List.Mem.head _)))
  refine Or.inl ⟨by omega, ⟨lw_id s12804 (hm 12804 (by decide)), lw_id s18528 (hm 18528 (by decide)), lw_id s18529 (hm 18529 (by decide)), lw_id s18530 (hm 18530 (by decide)), lw_id s18531 (hm 18531 (by decide)), lw_id s18532 (hm 18532 (by decide)), lw_id s18533 (hm 18533 (by decide)), lw_id s18534 (hm 18534 (by decide)), lw_id s18535 (hm 18535 (by decide))⟩, fun hok => ?_⟩
  obtain ⟨o1, o2, o3, o4, o5, o6⟩ := hok
  obtain ⟨z0, z1, z2, z3, z4, z5, z6, z7⟩ := o4
  omega
theorem lw_pm_110 {as : List rv_A} {σ σ' : Nat → Int} {o : rv_O} {x : Int32} {a1 a2 : Int} {A : Nat → Nat → Int} {τ : Nat → Int} (hx : o.1 = some (.inl x)) (h1 : lw_av as 1 = a1) (h2 : lw_av as 2 = a2) (hb : ∀ s, (sx_sr s).1 ≤ σ s ∧ σ s ≤ (sx_sr s).2) (hG : sx_GG σ' A) (hW : lw_W ([(18509, 1, 1099511627770), (18510, 0, 34359738367)], [((-294), [(19001, 1)]), (294, [(19001, (-1))])], [(12800, (1, [])), (18509, (0, [(1000000, 1)])), (18510, (0, [(1000001, 1)])), (18511, (0, [(19001, 1)])), (18512, (0, [])), (18513, (1, []))], some (false, ((-1), []))) as σ σ' τ o) : lw_pm_C a1 a2 x.toInt σ σ' := by
  unfold lw_pm_C
  have bM : 0 ≤ σ 12804 ∧ σ 12804 ≤ 8 := by
    have h0 := hb 12804
    rw [show sx_sr 12804 = (0, 8) from by decide +kernel] at h0
    exact h0
  obtain ⟨-, -, -, -, -, -, -, -, -, -, -, -, -, -, -, -, -, -, -, g19, g20, -, g22, -, g24⟩ := hG
  obtain ⟨hs, ht, hf, hr, hm, hw⟩ := hW
  have e1 : τ 19001 = a1 := by rw [ht 19001 (by decide) (by decide)]; exact h1
  have e2 : τ 19002 = a2 := by rw [ht 19002 (by decide) (by decide)]; exact h2
  have s133 : τ 133 = σ 133 := hs 133 (by decide)
  have s134 : τ 134 = σ 134 := hs 134 (by decide)
  have s10250 : τ 10250 = σ 10250 := hs 10250 (by decide)
  have s12804 : τ 12804 = σ 12804 := hs 12804 (by decide)
  have s12805 : τ 12805 = σ 12805 := hs 12805 (by decide)
  have s12814 : τ 12814 = σ 12814 := hs 12814 (by decide)
  have s18520 : τ 18520 = σ 18520 := hs 18520 (by decide)
  have s18521 : τ 18521 = σ 18521 := hs 18521 (by decide)
  have s18522 : τ 18522 = σ 18522 := hs 18522 (by decide)
  have s18523 : τ 18523 = σ 18523 := hs 18523 (by decide)
  have s18524 : τ 18524 = σ 18524 := hs 18524 (by decide)
  have s18525 : τ 18525 = σ 18525 := hs 18525 (by decide)
  have s18526 : τ 18526 = σ 18526 := hs 18526 (by decide)
  have s18527 : τ 18527 = σ 18527 := hs 18527 (by decide)
  have s18528 : τ 18528 = σ 18528 := hs 18528 (by decide)
  have s18529 : τ 18529 = σ 18529 := hs 18529 (by decide)
  have s18530 : τ 18530 = σ 18530 := hs 18530 (by decide)
  have s18531 : τ 18531 = σ 18531 := hs 18531 (by decide)
  have s18532 : τ 18532 = σ 18532 := hs 18532 (by decide)
  have s18533 : τ 18533 = σ 18533 := hs 18533 (by decide)
  have s18534 : τ 18534 = σ 18534 := hs 18534 (by decide)
  have s18535 : τ 18535 = σ 18535 := hs 18535 (by decide)
  clear ht hb h1 h2
  rw [hx] at hr
  clear hx
  obtain ⟨y, hy, hv⟩ := hr
  cases hy
  replace hv : x.toInt = (-1) + 0 := hv
  have sm : σ' 133 = σ 133 ∧ σ' 134 = σ 134 ∧ σ' 12805 = σ 12805 ∧ σ' 10250 = σ 10250 ∧ σ' 12814 = σ 12814 ∧ σ' 18520 = σ 18520 ∧ σ' 18521 = σ 18521 ∧ σ' 18522 = σ 18522 ∧ σ' 18523 = σ 18523 ∧ σ' 18524 = σ 18524 ∧ σ' 18525 = σ 18525 ∧ σ' 18526 = σ 18526 ∧ σ' 18527 = σ 18527 := ⟨lw_id s133 (hm 133 (by decide)), lw_id s134 (hm 134 (by decide)), lw_id s12805 (hm 12805 (by decide)), lw_id s10250 (hm 10250 (by decide)), lw_id s12814 (hm 12814 (by decide)), lw_id s18520 (hm 18520 (by decide)), lw_id s18521 (hm 18521 (by decide)), lw_id s18522 (hm 18522 (by decide)), lw_id s18523 (hm 18523 (by decide)), lw_id s18524 (hm 18524 (by decide)), lw_id s18525 (hm 18525 (by decide)), lw_id s18526 (hm 18526 (by decide)), lw_id s18527 (hm 18527 (by decide))⟩
  refine ⟨?_, sm⟩
  clear sm
  have f0 : 0 ≤ (-294) + (1 * τ 19001 + 0) := hf _ (List.Mem.head _)
  have f1 : 0 ≤ 294 + ((-1) * τ 19001 + 0) := hf _ (List.Mem.tail _ (List.Mem.head _))
  refine Or.inl ⟨by omega, ⟨lw_id s12804 (hm 12804 (by decide)), lw_id s18528 (hm 18528 (by decide)), lw_id s18529 (hm 18529 (by decide)), lw_id s18530 (hm 18530 (by decide)), lw_id s18531 (hm 18531 (by decide)), lw_id s18532 (hm 18532 (by decide)), lw_id s18533 (hm 18533 (by decide)), lw_id s18534 (hm 18534 (by decide)), lw_id s18535 (hm 18535 (by decide))⟩, fun hok => ?_⟩
  obtain ⟨o1, o2, o3, o4, o5, o6⟩ := hok
  obtain ⟨z0, z1, z2, z3, z4, z5, z6, z7⟩ := o4
  omega
theorem lw_pm_111 {as : List rv_A} {σ σ' : Nat → Int} {o : rv_O} {x : Int32} {a1 a2 : Int} {A : Nat → Nat → Int} {τ : Nat → Int} (hx : o.1 = some (.inl x)) (h1 : lw_av as 1 = a1) (h2 : lw_av as 2 = a2) (hb : ∀ s, (sx_sr s).1 ≤ σ s ∧ σ s ≤ (sx_sr s).2) (hG : sx_GG σ' A) (hW : lw_W ([(18509, 1, 1099511627770), (18510, 0, 34359738367)], [((-295), [(19001, 1)]), (497, [(19001, (-1))]), ((-1), [(19002, (-1))])], [(12800, (1, [])), (18509, (0, [(1000000, 1)])), (18510, (0, [(1000001, 1)])), (18511, (0, [(19001, 1)])), (18512, (0, [])), (18513, (1, []))], some (false, ((-1), []))) as σ σ' τ o) : lw_pm_C a1 a2 x.toInt σ σ' := by
  unfold lw_pm_C
  have bM : 0 ≤ σ 12804 ∧ σ 12804 ≤ 8 := by
    have h0 := hb 12804
    rw [show sx_sr 12804 = (0, 8) from by decide +kernel] at h0
    exact h0
  obtain ⟨-, -, -, -, -, -, -, -, -, -, -, -, -, -, -, -, -, -, -, g19, g20, -, g22, -, g24⟩ := hG
  obtain ⟨hs, ht, hf, hr, hm, hw⟩ := hW
  have e1 : τ 19001 = a1 := by rw [ht 19001 (by decide) (by decide)]; exact h1
  have e2 : τ 19002 = a2 := by rw [ht 19002 (by decide) (by decide)]; exact h2
  have s133 : τ 133 = σ 133 := hs 133 (by decide)
  have s134 : τ 134 = σ 134 := hs 134 (by decide)
  have s10250 : τ 10250 = σ 10250 := hs 10250 (by decide)
  have s12804 : τ 12804 = σ 12804 := hs 12804 (by decide)
  have s12805 : τ 12805 = σ 12805 := hs 12805 (by decide)
  have s12814 : τ 12814 = σ 12814 := hs 12814 (by decide)
  have s18520 : τ 18520 = σ 18520 := hs 18520 (by decide)
  have s18521 : τ 18521 = σ 18521 := hs 18521 (by decide)
  have s18522 : τ 18522 = σ 18522 := hs 18522 (by decide)
  have s18523 : τ 18523 = σ 18523 := hs 18523 (by decide)
  have s18524 : τ 18524 = σ 18524 := hs 18524 (by decide)
  have s18525 : τ 18525 = σ 18525 := hs 18525 (by decide)
  have s18526 : τ 18526 = σ 18526 := hs 18526 (by decide)
  have s18527 : τ 18527 = σ 18527 := hs 18527 (by decide)
  have s18528 : τ 18528 = σ 18528 := hs 18528 (by decide)
  have s18529 : τ 18529 = σ 18529 := hs 18529 (by decide)
  have s18530 : τ 18530 = σ 18530 := hs 18530 (by decide)
  have s18531 : τ 18531 = σ 18531 := hs 18531 (by decide)
  have s18532 : τ 18532 = σ 18532 := hs 18532 (by decide)
  have s18533 : τ 18533 = σ 18533 := hs 18533 (by decide)
  have s18534 : τ 18534 = σ 18534 := hs 18534 (by decide)
  have s18535 : τ 18535 = σ 18535 := hs 18535 (by decide)
  clear ht hb h1 h2
  rw [hx] at hr
  clear hx
  obtain ⟨y, hy, hv⟩ := hr
  cases hy
  replace hv : x.toInt = (-1) + 0 := hv
  have sm : σ' 133 = σ 133 ∧ σ' 134 = σ 134 ∧ σ' 12805 = σ 12805 ∧ σ' 10250 = σ 10250 ∧ σ' 12814 = σ 12814 ∧ σ' 18520 = σ 18520 ∧ σ' 18521 = σ 18521 ∧ σ' 18522 = σ 18522 ∧ σ' 18523 = σ 18523 ∧ σ' 18524 = σ 18524 ∧ σ' 18525 = σ 18525 ∧ σ' 18526 = σ 18526 ∧ σ' 18527 = σ 18527 := ⟨lw_id s133 (hm 133 (by decide)), lw_id s134 (hm 134 (by decide)), lw_id s12805 (hm 12805 (by decide)), lw_id s10250 (hm 10250 (by decide)), lw_id s12814 (hm 12814 (by decide)), lw_id s18520 (hm 18520 (by decide)), lw_id s18521 (hm 18521 (by decide)), lw_id s18522 (hm 18522 (by decide)), lw_id s18523 (hm 18523 (by decide)), lw_id s18524 (hm 18524 (by decide)), lw_id s18525 (hm 18525 (by decide)), lw_id s18526 (hm 18526 (by decide)), lw_id s18527 (hm 18527 (by decide))⟩
  refine ⟨?_, sm⟩
  clear sm
  have f0 : 0 ≤ (-295) + (1 * τ 19001 + 0) := hf _ (List.Mem.head _)
  have f1 : 0 ≤ 497 + ((-1) * τ 19001 + 0) := hf _ (List.Mem.tail _ (List.Mem.head _))
  have f2 : 0 ≤ (-1) + ((-1) * τ 19002 + 0) := hf _ (List.Mem.tail _ (List.Mem.tail _ (List.Mem.head _)))
  refine Or.inl ⟨by omega, ⟨lw_id s12804 (hm 12804 (by decide)), lw_id s18528 (hm 18528 (by decide)), lw_id s18529 (hm 18529 (by decide)), lw_id s18530 (hm 18530 (by decide)), lw_id s18531 (hm 18531 (by decide)), lw_id s18532 (hm 18532 (by decide)), lw_id s18533 (hm 18533 (by decide)), lw_id s18534 (hm 18534 (by decide)), lw_id s18535 (hm 18535 (by decide))⟩, fun hok => ?_⟩
  obtain ⟨o1, o2, o3, o4, o5, o6⟩ := hok
  obtain ⟨z0, z1, z2, z3, z4, z5, z6, z7⟩ := o4
  omega
theorem lw_pm_112 {as : List rv_A} {σ σ' : Nat → Int} {o : rv_O} {x : Int32} {a1 a2 : Int} {A : Nat → Nat → Int} {τ : Nat → Int} (hx : o.1 = some (.inl x)) (h1 : lw_av as 1 = a1) (h2 : lw_av as 2 = a2) (hb : ∀ s, (sx_sr s).1 ≤ σ s ∧ σ s ≤ (sx_sr s).2) (hG : sx_GG σ' A) (hW : lw_W ([(18509, 1, 1099511627770), (18510, 0, 34359738367)], [((-295), [(19001, 1)]), (497, [(19001, (-1))]), ((-10), [(19002, 1)])], [(12800, (1, [])), (18509, (0, [(1000000, 1)])), (18510, (0, [(1000001, 1)])), (18511, (0, [(19001, 1)])), (18512, (0, [])), (18513, (1, []))], some (false, ((-1), []))) as σ σ' τ o) : lw_pm_C a1 a2 x.toInt σ σ' := by
  unfold lw_pm_C
  have bM : 0 ≤ σ 12804 ∧ σ 12804 ≤ 8 := by
    have h0 := hb 12804
    rw [show sx_sr 12804 = (0, 8) from by decide +kernel] at h0
    exact h0
  obtain ⟨-, -, -, -, -, -, -, -, -, -, -, -, -, -, -, -, -, -, -, g19, g20, -, g22, -, g24⟩ := hG
  obtain ⟨hs, ht, hf, hr, hm, hw⟩ := hW
  have e1 : τ 19001 = a1 := by rw [ht 19001 (by decide) (by decide)]; exact h1
  have e2 : τ 19002 = a2 := by rw [ht 19002 (by decide) (by decide)]; exact h2
  have s133 : τ 133 = σ 133 := hs 133 (by decide)
  have s134 : τ 134 = σ 134 := hs 134 (by decide)
  have s10250 : τ 10250 = σ 10250 := hs 10250 (by decide)
  have s12804 : τ 12804 = σ 12804 := hs 12804 (by decide)
  have s12805 : τ 12805 = σ 12805 := hs 12805 (by decide)
  have s12814 : τ 12814 = σ 12814 := hs 12814 (by decide)
  have s18520 : τ 18520 = σ 18520 := hs 18520 (by decide)
  have s18521 : τ 18521 = σ 18521 := hs 18521 (by decide)
  have s18522 : τ 18522 = σ 18522 := hs 18522 (by decide)
  have s18523 : τ 18523 = σ 18523 := hs 18523 (by decide)
  have s18524 : τ 18524 = σ 18524 := hs 18524 (by decide)
  have s18525 : τ 18525 = σ 18525 := hs 18525 (by decide)
  have s18526 : τ 18526 = σ 18526 := hs 18526 (by decide)
  have s18527 : τ 18527 = σ 18527 := hs 18527 (by decide)
  have s18528 : τ 18528 = σ 18528 := hs 18528 (by decide)
  have s18529 : τ 18529 = σ 18529 := hs 18529 (by decide)
  have s18530 : τ 18530 = σ 18530 := hs 18530 (by decide)
  have s18531 : τ 18531 = σ 18531 := hs 18531 (by decide)
  have s18532 : τ 18532 = σ 18532 := hs 18532 (by decide)
  have s18533 : τ 18533 = σ 18533 := hs 18533 (by decide)
  have s18534 : τ 18534 = σ 18534 := hs 18534 (by decide)
  have s18535 : τ 18535 = σ 18535 := hs 18535 (by decide)
  clear ht hb h1 h2
  rw [hx] at hr
  clear hx
  obtain ⟨y, hy, hv⟩ := hr
  cases hy
  replace hv : x.toInt = (-1) + 0 := hv
  have sm : σ' 133 = σ 133 ∧ σ' 134 = σ 134 ∧ σ' 12805 = σ 12805 ∧ σ' 10250 = σ 10250 ∧ σ' 12814 = σ 12814 ∧ σ' 18520 = σ 18520 ∧ σ' 18521 = σ 18521 ∧ σ' 18522 = σ 18522 ∧ σ' 18523 = σ 18523 ∧ σ' 18524 = σ 18524 ∧ σ' 18525 = σ 18525 ∧ σ' 18526 = σ 18526 ∧ σ' 18527 = σ 18527 := ⟨lw_id s133 (hm 133 (by decide)), lw_id s134 (hm 134 (by decide)), lw_id s12805 (hm 12805 (by decide)), lw_id s10250 (hm 10250 (by decide)), lw_id s12814 (hm 12814 (by decide)), lw_id s18520 (hm 18520 (by decide)), lw_id s18521 (hm 18521 (by decide)), lw_id s18522 (hm 18522 (by decide)), lw_id s18523 (hm 18523 (by decide)), lw_id s18524 (hm 18524 (by decide)), lw_id s18525 (hm 18525 (by decide)), lw_id s18526 (hm 18526 (by decide)), lw_id s18527 (hm 18527 (by decide))⟩
  refine ⟨?_, sm⟩
  clear sm
  have f0 : 0 ≤ (-295) + (1 * τ 19001 + 0) := hf _ (List.Mem.head _)
  have f1 : 0 ≤ 497 + ((-1) * τ 19001 + 0) := hf _ (List.Mem.tail _ (List.Mem.head _))
  have f2 : 0 ≤ (-10) + (1 * τ 19002 + 0) := hf _ (List.Mem.tail _ (List.Mem.tail _ (List.Mem.head _)))
  refine Or.inl ⟨by omega, ⟨lw_id s12804 (hm 12804 (by decide)), lw_id s18528 (hm 18528 (by decide)), lw_id s18529 (hm 18529 (by decide)), lw_id s18530 (hm 18530 (by decide)), lw_id s18531 (hm 18531 (by decide)), lw_id s18532 (hm 18532 (by decide)), lw_id s18533 (hm 18533 (by decide)), lw_id s18534 (hm 18534 (by decide)), lw_id s18535 (hm 18535 (by decide))⟩, fun hok => ?_⟩
  obtain ⟨o1, o2, o3, o4, o5, o6⟩ := hok
  obtain ⟨z0, z1, z2, z3, z4, z5, z6, z7⟩ := o4
  omega
theorem lw_pm_113 {as : List rv_A} {σ σ' : Nat → Int} {o : rv_O} {x : Int32} {a1 a2 : Int} {A : Nat → Nat → Int} {τ : Nat → Int} (hx : o.1 = some (.inl x)) (h1 : lw_av as 1 = a1) (h2 : lw_av as 2 = a2) (hb : ∀ s, (sx_sr s).1 ≤ σ s ∧ σ s ≤ (sx_sr s).2) (hG : sx_GG σ' A) (hW : lw_W ([(18509, 1, 1099511627770), (18510, 0, 34359738367)], [((-498), [(19001, 1)]), (498, [(19001, (-1))])], [(12800, (1, [])), (18509, (0, [(1000000, 1)])), (18510, (0, [(1000001, 1)])), (18511, (0, [(19001, 1)])), (18512, (0, [])), (18513, (1, []))], some (false, ((-1), []))) as σ σ' τ o) : lw_pm_C a1 a2 x.toInt σ σ' := by
  unfold lw_pm_C
  have bM : 0 ≤ σ 12804 ∧ σ 12804 ≤ 8 := by
    have h0 := hb 12804
    rw [show sx_sr 12804 = (0, 8) from by decide +kernel] at h0
    exact h0
  obtain ⟨-, -, -, -, -, -, -, -, -, -, -, -, -, -, -, -, -, -, -, g19, g20, -, g22, -, g24⟩ := hG
  obtain ⟨hs, ht, hf, hr, hm, hw⟩ := hW
  have e1 : τ 19001 = a1 := by rw [ht 19001 (by decide) (by decide)]; exact h1
  have e2 : τ 19002 = a2 := by rw [ht 19002 (by decide) (by decide)]; exact h2
  have s133 : τ 133 = σ 133 := hs 133 (by decide)
  have s134 : τ 134 = σ 134 := hs 134 (by decide)
  have s10250 : τ 10250 = σ 10250 := hs 10250 (by decide)
  have s12804 : τ 12804 = σ 12804 := hs 12804 (by decide)
  have s12805 : τ 12805 = σ 12805 := hs 12805 (by decide)
  have s12814 : τ 12814 = σ 12814 := hs 12814 (by decide)
  have s18520 : τ 18520 = σ 18520 := hs 18520 (by decide)
  have s18521 : τ 18521 = σ 18521 := hs 18521 (by decide)
  have s18522 : τ 18522 = σ 18522 := hs 18522 (by decide)
  have s18523 : τ 18523 = σ 18523 := hs 18523 (by decide)
  have s18524 : τ 18524 = σ 18524 := hs 18524 (by decide)
  have s18525 : τ 18525 = σ 18525 := hs 18525 (by decide)
  have s18526 : τ 18526 = σ 18526 := hs 18526 (by decide)
  have s18527 : τ 18527 = σ 18527 := hs 18527 (by decide)
  have s18528 : τ 18528 = σ 18528 := hs 18528 (by decide)
  have s18529 : τ 18529 = σ 18529 := hs 18529 (by decide)
  have s18530 : τ 18530 = σ 18530 := hs 18530 (by decide)
  have s18531 : τ 18531 = σ 18531 := hs 18531 (by decide)
  have s18532 : τ 18532 = σ 18532 := hs 18532 (by decide)
  have s18533 : τ 18533 = σ 18533 := hs 18533 (by decide)
  have s18534 : τ 18534 = σ 18534 := hs 18534 (by decide)
  have s18535 : τ 18535 = σ 18535 := hs 18535 (by decide)
  clear ht hb h1 h2
  rw [hx] at hr
  clear hx
  obtain ⟨y, hy, hv⟩ := hr
  cases hy
  replace hv : x.toInt = (-1) + 0 := hv
  have sm : σ' 133 = σ 133 ∧ σ' 134 = σ 134 ∧ σ' 12805 = σ 12805 ∧ σ' 10250 = σ 10250 ∧ σ' 12814 = σ 12814 ∧ σ' 18520 = σ 18520 ∧ σ' 18521 = σ 18521 ∧ σ' 18522 = σ 18522 ∧ σ' 18523 = σ 18523 ∧ σ' 18524 = σ 18524 ∧ σ' 18525 = σ 18525 ∧ σ' 18526 = σ 18526 ∧ σ' 18527 = σ 18527 := ⟨lw_id s133 (hm 133 (by decide)), lw_id s134 (hm 134 (by decide)), lw_id s12805 (hm 12805 (by decide)), lw_id s10250 (hm 10250 (by decide)), lw_id s12814 (hm 12814 (by decide)), lw_id s18520 (hm 18520 (by decide)), lw_id s18521 (hm 18521 (by decide)), lw_id s18522 (hm 18522 (by decide)), lw_id s18523 (hm 18523 (by decide)), lw_id s18524 (hm 18524 (by decide)), lw_id s18525 (hm 18525 (by decide)), lw_id s18526 (hm 18526 (by decide)), lw_id s18527 (hm 18527 (by decide))⟩
  refine ⟨?_, sm⟩
  clear sm
  have f0 : 0 ≤ (-498) + (1 * τ 19001 + 0) := hf _ (List.Mem.head _)
  have f1 : 0 ≤ 498 + ((-1) * τ 19001 + 0) := hf _ (List.Mem.tail _ (List.Mem.head _))
  refine Or.inl ⟨by omega, ⟨lw_id s12804 (hm 12804 (by decide)), lw_id s18528 (hm 18528 (by decide)), lw_id s18529 (hm 18529 (by decide)), lw_id s18530 (hm 18530 (by decide)), lw_id s18531 (hm 18531 (by decide)), lw_id s18532 (hm 18532 (by decide)), lw_id s18533 (hm 18533 (by decide)), lw_id s18534 (hm 18534 (by decide)), lw_id s18535 (hm 18535 (by decide))⟩, fun hok => ?_⟩
  obtain ⟨o1, o2, o3, o4, o5, o6⟩ := hok
  obtain ⟨z0, z1, z2, z3, z4, z5, z6, z7⟩ := o4
  omega
theorem lw_pm_114 {as : List rv_A} {σ σ' : Nat → Int} {o : rv_O} {x : Int32} {a1 a2 : Int} {A : Nat → Nat → Int} {τ : Nat → Int} (hx : o.1 = some (.inl x)) (h1 : lw_av as 1 = a1) (h2 : lw_av as 2 = a2) (hb : ∀ s, (sx_sr s).1 ≤ σ s ∧ σ s ≤ (sx_sr s).2) (hG : sx_GG σ' A) (hW : lw_W ([(18509, 1, 1099511627770), (18510, 0, 34359738367)], [((-499), [(19001, 1)]), (1155, [(19001, (-1))]), ((-1), [(19002, (-1))])], [(12800, (1, [])), (18509, (0, [(1000000, 1)])), (18510, (0, [(1000001, 1)])), (18511, (0, [(19001, 1)])), (18512, (0, [])), (18513, (1, []))], some (false, ((-1), []))) as σ σ' τ o) : lw_pm_C a1 a2 x.toInt σ σ' := by
  unfold lw_pm_C
  have bM : 0 ≤ σ 12804 ∧ σ 12804 ≤ 8 := by
    have h0 := hb 12804
    rw [show sx_sr 12804 = (0, 8) from by decide +kernel] at h0
    exact h0
  obtain ⟨-, -, -, -, -, -, -, -, -, -, -, -, -, -, -, -, -, -, -, g19, g20, -, g22, -, g24⟩ := hG
  obtain ⟨hs, ht, hf, hr, hm, hw⟩ := hW
  have e1 : τ 19001 = a1 := by rw [ht 19001 (by decide) (by decide)]; exact h1
  have e2 : τ 19002 = a2 := by rw [ht 19002 (by decide) (by decide)]; exact h2
  have s133 : τ 133 = σ 133 := hs 133 (by decide)
  have s134 : τ 134 = σ 134 := hs 134 (by decide)
  have s10250 : τ 10250 = σ 10250 := hs 10250 (by decide)
  have s12804 : τ 12804 = σ 12804 := hs 12804 (by decide)
  have s12805 : τ 12805 = σ 12805 := hs 12805 (by decide)
  have s12814 : τ 12814 = σ 12814 := hs 12814 (by decide)
  have s18520 : τ 18520 = σ 18520 := hs 18520 (by decide)
  have s18521 : τ 18521 = σ 18521 := hs 18521 (by decide)
  have s18522 : τ 18522 = σ 18522 := hs 18522 (by decide)
  have s18523 : τ 18523 = σ 18523 := hs 18523 (by decide)
  have s18524 : τ 18524 = σ 18524 := hs 18524 (by decide)
  have s18525 : τ 18525 = σ 18525 := hs 18525 (by decide)
  have s18526 : τ 18526 = σ 18526 := hs 18526 (by decide)
  have s18527 : τ 18527 = σ 18527 := hs 18527 (by decide)
  have s18528 : τ 18528 = σ 18528 := hs 18528 (by decide)
  have s18529 : τ 18529 = σ 18529 := hs 18529 (by decide)
  have s18530 : τ 18530 = σ 18530 := hs 18530 (by decide)
  have s18531 : τ 18531 = σ 18531 := hs 18531 (by decide)
  have s18532 : τ 18532 = σ 18532 := hs 18532 (by decide)
  have s18533 : τ 18533 = σ 18533 := hs 18533 (by decide)
  have s18534 : τ 18534 = σ 18534 := hs 18534 (by decide)
  have s18535 : τ 18535 = σ 18535 := hs 18535 (by decide)
  clear ht hb h1 h2
  rw [hx] at hr
  clear hx
  obtain ⟨y, hy, hv⟩ := hr
  cases hy
  replace hv : x.toInt = (-1) + 0 := hv
  have sm : σ' 133 = σ 133 ∧ σ' 134 = σ 134 ∧ σ' 12805 = σ 12805 ∧ σ' 10250 = σ 10250 ∧ σ' 12814 = σ 12814 ∧ σ' 18520 = σ 18520 ∧ σ' 18521 = σ 18521 ∧ σ' 18522 = σ 18522 ∧ σ' 18523 = σ 18523 ∧ σ' 18524 = σ 18524 ∧ σ' 18525 = σ 18525 ∧ σ' 18526 = σ 18526 ∧ σ' 18527 = σ 18527 := ⟨lw_id s133 (hm 133 (by decide)), lw_id s134 (hm 134 (by decide)), lw_id s12805 (hm 12805 (by decide)), lw_id s10250 (hm 10250 (by decide)), lw_id s12814 (hm 12814 (by decide)), lw_id s18520 (hm 18520 (by decide)), lw_id s18521 (hm 18521 (by decide)), lw_id s18522 (hm 18522 (by decide)), lw_id s18523 (hm 18523 (by decide)), lw_id s18524 (hm 18524 (by decide)), lw_id s18525 (hm 18525 (by decide)), lw_id s18526 (hm 18526 (by decide)), lw_id s18527 (hm 18527 (by decide))⟩
  refine ⟨?_, sm⟩
  clear sm
  have f0 : 0 ≤ (-499) + (1 * τ 19001 + 0) := hf _ (List.Mem.head _)
  have f1 : 0 ≤ 1155 + ((-1) * τ 19001 + 0) := hf _ (List.Mem.tail _ (List.Mem.head _))
  have f2 : 0 ≤ (-1) + ((-1) * τ 19002 + 0) := hf _ (List.Mem.tail _ (List.Mem.tail _ (List.Mem.head _)))
  refine Or.inl ⟨by omega, ⟨lw_id s12804 (hm 12804 (by decide)), lw_id s18528 (hm 18528 (by decide)), lw_id s18529 (hm 18529 (by decide)), lw_id s18530 (hm 18530 (by decide)), lw_id s18531 (hm 18531 (by decide)), lw_id s18532 (hm 18532 (by decide)), lw_id s18533 (hm 18533 (by decide)), lw_id s18534 (hm 18534 (by decide)), lw_id s18535 (hm 18535 (by decide))⟩, fun hok => ?_⟩
  obtain ⟨o1, o2, o3, o4, o5, o6⟩ := hok
  obtain ⟨z0, z1, z2, z3, z4, z5, z6, z7⟩ := o4
  omega
theorem lw_pm_115 {as : List rv_A} {σ σ' : Nat → Int} {o : rv_O} {x : Int32} {a1 a2 : Int} {A : Nat → Nat → Int} {τ : Nat → Int} (hx : o.1 = some (.inl x)) (h1 : lw_av as 1 = a1) (h2 : lw_av as 2 = a2) (hb : ∀ s, (sx_sr s).1 ≤ σ s ∧ σ s ≤ (sx_sr s).2) (hG : sx_GG σ' A) (hW : lw_W ([(18509, 1, 1099511627770), (18510, 0, 34359738367)], [((-499), [(19001, 1)]), (1155, [(19001, (-1))]), ((-10), [(19002, 1)])], [(12800, (1, [])), (18509, (0, [(1000000, 1)])), (18510, (0, [(1000001, 1)])), (18511, (0, [(19001, 1)])), (18512, (0, [])), (18513, (1, []))], some (false, ((-1), []))) as σ σ' τ o) : lw_pm_C a1 a2 x.toInt σ σ' := by
  unfold lw_pm_C
  have bM : 0 ≤ σ 12804 ∧ σ 12804 ≤ 8 := by
    have h0 := hb 12804
    rw [show sx_sr 12804 = (0, 8) from by decide +kernel] at h0
    exact h0
  obtain ⟨-, -, -, -, -, -, -, -, -, -, -, -, -, -, -, -, -, -, -, g19, g20, -, g22, -, g24⟩ := hG
  obtain ⟨hs, ht, hf, hr, hm, hw⟩ := hW
  have e1 : τ 19001 = a1 := by rw [ht 19001 (by decide) (by decide)]; exact h1
  have e2 : τ 19002 = a2 := by rw [ht 19002 (by decide) (by decide)]; exact h2
  have s133 : τ 133 = σ 133 := hs 133 (by decide)
  have s134 : τ 134 = σ 134 := hs 134 (by decide)
  have s10250 : τ 10250 = σ 10250 := hs 10250 (by decide)
  have s12804 : τ 12804 = σ 12804 := hs 12804 (by decide)
  have s12805 : τ 12805 = σ 12805 := hs 12805 (by decide)
  have s12814 : τ 12814 = σ 12814 := hs 12814 (by decide)
  have s18520 : τ 18520 = σ 18520 := hs 18520 (by decide)
  have s18521 : τ 18521 = σ 18521 := hs 18521 (by decide)
  have s18522 : τ 18522 = σ 18522 := hs 18522 (by decide)
  have s18523 : τ 18523 = σ 18523 := hs 18523 (by decide)
  have s18524 : τ 18524 = σ 18524 := hs 18524 (by decide)
  have s18525 : τ 18525 = σ 18525 := hs 18525 (by decide)
  have s18526 : τ 18526 = σ 18526 := hs 18526 (by decide)
  have s18527 : τ 18527 = σ 18527 := hs 18527 (by decide)
  have s18528 : τ 18528 = σ 18528 := hs 18528 (by decide)
  have s18529 : τ 18529 = σ 18529 := hs 18529 (by decide)
  have s18530 : τ 18530 = σ 18530 := hs 18530 (by decide)
  have s18531 : τ 18531 = σ 18531 := hs 18531 (by decide)
  have s18532 : τ 18532 = σ 18532 := hs 18532 (by decide)
  have s18533 : τ 18533 = σ 18533 := hs 18533 (by decide)
  have s18534 : τ 18534 = σ 18534 := hs 18534 (by decide)
  have s18535 : τ 18535 = σ 18535 := hs 18535 (by decide)
  clear ht hb h1 h2
  rw [hx] at hr
  clear hx
  obtain ⟨y, hy, hv⟩ := hr
  cases hy
  replace hv : x.toInt = (-1) + 0 := hv
  have sm : σ' 133 = σ 133 ∧ σ' 134 = σ 134 ∧ σ' 12805 = σ 12805 ∧ σ' 10250 = σ 10250 ∧ σ' 12814 = σ 12814 ∧ σ' 18520 = σ 18520 ∧ σ' 18521 = σ 18521 ∧ σ' 18522 = σ 18522 ∧ σ' 18523 = σ 18523 ∧ σ' 18524 = σ 18524 ∧ σ' 18525 = σ 18525 ∧ σ' 18526 = σ 18526 ∧ σ' 18527 = σ 18527 := ⟨lw_id s133 (hm 133 (by decide)), lw_id s134 (hm 134 (by decide)), lw_id s12805 (hm 12805 (by decide)), lw_id s10250 (hm 10250 (by decide)), lw_id s12814 (hm 12814 (by decide)), lw_id s18520 (hm 18520 (by decide)), lw_id s18521 (hm 18521 (by decide)), lw_id s18522 (hm 18522 (by decide)), lw_id s18523 (hm 18523 (by decide)), lw_id s18524 (hm 18524 (by decide)), lw_id s18525 (hm 18525 (by decide)), lw_id s18526 (hm 18526 (by decide)), lw_id s18527 (hm 18527 (by decide))⟩
  refine ⟨?_, sm⟩
  clear sm
  have f0 : 0 ≤ (-499) + (1 * τ 19001 + 0) := hf _ (List.Mem.head _)
  have f1 : 0 ≤ 1155 + ((-1) * τ 19001 + 0) := hf _ (List.Mem.tail _ (List.Mem.head _))
  have f2 : 0 ≤ (-10) + (1 * τ 19002 + 0) := hf _ (List.Mem.tail _ (List.Mem.tail _ (List.Mem.head _)))
  refine Or.inl ⟨by omega, ⟨lw_id s12804 (hm 12804 (by decide)), lw_id s18528 (hm 18528 (by decide)), lw_id s18529 (hm 18529 (by decide)), lw_id s18530 (hm 18530 (by decide)), lw_id s18531 (hm 18531 (by decide)), lw_id s18532 (hm 18532 (by decide)), lw_id s18533 (hm 18533 (by decide)), lw_id s18534 (hm 18534 (by decide)), lw_id s18535 (hm 18535 (by decide))⟩, fun hok => ?_⟩
  obtain ⟨o1, o2, o3, o4, o5, o6⟩ := hok
  obtain ⟨z0, z1, z2, z3, z4, z5, z6, z7⟩ := o4
  omega
theorem lw_pm_116 {as : List rv_A} {σ σ' : Nat → Int} {o : rv_O} {x : Int32} {a1 a2 : Int} {A : Nat → Nat → Int} {τ : Nat → Int} (hx : o.1 = some (.inl x)) (h1 : lw_av as 1 = a1) (h2 : lw_av as 2 = a2) (hb : ∀ s, (sx_sr s).1 ≤ σ s ∧ σ s ≤ (sx_sr s).2) (hG : sx_GG σ' A) (hW : lw_W ([(18509, 1, 1099511627770), (18510, 0, 34359738367)], [((-632645), [(19001, 1)]), (632645, [(19001, (-1))])], [(12800, (1, [])), (18509, (0, [(1000000, 1)])), (18510, (0, [(1000001, 1)])), (18511, (0, [(19001, 1)])), (18512, (0, [])), (18513, (1, []))], some (false, ((-1), []))) as σ σ' τ o) : lw_pm_C a1 a2 x.toInt σ σ' := by
  unfold lw_pm_C
  have bM : 0 ≤ σ 12804 ∧ σ 12804 ≤ 8 := by
    have h0 := hb 12804
    rw [show sx_sr 12804 = (0, 8) from by decide +kernel] at h0
    exact h0
  obtain ⟨-, -, -, -, -, -, -, -, -, -, -, -, -, -, -, -, -, -, -, g19, g20, -, g22, -, g24⟩ := hG
  obtain ⟨hs, ht, hf, hr, hm, hw⟩ := hW
  have e1 : τ 19001 = a1 := by rw [ht 19001 (by decide) (by decide)]; exact h1
  have e2 : τ 19002 = a2 := by rw [ht 19002 (by decide) (by decide)]; exact h2
  have s133 : τ 133 = σ 133 := hs 133 (by decide)
  have s134 : τ 134 = σ 134 := hs 134 (by decide)
  have s10250 : τ 10250 = σ 10250 := hs 10250 (by decide)
  have s12804 : τ 12804 = σ 12804 := hs 12804 (by decide)
  have s12805 : τ 12805 = σ 12805 := hs 12805 (by decide)
  have s12814 : τ 12814 = σ 12814 := hs 12814 (by decide)
  have s18520 : τ 18520 = σ 18520 := hs 18520 (by decide)
  have s18521 : τ 18521 = σ 18521 := hs 18521 (by decide)
  have s18522 : τ 18522 = σ 18522 := hs 18522 (by decide)
  have s18523 : τ 18523 = σ 18523 := hs 18523 (by decide)
  have s18524 : τ 18524 = σ 18524 := hs 18524 (by decide)
  have s18525 : τ 18525 = σ 18525 := hs 18525 (by decide)
  have s18526 : τ 18526 = σ 18526 := hs 18526 (by decide)
  have s18527 : τ 18527 = σ 18527 := hs 18527 (by decide)
  have s18528 : τ 18528 = σ 18528 := hs 18528 (by decide)
  have s18529 : τ 18529 = σ 18529 := hs 18529 (by decide)
  have s18530 : τ 18530 = σ 18530 := hs 18530 (by decide)
  have s18531 : τ 18531 = σ 18531 := hs 18531 (by decide)
  have s18532 : τ 18532 = σ 18532 := hs 18532 (by decide)
  have s18533 : τ 18533 = σ 18533 := hs 18533 (by decide)
  have s18534 : τ 18534 = σ 18534 := hs 18534 (by decide)
  have s18535 : τ 18535 = σ 18535 := hs 18535 (by decide)
  clear ht hb h1 h2
  rw [hx] at hr
  clear hx
  obtain ⟨y, hy, hv⟩ := hr
  cases hy
  replace hv : x.toInt = (-1) + 0 := hv
  have sm : σ' 133 = σ 133 ∧ σ' 134 = σ 134 ∧ σ' 12805 = σ 12805 ∧ σ' 10250 = σ 10250 ∧ σ' 12814 = σ 12814 ∧ σ' 18520 = σ 18520 ∧ σ' 18521 = σ 18521 ∧ σ' 18522 = σ 18522 ∧ σ' 18523 = σ 18523 ∧ σ' 18524 = σ 18524 ∧ σ' 18525 = σ 18525 ∧ σ' 18526 = σ 18526 ∧ σ' 18527 = σ 18527 := ⟨lw_id s133 (hm 133 (by decide)), lw_id s134 (hm 134 (by decide)), lw_id s12805 (hm 12805 (by decide)), lw_id s10250 (hm 10250 (by decide)), lw_id s12814 (hm 12814 (by decide)), lw_id s18520 (hm 18520 (by decide)), lw_id s18521 (hm 18521 (by decide)), lw_id s18522 (hm 18522 (by decide)), lw_id s18523 (hm 18523 (by decide)), lw_id s18524 (hm 18524 (by decide)), lw_id s18525 (hm 18525 (by decide)), lw_id s18526 (hm 18526 (by decide)), lw_id s18527 (hm 18527 (by decide))⟩
  refine ⟨?_, sm⟩
  clear sm
  have f0 : 0 ≤ (-632645) + (1 * τ 19001 + 0) := hf _ (List.Mem.head _)
  have f1 : 0 ≤ 632645 + ((-1) * τ 19001 + 0) := hf _ (List.Mem.tail _ (List.Mem.head _))
  refine Or.inl ⟨by omega, ⟨lw_id s12804 (hm 12804 (by decide)), lw_id s18528 (hm 18528 (by decide)), lw_id s18529 (hm 18529 (by decide)), lw_id s18530 (hm 18530 (by decide)), lw_id s18531 (hm 18531 (by decide)), lw_id s18532 (hm 18532 (by decide)), lw_id s18533 (hm 18533 (by decide)), lw_id s18534 (hm 18534 (by decide)), lw_id s18535 (hm 18535 (by decide))⟩, fun hok => ?_⟩
  obtain ⟨o1, o2, o3, o4, o5, o6⟩ := hok
  obtain ⟨z0, z1, z2, z3, z4, z5, z6, z7⟩ := o4
  omega
theorem lw_pm_117 {as : List rv_A} {σ σ' : Nat → Int} {o : rv_O} {x : Int32} {a1 a2 : Int} {A : Nat → Nat → Int} {τ : Nat → Int} (hx : o.1 = some (.inl x)) (h1 : lw_av as 1 = a1) (h2 : lw_av as 2 = a2) (hb : ∀ s, (sx_sr s).1 ≤ σ s ∧ σ s ≤ (sx_sr s).2) (hG : sx_GG σ' A) (hW : lw_W ([(18509, 1, 1099511627770), (18510, 0, 34359738367)], [((-632646), [(19001, 1)]), (1099511627770, [(19001, (-1))]), ((-1), [(19002, (-1))])], [(12800, (1, [])), (18509, (0, [(1000000, 1)])), (18510, (0, [(1000001, 1)])), (18511, (0, [(19001, 1)])), (18512, (0, [])), (18513, (1, []))], some (false, ((-1), []))) as σ σ' τ o) : lw_pm_C a1 a2 x.toInt σ σ' := by
  unfold lw_pm_C
  have bM : 0 ≤ σ 12804 ∧ σ 12804 ≤ 8 := by
    have h0 := hb 12804
    rw [show sx_sr 12804 = (0, 8) from by decide +kernel] at h0
    exact h0
  obtain ⟨-, -, -, -, -, -, -, -, -, -, -, -, -, -, -, -, -, -, -, g19, g20, -, g22, -, g24⟩ := hG
  obtain ⟨hs, ht, hf, hr, hm, hw⟩ := hW
  have e1 : τ 19001 = a1 := by rw [ht 19001 (by decide) (by decide)]; exact h1
  have e2 : τ 19002 = a2 := by rw [ht 19002 (by decide) (by decide)]; exact h2
  have s133 : τ 133 = σ 133 := hs 133 (by decide)
  have s134 : τ 134 = σ 134 := hs 134 (by decide)
  have s10250 : τ 10250 = σ 10250 := hs 10250 (by decide)
  have s12804 : τ 12804 = σ 12804 := hs 12804 (by decide)
  have s12805 : τ 12805 = σ 12805 := hs 12805 (by decide)
  have s12814 : τ 12814 = σ 12814 := hs 12814 (by decide)
  have s18520 : τ 18520 = σ 18520 := hs 18520 (by decide)
  have s18521 : τ 18521 = σ 18521 := hs 18521 (by decide)
  have s18522 : τ 18522 = σ 18522 := hs 18522 (by decide)
  have s18523 : τ 18523 = σ 18523 := hs 18523 (by decide)
  have s18524 : τ 18524 = σ 18524 := hs 18524 (by decide)
  have s18525 : τ 18525 = σ 18525 := hs 18525 (by decide)
  have s18526 : τ 18526 = σ 18526 := hs 18526 (by decide)
  have s18527 : τ 18527 = σ 18527 := hs 18527 (by decide)
  have s18528 : τ 18528 = σ 18528 := hs 18528 (by decide)
  have s18529 : τ 18529 = σ 18529 := hs 18529 (by decide)
  have s18530 : τ 18530 = σ 18530 := hs 18530 (by decide)
  have s18531 : τ 18531 = σ 18531 := hs 18531 (by decide)
  have s18532 : τ 18532 = σ 18532 := hs 18532 (by decide)
  have s18533 : τ 18533 = σ 18533 := hs 18533 (by decide)
  have s18534 : τ 18534 = σ 18534 := hs 18534 (by decide)
  have s18535 : τ 18535 = σ 18535 := hs 18535 (by decide)
  clear ht hb h1 h2
  rw [hx] at hr
  clear hx
  obtain ⟨y, hy, hv⟩ := hr
  cases hy
  replace hv : x.toInt = (-1) + 0 := hv
  have sm : σ' 133 = σ 133 ∧ σ' 134 = σ 134 ∧ σ' 12805 = σ 12805 ∧ σ' 10250 = σ 10250 ∧ σ' 12814 = σ 12814 ∧ σ' 18520 = σ 18520 ∧ σ' 18521 = σ 18521 ∧ σ' 18522 = σ 18522 ∧ σ' 18523 = σ 18523 ∧ σ' 18524 = σ 18524 ∧ σ' 18525 = σ 18525 ∧ σ' 18526 = σ 18526 ∧ σ' 18527 = σ 18527 := ⟨lw_id s133 (hm 133 (by decide)), lw_id s134 (hm 134 (by decide)), lw_id s12805 (hm 12805 (by decide)), lw_id s10250 (hm 10250 (by decide)), lw_id s12814 (hm 12814 (by decide)), lw_id s18520 (hm 18520 (by decide)), lw_id s18521 (hm 18521 (by decide)), lw_id s18522 (hm 18522 (by decide)), lw_id s18523 (hm 18523 (by decide)), lw_id s18524 (hm 18524 (by decide)), lw_id s18525 (hm 18525 (by decide)), lw_id s18526 (hm 18526 (by decide)), lw_id s18527 (hm 18527 (by decide))⟩
  refine ⟨?_, sm⟩
  clear sm
  have f0 : 0 ≤ (-632646) + (1 * τ 19001 + 0) := hf _ (List.Mem.head _)
  have f1 : 0 ≤ 1099511627770 + ((-1) * τ 19001 + 0) := hf _ (List.Mem.tail _ (List.Mem.head _))
  have f2 : 0 ≤ (-1) + ((-1) * τ 19002 + 0) := hf _ (List.Mem.tail _ (List.Mem.tail _ (List.Mem.head _)))
  refine Or.inl ⟨by omega, ⟨lw_id s12804 (hm 12804 (by decide)), lw_id s18528 (hm 18528 (by decide)), lw_id s18529 (hm 18529 (by decide)), lw_id s18530 (hm 18530 (by decide)), lw_id s18531 (hm 18531 (by decide)), lw_id s18532 (hm 18532 (by decide)), lw_id s18533 (hm 18533 (by decide)), lw_id s18534 (hm 18534 (by decide)), lw_id s18535 (hm 18535 (by decide))⟩, fun hok => ?_⟩
  obtain ⟨o1, o2, o3, o4, o5, o6⟩ := hok
  obtain ⟨z0, z1, z2, z3, z4, z5, z6, z7⟩ := o4
  omega
theorem lw_pm_118 {as : List rv_A} {σ σ' : Nat → Int} {o : rv_O} {x : Int32} {a1 a2 : Int} {A : Nat → Nat → Int} {τ : Nat → Int} (hx : o.1 = some (.inl x)) (h1 : lw_av as 1 = a1) (h2 : lw_av as 2 = a2) (hb : ∀ s, (sx_sr s).1 ≤ σ s ∧ σ s ≤ (sx_sr s).2) (hG : sx_GG σ' A) (hW : lw_W ([(18509, 1, 1099511627770), (18510, 0, 34359738367)], [((-632646), [(19001, 1)]), (1099511627770, [(19001, (-1))]), ((-10), [(19002, 1)])], [(12800, (1, [])), (18509, (0, [(1000000, 1)])), (18510, (0, [(1000001, 1)])), (18511, (0, [(19001, 1)])), (18512, (0, [])), (18513, (1, []))], some (false, ((-1), []))) as σ σ' τ o) : lw_pm_C a1 a2 x.toInt σ σ' := by
  unfold lw_pm_C
  have bM : 0 ≤ σ 12804 ∧ σ 12804 ≤ 8 := by
    have h0 := hb 12804
    rw [show sx_sr 12804 = (0, 8) from by decide +kernel] at h0
    exact h0
  obtain ⟨-, -, -, -, -, -, -, -, -, -, -, -, -, -, -, -, -, -, -, g19, g20, -, g22, -, g24⟩ := hG
  obtain ⟨hs, ht, hf, hr, hm, hw⟩ := hW
  have e1 : τ 19001 = a1 := by rw [ht 19001 (by decide) (by decide)]; exact h1
  have e2 : τ 19002 = a2 := by rw [ht 19002 (by decide) (by decide)]; exact h2
  have s133 : τ 133 = σ 133 := hs 133 (by decide)
  have s134 : τ 134 = σ 134 := hs 134 (by decide)
  have s10250 : τ 10250 = σ 10250 := hs 10250 (by decide)
  have s12804 : τ 12804 = σ 12804 := hs 12804 (by decide)
  have s12805 : τ 12805 = σ 12805 := hs 12805 (by decide)
  have s12814 : τ 12814 = σ 12814 := hs 12814 (by decide)
  have s18520 : τ 18520 = σ 18520 := hs 18520 (by decide)
  have s18521 : τ 18521 = σ 18521 := hs 18521 (by decide)
  have s18522 : τ 18522 = σ 18522 := hs 18522 (by decide)
  have s18523 : τ 18523 = σ 18523 := hs 18523 (by decide)
  have s18524 : τ 18524 = σ 18524 := hs 18524 (by decide)
  have s18525 : τ 18525 = σ 18525 := hs 18525 (by decide)
  have s18526 : τ 18526 = σ 18526 := hs 18526 (by decide)
  have s18527 : τ 18527 = σ 18527 := hs 18527 (by decide)
  have s18528 : τ 18528 = σ 18528 := hs 18528 (by decide)
  have s18529 : τ 18529 = σ 18529 := hs 18529 (by decide)
  have s18530 : τ 18530 = σ 18530 := hs 18530 (by decide)
  have s18531 : τ 18531 = σ 18531 := hs 18531 (by decide)
  have s18532 : τ 18532 = σ 18532 := hs 18532 (by decide)
  have s18533 : τ 18533 = σ 18533 := hs 18533 (by decide)
  have s18534 : τ 18534 = σ 18534 := hs 18534 (by decide)
  have s18535 : τ 18535 = σ 18535 := hs 18535 (by decide)
  clear ht hb h1 h2
  rw [hx] at hr
  clear hx
  obtain ⟨y, hy, hv⟩ := hr
  cases hy
  replace hv : x.toInt = (-1) + 0 := hv
  have sm : σ' 133 = σ 133 ∧ σ' 134 = σ 134 ∧ σ' 12805 = σ 12805 ∧ σ' 10250 = σ 10250 ∧ σ' 12814 = σ 12814 ∧ σ' 18520 = σ 18520 ∧ σ' 18521 = σ 18521 ∧ σ' 18522 = σ 18522 ∧ σ' 18523 = σ 18523 ∧ σ' 18524 = σ 18524 ∧ σ' 18525 = σ 18525 ∧ σ' 18526 = σ 18526 ∧ σ' 18527 = σ 18527 := ⟨lw_id s133 (hm 133 (by decide)), lw_id s134 (hm 134 (by decide)), lw_id s12805 (hm 12805 (by decide)), lw_id s10250 (hm 10250 (by decide)), lw_id s12814 (hm 12814 (by decide)), lw_id s18520 (hm 18520 (by decide)), lw_id s18521 (hm 18521 (by decide)), lw_id s18522 (hm 18522 (by decide)), lw_id s18523 (hm 18523 (by decide)), lw_id s18524 (hm 18524 (by decide)), lw_id s18525 (hm 18525 (by decide)), lw_id s18526 (hm 18526 (by decide)), lw_id s18527 (hm 18527 (by decide))⟩
  refine ⟨?_, sm⟩
  clear sm
  have f0 : 0 ≤ (-632646) + (1 * τ 19001 + 0) := hf _ (List.Mem.head _)
  have f1 : 0 ≤ 1099511627770 + ((-1) * τ 19001 + 0) := hf _ (List.Mem.tail _ (List.Mem.head _))
  have f2 : 0 ≤ (-10) + (1 * τ 19002 + 0) := hf _ (List.Mem.tail _ (List.Mem.tail _ (List.Mem.head _)))
  refine Or.inl ⟨by omega, ⟨lw_id s12804 (hm 12804 (by decide)), lw_id s18528 (hm 18528 (by decide)), lw_id s18529 (hm 18529 (by decide)), lw_id s18530 (hm 18530 (by decide)), lw_id s18531 (hm 18531 (by decide)), lw_id s18532 (hm 18532 (by decide)), lw_id s18533 (hm 18533 (by decide)), lw_id s18534 (hm 18534 (by decide)), lw_id s18535 (hm 18535 (by decide))⟩, fun hok => ?_⟩
  obtain ⟨o1, o2, o3, o4, o5, o6⟩ := hok
  obtain ⟨z0, z1, z2, z3, z4, z5, z6, z7⟩ := o4
  omega
set_option maxHeartbeats 4000000 in
theorem lw_pm {as : List rv_A} {σ σ' : Nat → Int} {o : rv_O} {x : Int32} {a1 a2 : Int} {A : Nat → Nat → Int} (hx : o.1 = some (.inl x)) (h1 : lw_av as 1 = a1) (h2 : lw_av as 2 = a2) (hb : ∀ s, (sx_sr s).1 ≤ σ s ∧ σ s ≤ (sx_sr s).2) (hG : sx_GG σ' A) (h : lw_Qc sx_c325 as σ σ' o) : lw_pm_C a1 a2 x.toInt σ σ' := by
  obtain ⟨g, hg, τ, hW⟩ := h
  simp only [sx_c325, List.mem_cons, List.not_mem_nil, or_false] at hg
  rcases hg with rfl | rfl | rfl | rfl | rfl | rfl | rfl | rfl | rfl | rfl | rfl | rfl | rfl | rfl | rfl | rfl | rfl | rfl | rfl | rfl | rfl | rfl | rfl | rfl | rfl | rfl | rfl | rfl | rfl | rfl | rfl | rfl | rfl | rfl | rfl | rfl | rfl | rfl | rfl | rfl | rfl | rfl | rfl | rfl | rfl | rfl | rfl | rfl | rfl | rfl | rfl | rfl | rfl | rfl | rfl | rfl | rfl | rfl | rfl | rfl | rfl | rfl | rfl | rfl | rfl | rfl | rfl | rfl | rfl | rfl | rfl | rfl | rfl | rfl | rfl | rfl | rfl | rfl | rfl | rfl | rfl | rfl | rfl | rfl | rfl | rfl | rfl | rfl | rfl | rfl | rfl | rfl | rfl | rfl | rfl | rfl | rfl | rfl | rfl | rfl | rfl | rfl | rfl | rfl | rfl | rfl | rfl | rfl | rfl | rfl | rfl | rfl | rfl | rfl | rfl | rfl | rfl | rfl | rfl
  · exact lw_pm_0 hx h1 h2 hb hG hW
  · exact lw_pm_1 hx h1 h2 hb hG hW
  · exact lw_pm_2 hx h1 h2 hb hG hW
  · exact lw_pm_3 hx h1 h2 hb hG hW
  · exact lw_pm_4 hx h1 h2 hb hG hW
  · exact lw_pm_5 hx h1 h2 hb hG hW
  · exact lw_pm_6 hx h1 h2 hb hG hW
  · exact lw_pm_7 hx h1 h2 hb hG hW
  · exact lw_pm_8 hx h1 h2 hb hG hW
  · exact lw_pm_9 hx h1 h2 hb hG hW
  · exact lw_pm_10 hx h1 h2 hb hG hW
  · exact lw_pm_11 hx h1 h2 hb hG hW
  · exact lw_pm_12 hx h1 h2 hb hG hW
  · exact lw_pm_13 hx h1 h2 hb hG hW
  · exact lw_pm_14 hx h1 h2 hb hG hW
  · exact lw_pm_15 hx h1 h2 hb hG hW
  · exact lw_pm_16 hx h1 h2 hb hG hW
  · exact lw_pm_17 hx h1 h2 hb hG hW
  · exact lw_pm_18 hx h1 h2 hb hG hW
  · exact lw_pm_19 hx h1 h2 hb hG hW
  · exact lw_pm_20 hx h1 h2 hb hG hW
  · exact lw_pm_21 hx h1 h2 hb hG hW
  · exact lw_pm_22 hx h1 h2 hb hG hW
  · exact lw_pm_23 hx h1 h2 hb hG hW
  · exact lw_pm_24 hx h1 h2 hb hG hW
  · exact lw_pm_25 hx h1 h2 hb hG hW
  · exact lw_pm_26 hx h1 h2 hb hG hW
  · exact lw_pm_27 hx h1 h2 hb hG hW
  · exact lw_pm_28 hx h1 h2 hb hG hW
  · exact lw_pm_29 hx h1 h2 hb hG hW
  · exact lw_pm_30 hx h1 h2 hb hG hW
  · exact lw_pm_31 hx h1 h2 hb hG hW
  · exact lw_pm_32 hx h1 h2 hb hG hW
  · exact lw_pm_33 hx h1 h2 hb hG hW
  · exact lw_pm_34 hx h1 h2 hb hG hW
  · exact lw_pm_35 hx h1 h2 hb hG hW
  · exact lw_pm_36 hx h1 h2 hb hG hW
  · exact lw_pm_37 hx h1 h2 hb hG hW
  · exact lw_pm_38 hx h1 h2 hb hG hW
  · exact lw_pm_39 hx h1 h2 hb hG hW
  · exact lw_pm_40 hx h1 h2 hb hG hW
  · exact lw_pm_41 hx h1 h2 hb hG hW
  · exact lw_pm_42 hx h1 h2 hb hG hW
  · exact lw_pm_43 hx h1 h2 hb hG hW
  · exact lw_pm_44 hx h1 h2 hb hG hW
  · exact lw_pm_45 hx h1 h2 hb hG hW
  · exact lw_pm_46 hx h1 h2 hb hG hW
  · exact lw_pm_47 hx h1 h2 hb hG hW
  · exact lw_pm_48 hx h1 h2 hb hG hW
  · exact lw_pm_49 hx h1 h2 hb hG hW
  · exact lw_pm_50 hx h1 h2 hb hG hW
  · exact lw_pm_51 hx h1 h2 hb hG hW
  · exact lw_pm_52 hx h1 h2 hb hG hW
  · exact lw_pm_53 hx h1 h2 hb hG hW
  · exact lw_pm_54 hx h1 h2 hb hG hW
  · exact lw_pm_55 hx h1 h2 hb hG hW
  · exact lw_pm_56 hx h1 h2 hb hG hW
  · exact lw_pm_57 hx h1 h2 hb hG hW
  · exact lw_pm_58 hx h1 h2 hb hG hW
  · exact lw_pm_59 hx h1 h2 hb hG hW
  · exact lw_pm_60 hx h1 h2 hb hG hW
  · exact lw_pm_61 hx h1 h2 hb hG hW
  · exact lw_pm_62 hx h1 h2 hb hG hW
  · exact lw_pm_63 hx h1 h2 hb hG hW
  · exact lw_pm_64 hx h1 h2 hb hG hW
  · exact lw_pm_65 hx h1 h2 hb hG hW
  · exact lw_pm_66 hx h1 h2 hb hG hW
  · exact lw_pm_67 hx h1 h2 hb hG hW
  · exact lw_pm_68 hx h1 h2 hb hG hW
  · exact lw_pm_69 hx h1 h2 hb hG hW
  · exact lw_pm_70 hx h1 h2 hb hG hW
  · exact lw_pm_71 hx h1 h2 hb hG hW
  · exact lw_pm_72 hx h1 h2 hb hG hW
  · exact lw_pm_73 hx h1 h2 hb hG hW
  · exact lw_pm_74 hx h1 h2 hb hG hW
  · exact lw_pm_75 hx h1 h2 hb hG hW
  · exact lw_pm_76 hx h1 h2 hb hG hW
  · exact lw_pm_77 hx h1 h2 hb hG hW
  · exact lw_pm_78 hx h1 h2 hb hG hW
  · exact lw_pm_79 hx h1 h2 hb hG hW
  · exact lw_pm_80 hx h1 h2 hb hG hW
  · exact lw_pm_81 hx h1 h2 hb hG hW
  · exact lw_pm_82 hx h1 h2 hb hG hW
  · exact lw_pm_83 hx h1 h2 hb hG hW
  · exact lw_pm_84 hx h1 h2 hb hG hW
  · exact lw_pm_85 hx h1 h2 hb hG hW
  · exact lw_pm_86 hx h1 h2 hb hG hW
  · exact lw_pm_87 hx h1 h2 hb hG hW
  · exact lw_pm_88 hx h1 h2 hb hG hW
  · exact lw_pm_89 hx h1 h2 hb hG hW
  · exact lw_pm_90 hx h1 h2 hb hG hW
  · exact lw_pm_91 hx h1 h2 hb hG hW
  · exact lw_pm_92 hx h1 h2 hb hG hW
  · exact lw_pm_93 hx h1 h2 hb hG hW
  · exact lw_pm_94 hx h1 h2 hb hG hW
  · exact lw_pm_95 hx h1 h2 hb hG hW
  · exact lw_pm_96 hx h1 h2 hb hG hW
  · exact lw_pm_97 hx h1 h2 hb hG hW
  · exact lw_pm_98 hx h1 h2 hb hG hW
  · exact lw_pm_99 hx h1 h2 hb hG hW
  · exact lw_pm_100 hx h1 h2 hb hG hW
  · exact lw_pm_101 hx h1 h2 hb hG hW
  · exact lw_pm_102 hx h1 h2 hb hG hW
  · exact lw_pm_103 hx h1 h2 hb hG hW
  · exact lw_pm_104 hx h1 h2 hb hG hW
  · exact lw_pm_105 hx h1 h2 hb hG hW
  · exact lw_pm_106 hx h1 h2 hb hG hW
  · exact lw_pm_107 hx h1 h2 hb hG hW
  · exact lw_pm_108 hx h1 h2 hb hG hW
  · exact lw_pm_109 hx h1 h2 hb hG hW
  · exact lw_pm_110 hx h1 h2 hb hG hW
  · exact lw_pm_111 hx h1 h2 hb hG hW
  · exact lw_pm_112 hx h1 h2 hb hG hW
  · exact lw_pm_113 hx h1 h2 hb hG hW
  · exact lw_pm_114 hx h1 h2 hb hG hW
  · exact lw_pm_115 hx h1 h2 hb hG hW
  · exact lw_pm_116 hx h1 h2 hb hG hW
  · exact lw_pm_117 hx h1 h2 hb hG hW
  · exact lw_pm_118 hx h1 h2 hb hG hW
set_option maxHeartbeats 8000000 in
theorem lw_pp {a1 a2 z1 z2 m m2 l l2 n0 n1 n2 n3 n4 n5 n6 n7 p0 p1 p2 p3 p4 p5 p6 p7 k0 k1 k2 k3 k4 k5 k6 k7 q0 q1 q2 q3 q4 q5 q6 q7 : Int} (hx : lw_PQc a1 a2 z1 m m2 n0 n1 n2 n3 n4 n5 n6 n7 p0 p1 p2 p3 p4 p5 p6 p7) (hm : lw_PQc a1 a2 z2 l l2 k0 k1 k2 k3 k4 k5 k6 k7 q0 q1 q2 q3 q4 q5 q6 q7) (e : m = l) (r0 : 0 < m → n0 = k0) (r1 : 1 < m → n1 = k1) (r2 : 2 < m → n2 = k2) (r3 : 3 < m → n3 = k3) (r4 : 4 < m → n4 = k4) (r5 : 5 < m → n5 = k5) (r6 : 6 < m → n6 = k6) (r7 : 7 < m → n7 = k7) : z1 = z2 ∧ m2 = l2 ∧ (0 < m2 → p0 = q0) ∧ (1 < m2 → p1 = q1) ∧ (2 < m2 → p2 = q2) ∧ (3 < m2 → p3 = q3) ∧ (4 < m2 → p4 = q4) ∧ (5 < m2 → p5 = q5) ∧ (6 < m2 → p6 = q6) ∧ (7 < m2 → p7 = q7) := by
  rcases hx with ⟨x1, hs1, x3⟩ | ⟨x1, hs1, x3, x4⟩ | ⟨x1, hs1, x3, x4, x5⟩ | ⟨x1, x2, x3, x4, x5, x6, x7⟩
  · rcases hm with ⟨y1, hs2, y3⟩ | ⟨y1, hs2, y3, y4⟩ | ⟨y1, hs2, y3, y4, y5⟩ | ⟨y1, y2, y3, y4, y5, y6, y7⟩
    · obtain ⟨s0, s1, s2, s3, s4, s5, s6, s7, s8⟩ := hs1
      obtain ⟨t0, t1, t2, t3, t4, t5, t6, t7, t8⟩ := hs2
      exact ⟨by omega, by omega, fun h => (by have := r0 (by omega); omega), fun h => (by have := r1 (by omega); omega), fun h => (by have := r2 (by omega); omega), fun h => (by have := r3 (by omega); omega), fun h => (by have := r4 (by omega); omega), fun h => (by have := r5 (by omega); omega), fun h => (by have := r6 (by omega); omega), fun h => (by have := r7 (by omega); omega)⟩
    · exact absurd y3 x3
    · exact absurd y3 x3
    · exact absurd y3 x3
  · rcases hm with ⟨y1, hs2, y3⟩ | ⟨y1, hs2, y3, y4⟩ | ⟨y1, hs2, y3, y4, y5⟩ | ⟨y1, y2, y3, y4, y5, y6, y7⟩
    · exact absurd x3 y3
    · obtain ⟨s0, s1, s2, s3, s4, s5, s6, s7, s8⟩ := hs1
      obtain ⟨t0, t1, t2, t3, t4, t5, t6, t7, t8⟩ := hs2
      exact ⟨by omega, by omega, fun h => (by have := r0 (by omega); omega), fun h => (by have := r1 (by omega); omega), fun h => (by have := r2 (by omega); omega), fun h => (by have := r3 (by omega); omega), fun h => (by have := r4 (by omega); omega), fun h => (by have := r5 (by omega); omega), fun h => (by have := r6 (by omega); omega), fun h => (by have := r7 (by omega); omega)⟩
    · omega
    · omega
  · rcases hm with ⟨y1, hs2, y3⟩ | ⟨y1, hs2, y3, y4⟩ | ⟨y1, hs2, y3, y4, y5⟩ | ⟨y1, y2, y3, y4, y5, y6, y7⟩
    · exact absurd x3 y3
    · omega
    · obtain ⟨s0, s1, s2, s3, s4, s5, s6, s7, s8⟩ := hs1
      obtain ⟨t0, t1, t2, t3, t4, t5, t6, t7, t8⟩ := hs2
      exact ⟨by omega, by omega, fun h => (by have := r0 (by omega); omega), fun h => (by have := r1 (by omega); omega), fun h => (by have := r2 (by omega); omega), fun h => (by have := r3 (by omega); omega), fun h => (by have := r4 (by omega); omega), fun h => (by have := r5 (by omega); omega), fun h => (by have := r6 (by omega); omega), fun h => (by have := r7 (by omega); omega)⟩
    · exfalso
      obtain ⟨c0, c1, c2, c3, c4, c5, c6, c7⟩ := y6
      rcases x5 with ⟨h1, h2⟩ | ⟨h1, h2⟩ | ⟨h1, h2⟩ | ⟨h1, h2⟩ | ⟨h1, h2⟩ | ⟨h1, h2⟩ | ⟨h1, h2⟩ | ⟨h1, h2⟩
      · have h3 := r0 (by omega)
        exact c0 (by omega) (by omega)
      · have h3 := r1 (by omega)
        exact c1 (by omega) (by omega)
      · have h3 := r2 (by omega)
        exact c2 (by omega) (by omega)
      · have h3 := r3 (by omega)
        exact c3 (by omega) (by omega)
      · have h3 := r4 (by omega)
        exact c4 (by omega) (by omega)
      · have h3 := r5 (by omega)
        exact c5 (by omega) (by omega)
      · have h3 := r6 (by omega)
        exact c6 (by omega) (by omega)
      · have h3 := r7 (by omega)
        exact c7 (by omega) (by omega)
  · rcases hm with ⟨y1, hs2, y3⟩ | ⟨y1, hs2, y3, y4⟩ | ⟨y1, hs2, y3, y4, y5⟩ | ⟨y1, y2, y3, y4, y5, y6, y7⟩
    · exact absurd x3 y3
    · omega
    · exfalso
      obtain ⟨c0, c1, c2, c3, c4, c5, c6, c7⟩ := x6
      rcases y5 with ⟨h1, h2⟩ | ⟨h1, h2⟩ | ⟨h1, h2⟩ | ⟨h1, h2⟩ | ⟨h1, h2⟩ | ⟨h1, h2⟩ | ⟨h1, h2⟩ | ⟨h1, h2⟩
      · have h3 := r0 (by omega)
        exact c0 (by omega) (by omega)
      · have h3 := r1 (by omega)
        exact c1 (by omega) (by omega)
      · have h3 := r2 (by omega)
        exact c2 (by omega) (by omega)
      · have h3 := r3 (by omega)
        exact c3 (by omega) (by omega)
      · have h3 := r4 (by omega)
        exact c4 (by omega) (by omega)
      · have h3 := r5 (by omega)
        exact c5 (by omega) (by omega)
      · have h3 := r6 (by omega)
        exact c6 (by omega) (by omega)
      · have h3 := r7 (by omega)
        exact c7 (by omega) (by omega)
    · obtain ⟨c0, c1, c2, c3, c4, c5, c6, c7⟩ := x7
      obtain ⟨d0, d1, d2, d3, d4, d5, d6, d7⟩ := y7
      refine ⟨by omega, by omega, fun h => ?_, fun h => ?_, fun h => ?_, fun h => ?_, fun h => ?_, fun h => ?_, fun h => ?_, fun h => ?_⟩
      · rcases c0 with ⟨h1, h2⟩ | ⟨h1, h2⟩
        · rcases d0 with ⟨h3, h4⟩ | ⟨h3, h4⟩
          · omega
          · omega
        · rcases d0 with ⟨h3, h4⟩ | ⟨h3, h4⟩
          · omega
          · have := r0 (by omega)
            omega
      · rcases c1 with ⟨h1, h2⟩ | ⟨h1, h2⟩
        · rcases d1 with ⟨h3, h4⟩ | ⟨h3, h4⟩
          · omega
          · omega
        · rcases d1 with ⟨h3, h4⟩ | ⟨h3, h4⟩
          · omega
          · have := r1 (by omega)
            omega
      · rcases c2 with ⟨h1, h2⟩ | ⟨h1, h2⟩
        · rcases d2 with ⟨h3, h4⟩ | ⟨h3, h4⟩
          · omega
          · omega
        · rcases d2 with ⟨h3, h4⟩ | ⟨h3, h4⟩
          · omega
          · have := r2 (by omega)
            omega
      · rcases c3 with ⟨h1, h2⟩ | ⟨h1, h2⟩
        · rcases d3 with ⟨h3, h4⟩ | ⟨h3, h4⟩
          · omega
          · omega
        · rcases d3 with ⟨h3, h4⟩ | ⟨h3, h4⟩
          · omega
          · have := r3 (by omega)
            omega
      · rcases c4 with ⟨h1, h2⟩ | ⟨h1, h2⟩
        · rcases d4 with ⟨h3, h4⟩ | ⟨h3, h4⟩
          · omega
          · omega
        · rcases d4 with ⟨h3, h4⟩ | ⟨h3, h4⟩
          · omega
          · have := r4 (by omega)
            omega
      · rcases c5 with ⟨h1, h2⟩ | ⟨h1, h2⟩
        · rcases d5 with ⟨h3, h4⟩ | ⟨h3, h4⟩
          · omega
          · omega
        · rcases d5 with ⟨h3, h4⟩ | ⟨h3, h4⟩
          · omega
          · have := r5 (by omega)
            omega
      · rcases c6 with ⟨h1, h2⟩ | ⟨h1, h2⟩
        · rcases d6 with ⟨h3, h4⟩ | ⟨h3, h4⟩
          · omega
          · omega
        · rcases d6 with ⟨h3, h4⟩ | ⟨h3, h4⟩
          · omega
          · have := r6 (by omega)
            omega
      · rcases c7 with ⟨h1, h2⟩ | ⟨h1, h2⟩
        · rcases d7 with ⟨h3, h4⟩ | ⟨h3, h4⟩
          · omega
          · omega
        · rcases d7 with ⟨h3, h4⟩ | ⟨h3, h4⟩
          · omega
          · have := r7 (by omega)
            omega
theorem lw_gg {σ : Nat → Int} {h : List rv_C} (hJ : lw_Js σ h) : sx_GG σ (sx_ga h) := sx_GG_cg (fun c _ _ => sx_d_s σ c) hJ.1.2.2.2.2
set_option maxHeartbeats 8000000 in
theorem lw_pq5 {y1 : Int64} {y2 : Int32} {o1 o2 : rv_O} {h0 : List rv_C} {σ σ1 σ2 : Nat → Int} {z1 z2 : Int32} (hz1 : o1.1 = some (.inl z1)) (hz2 : o2.1 = some (.inl z2)) (h1 : lw_Qc sx_c221 [rv_ref 0, rv_lng y1, .inl y2] σ σ1 o1) (h2 : lw_Qc sx_c325 [rv_ref 100, rv_lng y1, .inl y2] σ1 σ2 o2) (hR : lw_R σ) (hJ : lw_Js σ h0) (hJ1 : lw_Js σ1 o1.2) (hJ2 : lw_Js σ2 o2.2) : z1.toInt = z2.toInt ∧ lw_R σ2 := by
  obtain ⟨g1, u⟩ := lw_px (a1 := y1.toInt) (a2 := y2.toInt) hz1 rfl rfl hJ.2.1 (lw_gg hJ1) h1
  obtain ⟨g2, v⟩ := lw_pm (a1 := y1.toInt) (a2 := y2.toInt) hz2 rfl rfl hJ1.2.1 (lw_gg hJ2) h2
  obtain ⟨u12804, u134, u12805, u10250, u12814, u18528, u18529, u18530, u18531, u18532, u18533, u18534, u18535⟩ := u
  obtain ⟨v133, v134, v12805, v10250, v12814, v18520, v18521, v18522, v18523, v18524, v18525, v18526, v18527⟩ := v
  obtain ⟨r0, r1, r2, k0, k1, k2, k3, k4, k5, k6, k7⟩ := hR
  rw [u12804, u18528, u18529, u18530, u18531, u18532, u18533, u18534, u18535] at g2
  obtain ⟨q1, q2, w0, w1, w2, w3, w4, w5, w6, w7⟩ := lw_pp g1 g2 r0 k0 k1 k2 k3 k4 k5 k6 k7
  refine ⟨q1, ?_, ?_, ?_, ?_, ?_, ?_, ?_, ?_, ?_, ?_, ?_⟩
  · rw [v133]; exact q2
  · rw [v134, u134, v12805, u12805]; exact r1
  · rw [v10250, u10250, v12814, u12814]; exact r2
  · rw [v133, v18520]; exact w0
  · rw [v133, v18521]; exact w1
  · rw [v133, v18522]; exact w2
  · rw [v133, v18523]; exact w3
  · rw [v133, v18524]; exact w4
  · rw [v133, v18525]; exact w5
  · rw [v133, v18526]; exact w6
  · rw [v133, v18527]; exact w7
theorem lw_same5 {y1 : Int64} {y2 : Int32} {o1 o2 : rv_O} {h0 : List rv_C} {σ σ1 σ2 : Nat → Int} {z1 z2 : Int32} (hz1 : o1.1 = some (.inl z1)) (hz2 : o2.1 = some (.inl z2)) (h1 : lw_Qc sx_c221 [rv_ref 0, rv_lng y1, .inl y2] σ σ1 o1) (h2 : lw_Qc sx_c325 [rv_ref 100, rv_lng y1, .inl y2] σ1 σ2 o2) (hR : lw_R σ) (hJ : lw_Js σ h0) (hJ1 : lw_Js σ1 o1.2) (hJ2 : lw_Js σ2 o2.2) : z1 = z2 := Int32.toInt_inj.mp (lw_pq5 hz1 hz2 h1 h2 hR hJ hJ1 hJ2).1
theorem lw_sp5 {y1 : Int64} {y2 : Int32} {o1 o2 : rv_O} {h0 : List rv_C} {σ σ1 σ2 : Nat → Int} {z1 z2 : Int32} (hz1 : o1.1 = some (.inl z1)) (hz2 : o2.1 = some (.inl z2)) (h1 : lw_Qc sx_c221 [rv_ref 0, rv_lng y1, .inl y2] σ σ1 o1) (h2 : lw_Qc sx_c325 [rv_ref 100, rv_lng y1, .inl y2] σ1 σ2 o2) (hR : lw_R σ) (hJ : lw_Js σ h0) (hJ1 : lw_Js σ1 o1.2) (hJ2 : lw_Js σ2 o2.2) : lw_R σ2 := (lw_pq5 hz1 hz2 h1 h2 hR hJ hJ1 hJ2).2
set_option maxHeartbeats 8000000 in
theorem lw_mustx {as : List rv_A} {σ σ' : Nat → Int} {o : rv_O} {x : Int32} {a1 a2 : Int} (hx : o.1 = some (.inl x)) (h1 : lw_av as 1 = a1) (h2 : lw_av as 2 = a2) (hb : ∀ s, (sx_sr s).1 ≤ σ s ∧ σ s ≤ (sx_sr s).2) (h : lw_Qc sx_c218 as σ σ' o) : ((x.toInt = 1 ∧ (0 ≤ a1 ∧ a1 < σ 133 ∧ 0 ≤ a2 ∧ a2 < σ 133 ∧ a1 ≠ a2 ∧ σ 134 ≤ 11) ∧ σ' 134 = σ 134 + 1) ∨ (x.toInt = 0 ∧ ¬ (0 ≤ a1 ∧ a1 < σ 133 ∧ 0 ≤ a2 ∧ a2 < σ 133 ∧ a1 ≠ a2 ∧ σ 134 ≤ 11) ∧ σ' 134 = σ 134)) ∧ σ' 133 = σ 133 ∧ σ' 12804 = σ 12804 ∧ σ' 12805 = σ 12805 ∧ σ' 10250 = σ 10250 ∧ σ' 12814 = σ 12814 ∧ σ' 18520 = σ 18520 ∧ σ' 18528 = σ 18528 ∧ σ' 18521 = σ 18521 ∧ σ' 18529 = σ 18529 ∧ σ' 18522 = σ 18522 ∧ σ' 18530 = σ 18530 ∧ σ' 18523 = σ 18523 ∧ σ' 18531 = σ 18531 ∧ σ' 18524 = σ 18524 ∧ σ' 18532 = σ 18532 ∧ σ' 18525 = σ 18525 ∧ σ' 18533 = σ 18533 ∧ σ' 18526 = σ 18526 ∧ σ' 18534 = σ 18534 ∧ σ' 18527 = σ 18527 ∧ σ' 18535 = σ 18535 := by
  have b133 : 0 ≤ σ 133 ∧ σ 133 ≤ 8 := by
    have h0 := hb 133
    rw [show sx_sr 133 = (0, 8) from by decide +kernel] at h0
    exact h0
  have b134 : 0 ≤ σ 134 ∧ σ 134 ≤ 12 := by
    have h0 := hb 134
    rw [show sx_sr 134 = (0, 12) from by decide +kernel] at h0
    exact h0
  have b10250 : 0 ≤ σ 10250 ∧ σ 10250 ≤ 300 := by
    have h0 := hb 10250
    rw [show sx_sr 10250 = (0, 300) from by decide +kernel] at h0
    exact h0
  obtain ⟨g, hg, τ, hs, ht, hf, hr, hm, hw⟩ := h
  have e1 : τ 19001 = a1 := by rw [ht 19001 (by decide) (by decide)]; exact h1
  have e2 : τ 19002 = a2 := by rw [ht 19002 (by decide) (by decide)]; exact h2
  have s133 : τ 133 = σ 133 := hs 133 (by decide)
  have s134 : τ 134 = σ 134 := hs 134 (by decide)
  have s10250 : τ 10250 = σ 10250 := hs 10250 (by decide)
  have s12804 : τ 12804 = σ 12804 := hs 12804 (by decide)
  have s12805 : τ 12805 = σ 12805 := hs 12805 (by decide)
  have s12814 : τ 12814 = σ 12814 := hs 12814 (by decide)
  have s18520 : τ 18520 = σ 18520 := hs 18520 (by decide)
  have s18521 : τ 18521 = σ 18521 := hs 18521 (by decide)
  have s18522 : τ 18522 = σ 18522 := hs 18522 (by decide)
  have s18523 : τ 18523 = σ 18523 := hs 18523 (by decide)
  have s18524 : τ 18524 = σ 18524 := hs 18524 (by decide)
  have s18525 : τ 18525 = σ 18525 := hs 18525 (by decide)
  have s18526 : τ 18526 = σ 18526 := hs 18526 (by decide)
  have s18527 : τ 18527 = σ 18527 := hs 18527 (by decide)
  have s18528 : τ 18528 = σ 18528 := hs 18528 (by decide)
  have s18529 : τ 18529 = σ 18529 := hs 18529 (by decide)
  have s18530 : τ 18530 = σ 18530 := hs 18530 (by decide)
  have s18531 : τ 18531 = σ 18531 := hs 18531 (by decide)
  have s18532 : τ 18532 = σ 18532 := hs 18532 (by decide)
  have s18533 : τ 18533 = σ 18533 := hs 18533 (by decide)
  have s18534 : τ 18534 = σ 18534 := hs 18534 (by decide)
  have s18535 : τ 18535 = σ 18535 := hs 18535 (by decide)
  clear hb ht
  rw [hx] at hr
  simp only [sx_c218, List.mem_cons, List.not_mem_nil, or_false] at hg
  rcases hg with rfl | rfl | rfl | rfl | rfl | rfl | rfl | rfl | rfl | rfl | rfl
  · obtain ⟨y, hy, hv⟩ := hr
    cases hy
    replace hv : x.toInt = 0 + 0 := hv
    have f0 : 0 ≤ (-1) + (1 * τ 133 + 0) := hf _ (List.Mem.head _)
    have f1 : 0 ≤ (-12) + (1 * τ 134 + 0) := hf _ (List.Mem.tail _ (List.Mem.head _))
    have f2 : 0 ≤ 0 + (1 * τ 19001 + 0) := hf _ (List.Mem.tail _ (List.Mem.tail _ (List.Mem.head _)))
    have f3 : 0 ≤ 6 + ((-1) * τ 19001 + 0) := hf _ (List.Mem.tail _ (List.Mem.tail _ (List.Mem.tail _ (List.Mem.head _))))
    have f4 : 0 ≤ (-1) + (1 * τ 19002 + 0) := hf _ (List.Mem.tail _ (List.Mem.tail _ (List.Mem.tail _ (List.Mem.tail _ (List.Mem.head _)))))
    have f5 : 0 ≤ 7 + ((-1) * τ 19002 + 0) := hf _ (List.Mem.tail _ (List.Mem.tail _ (List.Mem.tail _ (List.Mem.tail _ (List.Mem.tail _ (List.Mem.head _))))))
    have f6 : 0 ≤ (-1) + ((-1) * τ 19001 + (1 * τ 19002 + 0)) := hf _ (List.Mem.tail _ (List.Mem.tail _ (List.Mem.tail _ (List.Mem.tail _ (List.Mem.tail _ (List.Mem.tail _ (List.Mem.head _)))))))
    have f7 : 0 ≤ (-1) + (1 * τ 133 + ((-1) * τ 19002 + 0)) := hf _ (List.Mem.tail _ (List.Mem.tail _ (List.Mem.tail _ (List.Mem.tail _ (List.Mem.tail _ (List.Mem.tail _ (List.Mem.tail _ (List.Mem.head _))))))))
    have f8 : 0 ≤ (-1) + (1 * τ 133 + ((-1) * τ 19001 + 0)) := hf _ (List.Mem.tail _ (List.Mem.tail _ (List.Mem.tail _ (List.Mem.tail _ (List.Mem.tail _ (List.Mem.tail _ (List.Mem.tail _ (List.Mem.tail _ (List.Mem.head _)))))))))
    have m134 : σ' 134 = 0 + (1 * τ 134 + 0) := hm 134 (by decide)
    refine ⟨?_, lw_id s133 (hm 133 (by decide)), lw_id s12804 (hm 12804 (by decide)), lw_id s12805 (hm 12805 (by decide)), lw_id s10250 (hm 10250 (by decide)), lw_id s12814 (hm 12814 (by decide)), lw_id s18520 (hm 18520 (by decide)), lw_id s18528 (hm 18528 (by decide)), lw_id s18521 (hm 18521 (by decide)), lw_id s18529 (hm 18529 (by decide)), lw_id s18522 (hm 18522 (by decide)), lw_id s18530 (hm 18530 (by decide)), lw_id s18523 (hm 18523 (by decide)), lw_id s18531 (hm 18531 (by decide)), lw_id s18524 (hm 18524 (by decide)), lw_id s18532 (hm 18532 (by decide)), lw_id s18525 (hm 18525 (by decide)), lw_id s18533 (hm 18533 (by decide)), lw_id s18526 (hm 18526 (by decide)), lw_id s18534 (hm 18534 (by decide)), lw_id s18527 (hm 18527 (by decide)), lw_id s18535 (hm 18535 (by decide))⟩
    clear hf hm hs
    exact Or.inr ⟨by omega, fun h => (by omega), by omega⟩
  · obtain ⟨y, hy, hv⟩ := hr
    cases hy
    replace hv : x.toInt = 0 + 0 := hv
    have f0 : 0 ≤ (-1) + (1 * τ 133 + 0) := hf _ (List.Mem.head _)
    have f1 : 0 ≤ (-12) + (1 * τ 134 + 0) := hf _ (List.Mem.tail _ (List.Mem.head _))
    have f2 : 0 ≤ (-1) + (1 * τ 19001 + 0) := hf _ (List.Mem.tail _ (List.Mem.tail _ (List.Mem.head _)))
    have f3 : 0 ≤ 7 + ((-1) * τ 19001 + 0) := hf _ (List.Mem.tail _ (List.Mem.tail _ (List.Mem.tail _ (List.Mem.head _))))
    have f4 : 0 ≤ 0 + (1 * τ 19002 + 0) := hf _ (List.Mem.tail _ (List.Mem.tail _ (List.Mem.tail _ (List.Mem.tail _ (List.Mem.head _)))))
    have f5 : 0 ≤ 6 + ((-1) * τ 19002 + 0) := hf _ (List.Mem.tail _ (List.Mem.tail _ (List.Mem.tail _ (List.Mem.tail _ (List.Mem.tail _ (List.Mem.head _))))))
    have f6 : 0 ≤ (-1) + (1 * τ 19001 + ((-1) * τ 19002 + 0)) := hf _ (List.Mem.tail _ (List.Mem.tail _ (List.Mem.tail _ (List.Mem.tail _ (List.Mem.tail _ (List.Mem.tail _ (List.Mem.head _)))))))
    have f7 : 0 ≤ (-1) + (1 * τ 133 + ((-1) * τ 19002 + 0)) := hf _ (List.Mem.tail _ (List.Mem.tail _ (List.Mem.tail _ (List.Mem.tail _ (List.Mem.tail _ (List.Mem.tail _ (List.Mem.tail _ (List.Mem.head _))))))))
    have f8 : 0 ≤ (-1) + (1 * τ 133 + ((-1) * τ 19001 + 0)) := hf _ (List.Mem.tail _ (List.Mem.tail _ (List.Mem.tail _ (List.Mem.tail _ (List.Mem.tail _ (List.Mem.tail _ (List.Mem.tail _ (List.Mem.tail _ (List.Mem.head _)))))))))
    have m134 : σ' 134 = 0 + (1 * τ 134 + 0) := hm 134 (by decide)
    refine ⟨?_, lw_id s133 (hm 133 (by decide)), lw_id s12804 (hm 12804 (by decide)), lw_id s12805 (hm 12805 (by decide)), lw_id s10250 (hm 10250 (by decide)), lw_id s12814 (hm 12814 (by decide)), lw_id s18520 (hm 18520 (by decide)), lw_id s18528 (hm 18528 (by decide)), lw_id s18521 (hm 18521 (by decide)), lw_id s18529 (hm 18529 (by decide)), lw_id s18522 (hm 18522 (by decide)), lw_id s18530 (hm 18530 (by decide)), lw_id s18523 (hm 18523 (by decide)), lw_id s18531 (hm 18531 (by decide)), lw_id s18524 (hm 18524 (by decide)), lw_id s18532 (hm 18532 (by decide)), lw_id s18525 (hm 18525 (by decide)), lw_id s18533 (hm 18533 (by decide)), lw_id s18526 (hm 18526 (by decide)), lw_id s18534 (hm 18534 (by decide)), lw_id s18527 (hm 18527 (by decide)), lw_id s18535 (hm 18535 (by decide))⟩
    clear hf hm hs
    exact Or.inr ⟨by omega, fun h => (by omega), by omega⟩
  · obtain ⟨y, hy, hv⟩ := hr
    cases hy
    replace hv : x.toInt = 0 + 0 := hv
    have f0 : 0 ≤ (-1) + (1 * τ 133 + 0) := hf _ (List.Mem.head _)
    have f1 : 0 ≤ 0 + (1 * τ 19001 + 0) := hf _ (List.Mem.tail _ (List.Mem.head _))
    have f2 : 0 ≤ 7 + ((-1) * τ 19001 + 0) := hf _ (List.Mem.tail _ (List.Mem.tail _ (List.Mem.head _)))
    have f3 : 0 ≤ (-1) + ((-1) * τ 19002 + 0) := hf _ (List.Mem.tail _ (List.Mem.tail _ (List.Mem.tail _ (List.Mem.head _))))
    have f4 : 0 ≤ (-1) + (1 * τ 133 + ((-1) * τ 19001 + 0)) := hf _ (List.Mem.tail _ (List.Mem.tail _ (List.Mem.tail _ (List.Mem.tail _ (List.Mem.head _)))))
    have m134 : σ' 134 = 0 + (1 * τ 134 + 0) := hm 134 (by decide)
    refine ⟨?_, lw_id s133 (hm 133 (by decide)), lw_id s12804 (hm 12804 (by decide)), lw_id s12805 (hm 12805 (by decide)), lw_id s10250 (hm 10250 (by decide)), lw_id s12814 (hm 12814 (by decide)), lw_id s18520 (hm 18520 (by decide)), lw_id s18528 (hm 18528 (by decide)), lw_id s18521 (hm 18521 (by decide)), lw_id s18529 (hm 18529 (by decide)), lw_id s18522 (hm 18522 (by decide)), lw_id s18530 (hm 18530 (by decide)), lw_id s18523 (hm 18523 (by decide)), lw_id s18531 (hm 18531 (by decide)), lw_id s18524 (hm 18524 (by decide)), lw_id s18532 (hm 18532 (by decide)), lw_id s18525 (hm 18525 (by decide)), lw_id s18533 (hm 18533 (by decide)), lw_id s18526 (hm 18526 (by decide)), lw_id s18534 (hm 18534 (by decide)), lw_id s18527 (hm 18527 (by decide)), lw_id s18535 (hm 18535 (by decide))⟩
    clear hf hm hs
    exact Or.inr ⟨by omega, fun h => (by omega), by omega⟩
  · obtain ⟨y, hy, hv⟩ := hr
    cases hy
    replace hv : x.toInt = 0 + 0 := hv
    have f0 : 0 ≤ (-1) + (1 * τ 133 + 0) := hf _ (List.Mem.head _)
    have f1 : 0 ≤ 0 + (1 * τ 19001 + 0) := hf _ (List.Mem.tail _ (List.Mem.head _))
    have f2 : 0 ≤ 7 + ((-1) * τ 19001 + 0) := hf _ (List.Mem.tail _ (List.Mem.tail _ (List.Mem.head _)))
    have f3 : 0 ≤ 0 + (1 * τ 19002 + 0) := hf _ (List.Mem.tail _ (List.Mem.tail _ (List.Mem.tail _ (List.Mem.head _))))
    have f4 : 0 ≤ 7 + ((-1) * τ 19002 + 0) := hf _ (List.Mem.tail _ (List.Mem.tail _ (List.Mem.tail _ (List.Mem.tail _ (List.Mem.head _)))))
    have f5 : 0 ≤ 0 + ((-1) * τ 19001 + (1 * τ 19002 + 0)) := hf _ (List.Mem.tail _ (List.Mem.tail _ (List.Mem.tail _ (List.Mem.tail _ (List.Mem.tail _ (List.Mem.head _))))))
    have f6 : 0 ≤ 0 + (1 * τ 19001 + ((-1) * τ 19002 + 0)) := hf _ (List.Mem.tail _ (List.Mem.tail _ (List.Mem.tail _ (List.Mem.tail _ (List.Mem.tail _ (List.Mem.tail _ (List.Mem.head _)))))))
    have f7 : 0 ≤ (-1) + (1 * τ 133 + ((-1) * τ 19002 + 0)) := hf _ (List.Mem.tail _ (List.Mem.tail _ (List.Mem.tail _ (List.Mem.tail _ (List.Mem.tail _ (List.Mem.tail _ (List.Mem.tail _ (List.Mem.head _))))))))
    have f8 : 0 ≤ (-1) + (1 * τ 133 + ((-1) * τ 19001 + 0)) := hf _ (List.Mem.tail _ (List.Mem.tail _ (List.Mem.tail _ (List.Mem.tail _ (List.Mem.tail _ (List.Mem.tail _ (List.Mem.tail _ (List.Mem.tail _ (List.Mem.head _)))))))))
    have m134 : σ' 134 = 0 + (1 * τ 134 + 0) := hm 134 (by decide)
    refine ⟨?_, lw_id s133 (hm 133 (by decide)), lw_id s12804 (hm 12804 (by decide)), lw_id s12805 (hm 12805 (by decide)), lw_id s10250 (hm 10250 (by decide)), lw_id s12814 (hm 12814 (by decide)), lw_id s18520 (hm 18520 (by decide)), lw_id s18528 (hm 18528 (by decide)), lw_id s18521 (hm 18521 (by decide)), lw_id s18529 (hm 18529 (by decide)), lw_id s18522 (hm 18522 (by decide)), lw_id s18530 (hm 18530 (by decide)), lw_id s18523 (hm 18523 (by decide)), lw_id s18531 (hm 18531 (by decide)), lw_id s18524 (hm 18524 (by decide)), lw_id s18532 (hm 18532 (by decide)), lw_id s18525 (hm 18525 (by decide)), lw_id s18533 (hm 18533 (by decide)), lw_id s18526 (hm 18526 (by decide)), lw_id s18534 (hm 18534 (by decide)), lw_id s18527 (hm 18527 (by decide)), lw_id s18535 (hm 18535 (by decide))⟩
    clear hf hm hs
    exact Or.inr ⟨by omega, fun h => (by omega), by omega⟩
  · obtain ⟨y, hy, hv⟩ := hr
    cases hy
    replace hv : x.toInt = 0 + 0 := hv
    have f0 : 0 ≤ (-1) + (1 * τ 133 + 0) := hf _ (List.Mem.head _)
    have f1 : 0 ≤ 0 + (1 * τ 19001 + 0) := hf _ (List.Mem.tail _ (List.Mem.head _))
    have f2 : 0 ≤ 7 + ((-1) * τ 19001 + 0) := hf _ (List.Mem.tail _ (List.Mem.tail _ (List.Mem.head _)))
    have f3 : 0 ≤ (-1) + (1 * τ 19002 + 0) := hf _ (List.Mem.tail _ (List.Mem.tail _ (List.Mem.tail _ (List.Mem.head _))))
    have f4 : 0 ≤ 0 + ((-1) * τ 133 + (1 * τ 19002 + 0)) := hf _ (List.Mem.tail _ (List.Mem.tail _ (List.Mem.tail _ (List.Mem.tail _ (List.Mem.head _)))))
    have f5 : 0 ≤ (-1) + (1 * τ 133 + ((-1) * τ 19001 + 0)) := hf _ (List.Mem.tail _ (List.Mem.tail _ (List.Mem.tail _ (List.Mem.tail _ (List.Mem.tail _ (List.Mem.head _))))))
    have m134 : σ' 134 = 0 + (1 * τ 134 + 0) := hm 134 (by decide)
    refine ⟨?_, lw_id s133 (hm 133 (by decide)), lw_id s12804 (hm 12804 (by decide)), lw_id s12805 (hm 12805 (by decide)), lw_id s10250 (hm 10250 (by decide)), lw_id s12814 (hm 12814 (by decide)), lw_id s18520 (hm 18520 (by decide)), lw_id s18528 (hm 18528 (by decide)), lw_id s18521 (hm 18521 (by decide)), lw_id s18529 (hm 18529 (by decide)), lw_id s18522 (hm 18522 (by decide)), lw_id s18530 (hm 18530 (by decide)), lw_id s18523 (hm 18523 (by decide)), lw_id s18531 (hm 18531 (by decide)), lw_id s18524 (hm 18524 (by decide)), lw_id s18532 (hm 18532 (by decide)), lw_id s18525 (hm 18525 (by decide)), lw_id s18533 (hm 18533 (by decide)), lw_id s18526 (hm 18526 (by decide)), lw_id s18534 (hm 18534 (by decide)), lw_id s18527 (hm 18527 (by decide)), lw_id s18535 (hm 18535 (by decide))⟩
    clear hf hm hs
    exact Or.inr ⟨by omega, fun h => (by omega), by omega⟩
  · obtain ⟨y, hy, hv⟩ := hr
    cases hy
    replace hv : x.toInt = 0 + 0 := hv
    have f0 : 0 ≤ (-1) + ((-1) * τ 19001 + 0) := hf _ (List.Mem.head _)
    have m134 : σ' 134 = 0 + (1 * τ 134 + 0) := hm 134 (by decide)
    refine ⟨?_, lw_id s133 (hm 133 (by decide)), lw_id s12804 (hm 12804 (by decide)), lw_id s12805 (hm 12805 (by decide)), lw_id s10250 (hm 10250 (by decide)), lw_id s12814 (hm 12814 (by decide)), lw_id s18520 (hm 18520 (by decide)), lw_id s18528 (hm 18528 (by decide)), lw_id s18521 (hm 18521 (by decide)), lw_id s18529 (hm 18529 (by decide)), lw_id s18522 (hm 18522 (by decide)), lw_id s18530 (hm 18530 (by decide)), lw_id s18523 (hm 18523 (by decide)), lw_id s18531 (hm 18531 (by decide)), lw_id s18524 (hm 18524 (by decide)), lw_id s18532 (hm 18532 (by decide)), lw_id s18525 (hm 18525 (by decide)), lw_id s18533 (hm 18533 (by decide)), lw_id s18526 (hm 18526 (by decide)), lw_id s18534 (hm 18534 (by decide)), lw_id s18527 (hm 18527 (by decide)), lw_id s18535 (hm 18535 (by decide))⟩
    clear hf hm hs
    exact Or.inr ⟨by omega, fun h => (by omega), by omega⟩
  · obtain ⟨y, hy, hv⟩ := hr
    cases hy
    replace hv : x.toInt = 0 + 0 := hv
    have f0 : 0 ≤ 0 + (1 * τ 19001 + 0) := hf _ (List.Mem.head _)
    have f1 : 0 ≤ 0 + ((-1) * τ 133 + (1 * τ 19001 + 0)) := hf _ (List.Mem.tail _ (List.Mem.head _))
    have m134 : σ' 134 = 0 + (1 * τ 134 + 0) := hm 134 (by decide)
    refine ⟨?_, lw_id s133 (hm 133 (by decide)), lw_id s12804 (hm 12804 (by decide)), lw_id s12805 (hm 12805 (by decide)), lw_id s10250 (hm 10250 (by decide)), lw_id s12814 (hm 12814 (by decide)), lw_id s18520 (hm 18520 (by decide)), lw_id s18528 (hm 18528 (by decide)), lw_id s18521 (hm 18521 (by decide)), lw_id s18529 (hm 18529 (by decide)), lw_id s18522 (hm 18522 (by decide)), lw_id s18530 (hm 18530 (by decide)), lw_id s18523 (hm 18523 (by decide)), lw_id s18531 (hm 18531 (by decide)), lw_id s18524 (hm 18524 (by decide)), lw_id s18532 (hm 18532 (by decide)), lw_id s18525 (hm 18525 (by decide)), lw_id s18533 (hm 18533 (by decide)), lw_id s18526 (hm 18526 (by decide)), lw_id s18534 (hm 18534 (by decide)), lw_id s18527 (hm 18527 (by decide)), lw_id s18535 (hm 18535 (by decide))⟩
    clear hf hm hs
    exact Or.inr ⟨by omega, fun h => (by omega), by omega⟩
  · obtain ⟨y, hy, hv⟩ := hr
    cases hy
    replace hv : x.toInt = 1 + 0 := hv
    have f0 : 0 ≤ (-1) + (1 * τ 133 + 0) := hf _ (List.Mem.head _)
    have f1 : 0 ≤ 11 + ((-1) * τ 134 + 0) := hf _ (List.Mem.tail _ (List.Mem.head _))
    have f2 : 0 ≤ 0 + (1 * τ 19001 + 0) := hf _ (List.Mem.tail _ (List.Mem.tail _ (List.Mem.head _)))
    have f3 : 0 ≤ 6 + ((-1) * τ 19001 + 0) := hf _ (List.Mem.tail _ (List.Mem.tail _ (List.Mem.tail _ (List.Mem.head _))))
    have f4 : 0 ≤ (-1) + (1 * τ 19002 + 0) := hf _ (List.Mem.tail _ (List.Mem.tail _ (List.Mem.tail _ (List.Mem.tail _ (List.Mem.head _)))))
    have f5 : 0 ≤ 7 + ((-1) * τ 19002 + 0) := hf _ (List.Mem.tail _ (List.Mem.tail _ (List.Mem.tail _ (List.Mem.tail _ (List.Mem.tail _ (List.Mem.head _))))))
    have f6 : 0 ≤ 0 + ((-1) * τ 19003 + 0) := hf _ (List.Mem.tail _ (List.Mem.tail _ (List.Mem.tail _ (List.Mem.tail _ (List.Mem.tail _ (List.Mem.tail _ (List.Mem.head _)))))))
    have f7 : 0 ≤ (-1) + ((-1) * τ 19001 + (1 * τ 19002 + 0)) := hf _ (List.Mem.tail _ (List.Mem.tail _ (List.Mem.tail _ (List.Mem.tail _ (List.Mem.tail _ (List.Mem.tail _ (List.Mem.tail _ (List.Mem.head _))))))))
    have f8 : 0 ≤ (-1) + (1 * τ 133 + ((-1) * τ 19002 + 0)) := hf _ (List.Mem.tail _ (List.Mem.tail _ (List.Mem.tail _ (List.Mem.tail _ (List.Mem.tail _ (List.Mem.tail _ (List.Mem.tail _ (List.Mem.tail _ (List.Mem.head _)))))))))
    have f9 : 0 ≤ (-1) + (1 * τ 133 + ((-1) * τ 19001 + 0)) := hf _ (List.Mem.tail _ (List.Mem.tail _ (List.Mem.tail _ (List.Mem.tail _ (List.Mem.tail _ (List.Mem.tail _ (List.Mem.tail _ (List.Mem.tail _ (List.Mem.tail _ (List.Mem.head _))))))))))
    have m134 : σ' 134 = 1 + (1 * τ 134 + 0) := hm 134 (by decide)
    refine ⟨?_, lw_id s133 (hm 133 (by decide)), lw_id s12804 (hm 12804 (by decide)), lw_id s12805 (hm 12805 (by decide)), lw_id s10250 (hm 10250 (by decide)), lw_id s12814 (hm 12814 (by decide)), lw_id s18520 (hm 18520 (by decide)), lw_id s18528 (hm 18528 (by decide)), lw_id s18521 (hm 18521 (by decide)), lw_id s18529 (hm 18529 (by decide)), lw_id s18522 (hm 18522 (by decide)), lw_id s18530 (hm 18530 (by decide)), lw_id s18523 (hm 18523 (by decide)), lw_id s18531 (hm 18531 (by decide)), lw_id s18524 (hm 18524 (by decide)), lw_id s18532 (hm 18532 (by decide)), lw_id s18525 (hm 18525 (by decide)), lw_id s18533 (hm 18533 (by decide)), lw_id s18526 (hm 18526 (by decide)), lw_id s18534 (hm 18534 (by decide)), lw_id s18527 (hm 18527 (by decide)), lw_id s18535 (hm 18535 (by decide))⟩
    clear hf hm hs
    exact Or.inl ⟨by omega, ⟨by omega, by omega, by omega, by omega, by omega, by omega⟩, by omega⟩
  · obtain ⟨y, hy, hv⟩ := hr
    cases hy
    replace hv : x.toInt = 1 + 0 := hv
    have f0 : 0 ≤ (-1) + (1 * τ 133 + 0) := hf _ (List.Mem.head _)
    have f1 : 0 ≤ 11 + ((-1) * τ 134 + 0) := hf _ (List.Mem.tail _ (List.Mem.head _))
    have f2 : 0 ≤ 0 + (1 * τ 19001 + 0) := hf _ (List.Mem.tail _ (List.Mem.tail _ (List.Mem.head _)))
    have f3 : 0 ≤ 6 + ((-1) * τ 19001 + 0) := hf _ (List.Mem.tail _ (List.Mem.tail _ (List.Mem.tail _ (List.Mem.head _))))
    have f4 : 0 ≤ (-1) + (1 * τ 19002 + 0) := hf _ (List.Mem.tail _ (List.Mem.tail _ (List.Mem.tail _ (List.Mem.tail _ (List.Mem.head _)))))
    have f5 : 0 ≤ 7 + ((-1) * τ 19002 + 0) := hf _ (List.Mem.tail _ (List.Mem.tail _ (List.Mem.tail _ (List.Mem.tail _ (List.Mem.tail _ (List.Mem.head _))))))
    have f6 : 0 ≤ (-1) + (1 * τ 19003 + 0) := hf _ (List.Mem.tail _ (List.Mem.tail _ (List.Mem.tail _ (List.Mem.tail _ (List.Mem.tail _ (List.Mem.tail _ (List.Mem.head _)))))))
    have f7 : 0 ≤ (-1) + ((-1) * τ 19001 + (1 * τ 19002 + 0)) := hf _ (List.Mem.tail _ (List.Mem.tail _ (List.Mem.tail _ (List.Mem.tail _ (List.Mem.tail _ (List.Mem.tail _ (List.Mem.tail _ (List.Mem.head _))))))))
    have f8 : 0 ≤ (-1) + (1 * τ 133 + ((-1) * τ 19002 + 0)) := hf _ (List.Mem.tail _ (List.Mem.tail _ (List.Mem.tail _ (List.Mem.tail _ (List.Mem.tail _ (List.Mem.tail _ (List.Mem.tail _ (List.Mem.tail _ (List.Mem.head _)))))))))
    have f9 : 0 ≤ (-1) + (1 * τ 133 + ((-1) * τ 19001 + 0)) := hf _ (List.Mem.tail _ (List.Mem.tail _ (List.Mem.tail _ (List.Mem.tail _ (List.Mem.tail _ (List.Mem.tail _ (List.Mem.tail _ (List.Mem.tail _ (List.Mem.tail _ (List.Mem.head _))))))))))
    have m134 : σ' 134 = 1 + (1 * τ 134 + 0) := hm 134 (by decide)
    refine ⟨?_, lw_id s133 (hm 133 (by decide)), lw_id s12804 (hm 12804 (by decide)), lw_id s12805 (hm 12805 (by decide)), lw_id s10250 (hm 10250 (by decide)), lw_id s12814 (hm 12814 (by decide)), lw_id s18520 (hm 18520 (by decide)), lw_id s18528 (hm 18528 (by decide)), lw_id s18521 (hm 18521 (by decide)), lw_id s18529 (hm 18529 (by decide)), lw_id s18522 (hm 18522 (by decide)), lw_id s18530 (hm 18530 (by decide)), lw_id s18523 (hm 18523 (by decide)), lw_id s18531 (hm 18531 (by decide)), lw_id s18524 (hm 18524 (by decide)), lw_id s18532 (hm 18532 (by decide)), lw_id s18525 (hm 18525 (by decide)), lw_id s18533 (hm 18533 (by decide)), lw_id s18526 (hm 18526 (by decide)), lw_id s18534 (hm 18534 (by decide)), lw_id s18527 (hm 18527 (by decide)), lw_id s18535 (hm 18535 (by decide))⟩
    clear hf hm hs
    exact Or.inl ⟨by omega, ⟨by omega, by omega, by omega, by omega, by omega, by omega⟩, by omega⟩
  · obtain ⟨y, hy, hv⟩ := hr
    cases hy
    replace hv : x.toInt = 1 + 0 := hv
    have f0 : 0 ≤ (-1) + (1 * τ 133 + 0) := hf _ (List.Mem.head _)
    have f1 : 0 ≤ 11 + ((-1) * τ 134 + 0) := hf _ (List.Mem.tail _ (List.Mem.head _))
    have f2 : 0 ≤ (-1) + (1 * τ 19001 + 0) := hf _ (List.Mem.tail _ (List.Mem.tail _ (List.Mem.head _)))
    have f3 : 0 ≤ 7 + ((-1) * τ 19001 + 0) := hf _ (List.Mem.tail _ (List.Mem.tail _ (List.Mem.tail _ (List.Mem.head _))))
    have f4 : 0 ≤ 0 + (1 * τ 19002 + 0) := hf _ (List.Mem.tail _ (List.Mem.tail _ (List.Mem.tail _ (List.Mem.tail _ (List.Mem.head _)))))
    have f5 : 0 ≤ 6 + ((-1) * τ 19002 + 0) := hf _ (List.Mem.tail _ (List.Mem.tail _ (List.Mem.tail _ (List.Mem.tail _ (List.Mem.tail _ (List.Mem.head _))))))
    have f6 : 0 ≤ 0 + ((-1) * τ 19003 + 0) := hf _ (List.Mem.tail _ (List.Mem.tail _ (List.Mem.tail _ (List.Mem.tail _ (List.Mem.tail _ (List.Mem.tail _ (List.Mem.head _)))))))
    have f7 : 0 ≤ (-1) + (1 * τ 19001 + ((-1) * τ 19002 + 0)) := hf _ (List.Mem.tail _ (List.Mem.tail _ (List.Mem.tail _ (List.Mem.tail _ (List.Mem.tail _ (List.Mem.tail _ (List.Mem.tail _ (List.Mem.head _))))))))
    have f8 : 0 ≤ (-1) + (1 * τ 133 + ((-1) * τ 19002 + 0)) := hf _ (List.Mem.tail _ (List.Mem.tail _ (List.Mem.tail _ (List.Mem.tail _ (List.Mem.tail _ (List.Mem.tail _ (List.Mem.tail _ (List.Mem.tail _ (List.Mem.head _)))))))))
    have f9 : 0 ≤ (-1) + (1 * τ 133 + ((-1) * τ 19001 + 0)) := hf _ (List.Mem.tail _ (List.Mem.tail _ (List.Mem.tail _ (List.Mem.tail _ (List.Mem.tail _ (List.Mem.tail _ (List.Mem.tail _ (List.Mem.tail _ (List.Mem.tail _ (List.Mem.head _))))))))))
    have m134 : σ' 134 = 1 + (1 * τ 134 + 0) := hm 134 (by decide)
    refine ⟨?_, lw_id s133 (hm 133 (by decide)), lw_id s12804 (hm 12804 (by decide)), lw_id s12805 (hm 12805 (by decide)), lw_id s10250 (hm 10250 (by decide)), lw_id s12814 (hm 12814 (by decide)), lw_id s18520 (hm 18520 (by decide)), lw_id s18528 (hm 18528 (by decide)), lw_id s18521 (hm 18521 (by decide)), lw_id s18529 (hm 18529 (by decide)), lw_id s18522 (hm 18522 (by decide)), lw_id s18530 (hm 18530 (by decide)), lw_id s18523 (hm 18523 (by decide)), lw_id s18531 (hm 18531 (by decide)), lw_id s18524 (hm 18524 (by decide)), lw_id s18532 (hm 18532 (by decide)), lw_id s18525 (hm 18525 (by decide)), lw_id s18533 (hm 18533 (by decide)), lw_id s18526 (hm 18526 (by decide)), lw_id s18534 (hm 18534 (by decide)), lw_id s18527 (hm 18527 (by decide)), lw_id s18535 (hm 18535 (by decide))⟩
    clear hf hm hs
    exact Or.inl ⟨by omega, ⟨by omega, by omega, by omega, by omega, by omega, by omega⟩, by omega⟩
  · obtain ⟨y, hy, hv⟩ := hr
    cases hy
    replace hv : x.toInt = 1 + 0 := hv
    have f0 : 0 ≤ (-1) + (1 * τ 133 + 0) := hf _ (List.Mem.head _)
    have f1 : 0 ≤ 11 + ((-1) * τ 134 + 0) := hf _ (List.Mem.tail _ (List.Mem.head _))
    have f2 : 0 ≤ (-1) + (1 * τ 19001 + 0) := hf _ (List.Mem.tail _ (List.Mem.tail _ (List.Mem.head _)))
    have f3 : 0 ≤ 7 + ((-1) * τ 19001 + 0) := hf _ (List.Mem.tail _ (List.Mem.tail _ (List.Mem.tail _ (List.Mem.head _))))
    have f4 : 0 ≤ 0 + (1 * τ 19002 + 0) := hf _ (List.Mem.tail _ (List.Mem.tail _ (List.Mem.tail _ (List.Mem.tail _ (List.Mem.head _)))))
    have f5 : 0 ≤ 6 + ((-1) * τ 19002 + 0) := hf _ (List.Mem.tail _ (List.Mem.tail _ (List.Mem.tail _ (List.Mem.tail _ (List.Mem.tail _ (List.Mem.head _))))))
    have f6 : 0 ≤ (-1) + (1 * τ 19003 + 0) := hf _ (List.Mem.tail _ (List.Mem.tail _ (List.Mem.tail _ (List.Mem.tail _ (List.Mem.tail _ (List.Mem.tail _ (List.Mem.head _)))))))
    have f7 : 0 ≤ (-1) + (1 * τ 19001 + ((-1) * τ 19002 + 0)) := hf _ (List.Mem.tail _ (List.Mem.tail _ (List.Mem.tail _ (List.Mem.tail _ (List.Mem.tail _ (List.Mem.tail _ (List.Mem.tail _ (List.Mem.head _))))))))
    have f8 : 0 ≤ (-1) + (1 * τ 133 + ((-1) * τ 19002 + 0)) := hf _ (List.Mem.tail _ (List.Mem.tail _ (List.Mem.tail _ (List.Mem.tail _ (List.Mem.tail _ (List.Mem.tail _ (List.Mem.tail _ (List.Mem.tail _ (List.Mem.head _)))))))))
    have f9 : 0 ≤ (-1) + (1 * τ 133 + ((-1) * τ 19001 + 0)) := hf _ (List.Mem.tail _ (List.Mem.tail _ (List.Mem.tail _ (List.Mem.tail _ (List.Mem.tail _ (List.Mem.tail _ (List.Mem.tail _ (List.Mem.tail _ (List.Mem.tail _ (List.Mem.head _))))))))))
    have m134 : σ' 134 = 1 + (1 * τ 134 + 0) := hm 134 (by decide)
    refine ⟨?_, lw_id s133 (hm 133 (by decide)), lw_id s12804 (hm 12804 (by decide)), lw_id s12805 (hm 12805 (by decide)), lw_id s10250 (hm 10250 (by decide)), lw_id s12814 (hm 12814 (by decide)), lw_id s18520 (hm 18520 (by decide)), lw_id s18528 (hm 18528 (by decide)), lw_id s18521 (hm 18521 (by decide)), lw_id s18529 (hm 18529 (by decide)), lw_id s18522 (hm 18522 (by decide)), lw_id s18530 (hm 18530 (by decide)), lw_id s18523 (hm 18523 (by decide)), lw_id s18531 (hm 18531 (by decide)), lw_id s18524 (hm 18524 (by decide)), lw_id s18532 (hm 18532 (by decide)), lw_id s18525 (hm 18525 (by decide)), lw_id s18533 (hm 18533 (by decide)), lw_id s18526 (hm 18526 (by decide)), lw_id s18534 (hm 18534 (by decide)), lw_id s18527 (hm 18527 (by decide)), lw_id s18535 (hm 18535 (by decide))⟩
    clear hf hm hs
    exact Or.inl ⟨by omega, ⟨by omega, by omega, by omega, by omega, by omega, by omega⟩, by omega⟩
