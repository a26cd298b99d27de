theorem lw_pm_69 {as : List rv_A} {σ σ' : Nat → Int} {o : rv_O} {x : Int32} {a1 a2 : Int} {A : Nat → Nat → Int} {τ : Nat → Int} (hx : o.1 = some (.inl x)) (h1 : lw_av as 1 = a1) (h2 : lw_av as 2 = a2) (hb : ∀ s, (sx_sr s).1 ≤ σ s ∧ σ s ≤ (sx_sr s).2) (hG : sx_GG σ' A) (hW : lw_W ([(18509, 1, 1099511627770), (18510, 0, 34359738367)], [((-7), [(12804, 1)]), (7, [(12804, (-1))]), ((-295), [(19001, 1)]), (497, [(19001, (-1))]), (0, [(19002, 1)]), (9, [(19002, (-1))]), (0, [(12804, 1)])], [(12800, (0, [])), (12804, (1, [(12804, 1)])), (18462, (0, [])), (18463, (0, [])), (18464, (0, [])), (18465, ((-1), [])), (18466, (0, [])), (18467, (0, [])), (18468, (0, [])), (18469, ((-1), [])), (18470, ((-1), [])), (18471, ((-1), [])), (18472, (0, [])), (18473, (0, [])), (18509, (0, [(1000000, 1)])), (18510, (0, [(1000001, 1)])), (18511, (0, [(19001, 1)])), (18512, (0, [])), (18513, (1, [])), (18517, (0, [(19001, 1)])), (18518, (7, [])), (18519, ((-1), [])), (18535, (0, [(19001, 1)]))], some (false, (0, [(12804, 1)]))) as σ σ' τ o) : lw_pm_C a1 a2 x.toInt σ σ' := by
  unfold lw_pm_C
  have bM : 0 ≤ σ 12804 ∧ σ 12804 ≤ 8 := by
    have h0 := hb 12804
    rw [show sx_sr 12804 = (0, 8) from by decide +kernel] at h0
    exact h0
  obtain ⟨-, -, -, -, -, -, -, -, -, -, -, -, -, -, -, -, -, -, -, g19, g20, -, g22, -, g24⟩ := hG
  obtain ⟨hs, ht, hf, hr, hm, hw⟩ := hW
  have e1 : τ 19001 = a1 := by rw [ht 19001 (by decide) (by decide)]; exact h1
  have e2 : τ 19002 = a2 := by rw [ht 19002 (by decide) (by decide)]; exact h2
  have s133 : τ 133 = σ 133 := hs 133 (by decide)
  have s134 : τ 134 = σ 134 := hs 134 (by decide)
  have s10250 : τ 10250 = σ 10250 := hs 10250 (by decide)
  have s12804 : τ 12804 = σ 12804 := hs 12804 (by decide)
  have s12805 : τ 12805 = σ 12805 := hs 12805 (by decide)
  have s12814 : τ 12814 = σ 12814 := hs 12814 (by decide)
  have s18520 : τ 18520 = σ 18520 := hs 18520 (by decide)
  have s18521 : τ 18521 = σ 18521 := hs 18521 (by decide)
  have s18522 : τ 18522 = σ 18522 := hs 18522 (by decide)
  have s18523 : τ 18523 = σ 18523 := hs 18523 (by decide)
  have s18524 : τ 18524 = σ 18524 := hs 18524 (by decide)
  have s18525 : τ 18525 = σ 18525 := hs 18525 (by decide)
  have s18526 : τ 18526 = σ 18526 := hs 18526 (by decide)
  have s18527 : τ 18527 = σ 18527 := hs 18527 (by decide)
  have s18528 : τ 18528 = σ 18528 := hs 18528 (by decide)
  have s18529 : τ 18529 = σ 18529 := hs 18529 (by decide)
  have s18530 : τ 18530 = σ 18530 := hs 18530 (by decide)
  have s18531 : τ 18531 = σ 18531 := hs 18531 (by decide)
  have s18532 : τ 18532 = σ 18532 := hs 18532 (by decide)
  have s18533 : τ 18533 = σ 18533 := hs 18533 (by decide)
  have s18534 : τ 18534 = σ 18534 := hs 18534 (by decide)
  have s18535 : τ 18535 = σ 18535 := hs 18535 (by decide)
  clear ht hb h1 h2
  rw [hx] at hr
  clear hx
  obtain ⟨y, hy, hv⟩ := hr
  cases hy
  replace hv : x.toInt = 0 + (1 * τ 12804 + 0) := hv
  have sm : σ' 133 = σ 133 ∧ σ' 134 = σ 134 ∧ σ' 12805 = σ 12805 ∧ σ' 10250 = σ 10250 ∧ σ' 12814 = σ 12814 ∧ σ' 18520 = σ 18520 ∧ σ' 18521 = σ 18521 ∧ σ' 18522 = σ 18522 ∧ σ' 18523 = σ 18523 ∧ σ' 18524 = σ 18524 ∧ σ' 18525 = σ 18525 ∧ σ' 18526 = σ 18526 ∧ σ' 18527 = σ 18527 := ⟨lw_id s133 (hm 133 (by decide)), lw_id s134 (hm 134 (by decide)), lw_id s12805 (hm 12805 (by decide)), lw_id s10250 (hm 10250 (by decide)), lw_id s12814 (hm 12814 (by decide)), lw_id s18520 (hm 18520 (by decide)), lw_id s18521 (hm 18521 (by decide)), lw_id s18522 (hm 18522 (by decide)), lw_id s18523 (hm 18523 (by decide)), lw_id s18524 (hm 18524 (by decide)), lw_id s18525 (hm 18525 (by decide)), lw_id s18526 (hm 18526 (by decide)), lw_id s18527 (hm 18527 (by decide))⟩
  refine ⟨?_, sm⟩
  clear sm
  have f0 : 0 ≤ (-7) + (1 * τ 12804 + 0) := hf _ (List.Mem.head _)
  have f1 : 0 ≤ 7 + ((-1) * τ 12804 + 0) := hf _ (List.Mem.tail _ (List.Mem.head _))
  have f2 : 0 ≤ (-295) + (1 * τ 19001 + 0) := hf _ (List.Mem.tail _ (List.Mem.tail _ (List.Mem.head _)))
  have f3 : 0 ≤ 497 + ((-1) * τ 19001 + 0) := hf _ (List.Mem.tail _ (List.Mem.tail _ (List.Mem.tail _ (List.Mem.head _))))
  have f4 : 0 ≤ 0 + (1 * τ 19002 + 0) := hf _ (List.Mem.tail _ (List.Mem.tail _ (List.Mem.tail _ (List.Mem.tail _ (List.Mem.head _)))))
  have f5 : 0 ≤ 9 + ((-1) * τ 19002 + 0) := hf _ (List.Mem.tail _ (List.Mem.tail _ (List.Mem.tail _ (List.Mem.tail _ (List.Mem.tail _ (List.Mem.head _))))))
  have f6 : 0 ≤ 0 + (1 * τ 12804 + 0) := hf _ (List.Mem.tail _ (List.Mem.tail _ (List.Mem.tail _ (List.Mem.tail _ (List.Mem.tail _ (List.Mem.tail _ (List.Mem.head _)))))))
  have m18511 : σ' 18511 = 0 + (1 * τ 19001 + 0) := hm 18511 (by decide)
  have m18512 : σ' 18512 = 0 + 0 := hm 18512 (by decide)
  have m18513 : σ' 18513 = 1 + 0 := hm 18513 (by decide)
  have hok : lw_OK a1 a2 := by
    refine ⟨?_, by omega, by omega, ⟨by omega, by omega, by omega, by omega, by omega, by omega, by omega, by omega⟩, by omega, by omega⟩
    have h0 := g20.1 (by omega)
    rw [show σ' 18511 = a1 by omega, show σ' 18512 = 0 by omega] at h0
    exact h0.mpr sx_gdn_0
  have m18517 : σ' 18517 = 0 + (1 * τ 19001 + 0) := hm 18517 (by decide)
  have m18518 : σ' 18518 = 7 + 0 := hm 18518 (by decide)
  have m12804 : σ' 12804 = 1 + (1 * τ 12804 + 0) := hm 12804 (by decide)
  obtain ⟨n0, n1, n2, n3, n4, n5, n6, n7⟩ := g24
  have q18528 := lw_id s18528 (hm 18528 (by decide))
  have q18529 := lw_id s18529 (hm 18529 (by decide))
  have q18530 := lw_id s18530 (hm 18530 (by decide))
  have q18531 := lw_id s18531 (hm 18531 (by decide))
  have q18532 := lw_id s18532 (hm 18532 (by decide))
  have q18533 := lw_id s18533 (hm 18533 (by decide))
  have q18534 := lw_id s18534 (hm 18534 (by decide))
  have m18535 : σ' 18535 = 0 + (1 * τ 19001 + 0) := hm 18535 (by decide)
  have hj : σ 12804 = 7 := by omega
  exact Or.inr (Or.inr (Or.inr ⟨by omega, by omega, hok, by omega, by omega, ⟨fun _ => (by have := g22.1 0 (by omega); omega), fun _ => (by have := g22.1 1 (by omega); omega), fun _ => (by have := g22.1 2 (by omega); omega), fun _ => (by have := g22.1 3 (by omega); omega), fun _ => (by have := g22.1 4 (by omega); omega), fun _ => (by have := g22.1 5 (by omega); omega), fun _ => (by have := g22.1 6 (by omega); omega), fun h => absurd h (by omega)⟩, ⟨Or.inr ⟨by omega, q18528⟩, Or.inr ⟨by omega, q18529⟩, Or.inr ⟨by omega, q18530⟩, Or.inr ⟨by omega, q18531⟩, Or.inr ⟨by omega, q18532⟩, Or.inr ⟨by omega, q18533⟩, Or.inr ⟨by omega, q18534⟩, Or.inl ⟨hj, by omega⟩⟩⟩))
theorem lw_pm_70 {as : List rv_A} {σ σ' : Nat → Int} {o : rv_O} {x : Int32} {a1 a2 : Int} {A : Nat → Nat → Int} {τ : Nat → Int} (hx : o.1 = some (.inl x)) (h1 : lw_av as 1 = a1) (h2 : lw_av as 2 = a2) (hb : ∀ s, (sx_sr s).1 ≤ σ s ∧ σ s ≤ (sx_sr s).2) (hG : sx_GG σ' A) (hW : lw_W ([(18509, 1, 1099511627770), (18510, 0, 34359738367)], [((-7), [(12804, 1)]), (7, [(12804, (-1))]), ((-499), [(19001, 1)]), (1155, [(19001, (-1))]), (0, [(19002, 1)]), (9, [(19002, (-1))]), (0, [(12804, 1)])], [(12800, (0, [])), (12804, (1, [(12804, 1)])), (18462, (0, [])), (18463, (0, [])), (18464, (0, [])), (18465, ((-1), [])), (18466, (0, [])), (18467, (0, [])), (18468, (0, [])), (18469, ((-1), [])), (18470, ((-1), [])), (18471, ((-1), [])), (18472, (0, [])), (18473, (0, [])), (18509, (0, [(1000000, 1)])), (18510, (0, [(1000001, 1)])), (18511, (0, [(19001, 1)])), (18512, (0, [])), (18513, (1, [])), (18517, (0, [(19001, 1)])), (18518, (7, [])), (18519, ((-1), [])), (18535, (0, [(19001, 1)]))], some (false, (0, [(12804, 1)]))) as σ σ' τ o) : lw_pm_C a1 a2 x.toInt σ σ' := by
  unfold lw_pm_C
  have bM : 0 ≤ σ 12804 ∧ σ 12804 ≤ 8 := by
    have h0 := hb 12804
    rw [show sx_sr 12804 = (0, 8) from by decide +kernel] at h0
    exact h0
  obtain ⟨-, -, -, -, -, -, -, -, -, -, -, -, -, -, -, -, -, -, -, g19, g20, -, g22, -, g24⟩ := hG
  obtain ⟨hs, ht, hf, hr, hm, hw⟩ := hW
  have e1 : τ 19001 = a1 := by rw [ht 19001 (by decide) (by decide)]; exact h1
  have e2 : τ 19002 = a2 := by rw [ht 19002 (by decide) (by decide)]; exact h2
  have s133 : τ 133 = σ 133 := hs 133 (by decide)
  have s134 : τ 134 = σ 134 := hs 134 (by decide)
  have s10250 : τ 10250 = σ 10250 := hs 10250 (by decide)
  have s12804 : τ 12804 = σ 12804 := hs 12804 (by decide)
  have s12805 : τ 12805 = σ 12805 := hs 12805 (by decide)
  have s12814 : τ 12814 = σ 12814 := hs 12814 (by decide)
  have s18520 : τ 18520 = σ 18520 := hs 18520 (by decide)
  have s18521 : τ 18521 = σ 18521 := hs 18521 (by decide)
  have s18522 : τ 18522 = σ 18522 := hs 18522 (by decide)
  have s18523 : τ 18523 = σ 18523 := hs 18523 (by decide)
  have s18524 : τ 18524 = σ 18524 := hs 18524 (by decide)
  have s18525 : τ 18525 = σ 18525 := hs 18525 (by decide)
  have s18526 : τ 18526 = σ 18526 := hs 18526 (by decide)
  have s18527 : τ 18527 = σ 18527 := hs 18527 (by decide)
  have s18528 : τ 18528 = σ 18528 := hs 18528 (by decide)
  have s18529 : τ 18529 = σ 18529 := hs 18529 (by decide)
  have s18530 : τ 18530 = σ 18530 := hs 18530 (by decide)
  have s18531 : τ 18531 = σ 18531 := hs 18531 (by decide)
  have s18532 : τ 18532 = σ 18532 := hs 18532 (by decide)
  have s18533 : τ 18533 = σ 18533 := hs 18533 (by decide)
  have s18534 : τ 18534 = σ 18534 := hs 18534 (by decide)
  have s18535 : τ 18535 = σ 18535 := hs 18535 (by decide)
  clear ht hb h1 h2
  rw [hx] at hr
  clear hx
  obtain ⟨y, hy, hv⟩ := hr
  cases hy
  replace hv : x.toInt = 0 + (1 * τ 12804 + 0) := hv
  have sm : σ' 133 = σ 133 ∧ σ' 134 = σ 134 ∧ σ' 12805 = σ 12805 ∧ σ' 10250 = σ 10250 ∧ σ' 12814 = σ 12814 ∧ σ' 18520 = σ 18520 ∧ σ' 18521 = σ 18521 ∧ σ' 18522 = σ 18522 ∧ σ' 18523 = σ 18523 ∧ σ' 18524 = σ 18524 ∧ σ' 18525 = σ 18525 ∧ σ' 18526 = σ 18526 ∧ σ' 18527 = σ 18527 := ⟨lw_id s133 (hm 133 (by decide)), lw_id s134 (hm 134 (by decide)), lw_id s12805 (hm 12805 (by decide)), lw_id s10250 (hm 10250 (by decide)), lw_id s12814 (hm 12814 (by decide)), lw_id s18520 (hm 18520 (by decide)), lw_id s18521 (hm 18521 (by decide)), lw_id s18522 (hm 18522 (by decide)), lw_id s18523 (hm 18523 (by decide)), lw_id s18524 (hm 18524 (by decide)), lw_id s18525 (hm 18525 (by decide)), lw_id s18526 (hm 18526 (by decide)), lw_id s18527 (hm 18527 (by decide))⟩
  refine ⟨?_, sm⟩
  clear sm
  have f0 : 0 ≤ (-7) + (1 * τ 12804 + 0) := hf _ (List.Mem.head _)
  have f1 : 0 ≤ 7 + ((-1) * τ 12804 + 0) := hf _ (List.Mem.tail _ (List.Mem.head _))
  have f2 : 0 ≤ (-499) + (1 * τ 19001 + 0) := hf _ (List.Mem.tail _ (List.Mem.tail _ (List.Mem.head _)))
  have f3 : 0 ≤ 1155 + ((-1) * τ 19001 + 0) := hf _ (List.Mem.tail _ (List.Mem.tail _ (List.Mem.tail _ (List.Mem.head _))))
  have f4 : 0 ≤ 0 + (1 * τ 19002 + 0) := hf _ (List.Mem.tail _ (List.Mem.tail _ (List.Mem.tail _ (List.Mem.tail _ (List.Mem.head _)))))
  have f5 : 0 ≤ 9 + ((-1) * τ 19002 + 0) := hf _ (List.Mem.tail _ (List.Mem.tail _ (List.Mem.tail _ (List.Mem.tail _ (List.Mem.tail _ (List.Mem.head _))))))
  have f6 : 0 ≤ 0 + (1 * τ 12804 + 0) := hf _ (List.Mem.tail _ (List.Mem.tail _ (List.Mem.tail _ (List.Mem.tail _ (List.Mem.tail _ (List.Mem.tail _ (List.Mem.head _)))))))
  have m18511 : σ' 18511 = 0 + (1 * τ 19001 + 0) := hm 18511 (by decide)
  have m18512 : σ' 18512 = 0 + 0 := hm 18512 (by decide)
  have m18513 : σ' 18513 = 1 + 0 := hm 18513 (by decide)
  have hok : lw_OK a1 a2 := by
    refine ⟨?_, by omega, by omega, ⟨by omega, by omega, by omega, by omega, by omega, by omega, by omega, by omega⟩, by omega, by omega⟩
    have h0 := g20.1 (by omega)
    rw [show σ' 18511 = a1 by omega, show σ' 18512 = 0 by omega] at h0
    exact h0.mpr sx_gdn_0
  have m18517 : σ' 18517 = 0 + (1 * τ 19001 + 0) := hm 18517 (by decide)
  have m18518 : σ' 18518 = 7 + 0 := hm 18518 (by decide)
  have m12804 : σ' 12804 = 1 + (1 * τ 12804 + 0) := hm 12804 (by decide)
  obtain ⟨n0, n1, n2, n3, n4, n5, n6, n7⟩ := g24
  have q18528 := lw_id s18528 (hm 18528 (by decide))
  have q18529 := lw_id s18529 (hm 18529 (by decide))
  have q18530 := lw_id s18530 (hm 18530 (by decide))
  have q18531 := lw_id s18531 (hm 18531 (by decide))
  have q18532 := lw_id s18532 (hm 18532 (by decide))
  have q18533 := lw_id s18533 (hm 18533 (by decide))
  have q18534 := lw_id s18534 (hm 18534 (by decide))
  have m18535 : σ' 18535 = 0 + (1 * τ 19001 + 0) := hm 18535 (by decide)
  have hj : σ 12804 = 7 := by omega
  exact Or.inr (Or.inr (Or.inr ⟨by omega, by omega, hok, by omega, by omega, ⟨fun _ => (by have := g22.1 0 (by omega); omega), fun _ => (by have := g22.1 1 (by omega); omega), fun _ => (by have := g22.1 2 (by omega); omega), fun _ => (by have := g22.1 3 (by omega); omega), fun _ => (by have := g22.1 4 (by omega); omega), fun _ => (by have := g22.1 5 (by omega); omega), fun _ => (by have := g22.1 6 (by omega); omega), fun h => absurd h (by omega)⟩, ⟨Or.inr ⟨by omega, q18528⟩, Or.inr ⟨by omega, q18529⟩, Or.inr ⟨by omega, q18530⟩, Or.inr ⟨by omega, q18531⟩, Or.inr ⟨by omega, q18532⟩, Or.inr ⟨by omega, q18533⟩, Or.inr ⟨by omega, q18534⟩, Or.inl ⟨hj, by omega⟩⟩⟩))
theorem lw_pm_71 {as : List rv_A} {σ σ' : Nat → Int} {o : rv_O} {x : Int32} {a1 a2 : Int} {A : Nat → Nat → Int} {τ : Nat → Int} (hx : o.1 = some (.inl x)) (h1 : lw_av as 1 = a1) (h2 : lw_av as 2 = a2) (hb : ∀ s, (sx_sr s).1 ≤ σ s ∧ σ s ≤ (sx_sr s).2) (hG : sx_GG σ' A) (hW : lw_W ([(18509, 1, 1099511627770), (18510, 0, 34359738367)], [((-7), [(12804, 1)]), (7, [(12804, (-1))]), ((-632646), [(19001, 1)]), (1099511627770, [(19001, (-1))]), (0, [(19002, 1)]), (9, [(19002, (-1))]), (0, [(12804, 1)])], [(12800, (0, [])), (12804, (1, [(12804, 1)])), (18462, (0, [])), (18463, (0, [])), (18464, (0, [])), (18465, ((-1), [])), (18466, (0, [])), (18467, (0, [])), (18468, (0, [])), (18469, ((-1), [])), (18470, ((-1), [])), (18471, ((-1), [])), (18472, (0, [])), (18473, (0, [])), (18509, (0, [(1000000, 1)])), (18510, (0, [(1000001, 1)])), (18511, (0, [(19001, 1)])), (18512, (0, [])), (18513, (1, [])), (18517, (0, [(19001, 1)])), (18518, (7, [])), (18519, ((-1), [])), (18535, (0, [(19001, 1)]))], some (false, (0, [(12804, 1)]))) as σ σ' τ o) : lw_pm_C a1 a2 x.toInt σ σ' := by
  unfold lw_pm_C
  have bM : 0 ≤ σ 12804 ∧ σ 12804 ≤ 8 := by
    have h0 := hb 12804
    rw [show sx_sr 12804 = (0, 8) from by decide +kernel] at h0
    exact h0
  obtain ⟨-, -, -, -, -, -, -, -, -, -, -, -, -, -, -, -, -, -, -, g19, g20, -, g22, -, g24⟩ := hG
  obtain ⟨hs, ht, hf, hr, hm, hw⟩ := hW
  have e1 : τ 19001 = a1 := by rw [ht 19001 (by decide) (by decide)]; exact h1
  have e2 : τ 19002 = a2 := by rw [ht 19002 (by decide) (by decide)]; exact h2
  have s133 : τ 133 = σ 133 := hs 133 (by decide)
  have s134 : τ 134 = σ 134 := hs 134 (by decide)
  have s10250 : τ 10250 = σ 10250 := hs 10250 (by decide)
  have s12804 : τ 12804 = σ 12804 := hs 12804 (by decide)
  have s12805 : τ 12805 = σ 12805 := hs 12805 (by decide)
  have s12814 : τ 12814 = σ 12814 := hs 12814 (by decide)
  have s18520 : τ 18520 = σ 18520 := hs 18520 (by decide)
  have s18521 : τ 18521 = σ 18521 := hs 18521 (by decide)
  have s18522 : τ 18522 = σ 18522 := hs 18522 (by decide)
  have s18523 : τ 18523 = σ 18523 := hs 18523 (by decide)
  have s18524 : τ 18524 = σ 18524 := hs 18524 (by decide)
  have s18525 : τ 18525 = σ 18525 := hs 18525 (by decide)
  have s18526 : τ 18526 = σ 18526 := hs 18526 (by decide)
  have s18527 : τ 18527 = σ 18527 := hs 18527 (by decide)
  have s18528 : τ 18528 = σ 18528 := hs 18528 (by decide)
  have s18529 : τ 18529 = σ 18529 := hs 18529 (by decide)
  have s18530 : τ 18530 = σ 18530 := hs 18530 (by decide)
  have s18531 : τ 18531 = σ 18531 := hs 18531 (by decide)
  have s18532 : τ 18532 = σ 18532 := hs 18532 (by decide)
  have s18533 : τ 18533 = σ 18533 := hs 18533 (by decide)
  have s18534 : τ 18534 = σ 18534 := hs 18534 (by decide)
  have s18535 : τ 18535 = σ 18535 := hs 18535 (by decide)
  clear ht hb h1 h2
  rw [hx] at hr
  clear hx
  obtain ⟨y, hy, hv⟩ := hr
  cases hy
  replace hv : x.toInt = 0 + (1 * τ 12804 + 0) := hv
  have sm : σ' 133 = σ 133 ∧ σ' 134 = σ 134 ∧ σ' 12805 = σ 12805 ∧ σ' 10250 = σ 10250 ∧ σ' 12814 = σ 12814 ∧ σ' 18520 = σ 18520 ∧ σ' 18521 = σ 18521 ∧ σ' 18522 = σ 18522 ∧ σ' 18523 = σ 18523 ∧ σ' 18524 = σ 18524 ∧ σ' 18525 = σ 18525 ∧ σ' 18526 = σ 18526 ∧ σ' 18527 = σ 18527 := ⟨lw_id s133 (hm 133 (by decide)), lw_id s134 (hm 134 (by decide)), lw_id s12805 (hm 12805 (by decide)), lw_id s10250 (hm 10250 (by decide)), lw_id s12814 (hm 12814 (by decide)), lw_id s18520 (hm 18520 (by decide)), lw_id s18521 (hm 18521 (by decide)), lw_id s18522 (hm 18522 (by decide)), lw_id s18523 (hm 18523 (by decide)), lw_id s18524 (hm 18524 (by decide)), lw_id s18525 (hm 18525 (by decide)), lw_id s18526 (hm 18526 (by decide)), lw_id s18527 (hm 18527 (by decide))⟩
  refine ⟨?_, sm⟩
  clear sm
  have f0 : 0 ≤ (-7) + (1 * τ 12804 + 0) := hf _ (List.Mem.head _)
  have f1 : 0 ≤ 7 + ((-1) * τ 12804 + 0) := hf _ (List.Mem.tail _ (List.Mem.head _))
  have f2 : 0 ≤ (-632646) + (1 * τ 19001 + 0) := hf _ (List.Mem.tail _ (List.Mem.tail _ (List.Mem.head _)))
  have f3 : 0 ≤ 1099511627770 + ((-1) * τ 19001 + 0) := hf _ (List.Mem.tail _ (List.Mem.tail _ (List.Mem.tail _ (List.Mem.head _))))
  have f4 : 0 ≤ 0 + (1 * τ 19002 + 0) := hf _ (List.Mem.tail _ (List.Mem.tail _ (List.Mem.tail _ (List.Mem.tail _ (List.Mem.head _)))))
  have f5 : 0 ≤ 9 + ((-1) * τ 19002 + 0) := hf _ (List.Mem.tail _ (List.Mem.tail _ (List.Mem.tail _ (List.Mem.tail _ (List.Mem.tail _ (List.Mem.head _))))))
  have f6 : 0 ≤ 0 + (1 * τ 12804 + 0) := hf _ (List.Mem.tail _ (List.Mem.tail _ (List.Mem.tail _ (List.Mem.tail _ (List.Mem.tail _ (List.Mem.tail _ (List.Mem.head _)))))))
  have m18511 : σ' 18511 = 0 + (1 * τ 19001 + 0) := hm 18511 (by decide)
  have m18512 : σ' 18512 = 0 + 0 := hm 18512 (by decide)
  have m18513 : σ' 18513 = 1 + 0 := hm 18513 (by decide)
  have hok : lw_OK a1 a2 := by
    refine ⟨?_, by omega, by omega, ⟨by omega, by omega, by omega, by omega, by omega, by omega, by omega, by omega⟩, by omega, by omega⟩
    have h0 := g20.1 (by omega)
    rw [show σ' 18511 = a1 by omega, show σ' 18512 = 0 by omega] at h0
    exact h0.mpr sx_gdn_0
  have m18517 : σ' 18517 = 0 + (1 * τ 19001 + 0) := hm 18517 (by decide)
  have m18518 : σ' 18518 = 7 + 0 := hm 18518 (by decide)
  have m12804 : σ' 12804 = 1 + (1 * τ 12804 + 0) := hm 12804 (by decide)
  obtain ⟨n0, n1, n2, n3, n4, n5, n6, n7⟩ := g24
  have q18528 := lw_id s18528 (hm 18528 (by decide))
  have q18529 := lw_id s18529 (hm 18529 (by decide))
  have q18530 := lw_id s18530 (hm 18530 (by decide))
  have q18531 := lw_id s18531 (hm 18531 (by decide))
  have q18532 := lw_id s18532 (hm 18532 (by decide))
  have q18533 := lw_id s18533 (hm 18533 (by decide))
  have q18534 := lw_id s18534 (hm 18534 (by decide))
  have m18535 : σ' 18535 = 0 + (1 * τ 19001 + 0) := hm 18535 (by decide)
  have hj : σ 12804 = 7 := by omega
  exact Or.inr (Or.inr (Or.inr ⟨by omega, by omega, hok, by omega, by omega, ⟨fun _ => (by have := g22.1 0 (by omega); omega), fun _ => (by have := g22.1 1 (by omega); omega), fun _ => (by have := g22.1 2 (by omega); omega), fun _ => (by have := g22.1 3 (by omega); omega), fun _ => (by have := g22.1 4 (by omega); omega), fun _ => (by have := g22.1 5 (by omega); omega), fun _ => (by have := g22.1 6 (by omega); omega), fun h => absurd h (by omega)⟩, ⟨Or.inr ⟨by omega, q18528⟩, Or.inr ⟨by omega, q18529⟩, Or.inr ⟨by omega, q18530⟩, Or.inr ⟨by omega, q18531⟩, Or.inr ⟨by omega, q18532⟩, Or.inr ⟨by omega, q18533⟩, Or.inr ⟨by omega, q18534⟩, Or.inl ⟨hj, by omega⟩⟩⟩))
theorem lw_pm_72 {as : List rv_A} {σ σ' : Nat → Int} {o : rv_O} {x : Int32} {a1 a2 : Int} {A : Nat → Nat → Int} {τ : Nat → Int} (hx : o.1 = some (.inl x)) (h1 : lw_av as 1 = a1) (h2 : lw_av as 2 = a2) (hb : ∀ s, (sx_sr s).1 ≤ σ s ∧ σ s ≤ (sx_sr s).2) (hG : sx_GG σ' A) (hW : lw_W ([(18509, 1, 1099511627770), (18510, 0, 34359738367), (18518, 0, 7), (18519, 0, 6)], [((-1), [(12804, 1)]), (7, [(12804, (-1))]), ((-1), [(19001, 1)]), (293, [(19001, (-1))]), (0, [(19002, 1)]), (9, [(19002, (-1))]), ((-1), [(12804, 1), (1000003, (-1))])], [(12800, (7, [])), (18509, (0, [(1000000, 1)])), (18510, (0, [(1000001, 1)])), (18511, (0, [(19001, 1)])), (18512, (0, [])), (18513, (1, [])), (18517, (0, [(19001, 1)])), (18518, (0, [(1000002, 1)])), (18519, (0, [(1000003, 1)]))], some (false, ((-1), []))) as σ σ' τ o) : lw_pm_C a1 a2 x.toInt σ σ' := by
  unfold lw_pm_C
  have bM : 0 ≤ σ 12804 ∧ σ 12804 ≤ 8 := by
    have h0 := hb 12804
    rw [show sx_sr 12804 = (0, 8) from by decide +kernel] at h0
    exact h0
  obtain ⟨-, -, -, -, -, -, -, -, -, -, -, -, -, -, -, -, -, -, -, g19, g20, -, g22, -, g24⟩ := hG
  obtain ⟨hs, ht, hf, hr, hm, hw⟩ := hW
  have e1 : τ 19001 = a1 := by rw [ht 19001 (by decide) (by decide)]; exact h1
  have e2 : τ 19002 = a2 := by rw [ht 19002 (by decide) (by decide)]; exact h2
  have s133 : τ 133 = σ 133 := hs 133 (by decide)
  have s134 : τ 134 = σ 134 := hs 134 (by decide)
  have s10250 : τ 10250 = σ 10250 := hs 10250 (by decide)
  have s12804 : τ 12804 = σ 12804 := hs 12804 (by decide)
  have s12805 : τ 12805 = σ 12805 := hs 12805 (by decide)
  have s12814 : τ 12814 = σ 12814 := hs 12814 (by decide)
  have s18520 : τ 18520 = σ 18520 := hs 18520 (by decide)
  have s18521 : τ 18521 = σ 18521 := hs 18521 (by decide)
  have s18522 : τ 18522 = σ 18522 := hs 18522 (by decide)
  have s18523 : τ 18523 = σ 18523 := hs 18523 (by decide)
  have s18524 : τ 18524 = σ 18524 := hs 18524 (by decide)
  have s18525 : τ 18525 = σ 18525 := hs 18525 (by decide)
  have s18526 : τ 18526 = σ 18526 := hs 18526 (by decide)
  have s18527 : τ 18527 = σ 18527 := hs 18527 (by decide)
  have s18528 : τ 18528 = σ 18528 := hs 18528 (by decide)
  have s18529 : τ 18529 = σ 18529 := hs 18529 (by decide)
  have s18530 : τ 18530 = σ 18530 := hs 18530 (by decide)
  have s18531 : τ 18531 = σ 18531 := hs 18531 (by decide)
  have s18532 : τ 18532 = σ 18532 := hs 18532 (by decide)
  have s18533 : τ 18533 = σ 18533 := hs 18533 (by decide)
  have s18534 : τ 18534 = σ 18534 := hs 18534 (by decide)
  have s18535 : τ 18535 = σ 18535 := hs 18535 (by decide)
  clear ht hb h1 h2
  rw [hx] at hr
  clear hx
  obtain ⟨y, hy, hv⟩ := hr
  cases hy
  replace hv : x.toInt = (-1) + 0 := hv
  have sm : σ' 133 = σ 133 ∧ σ' 134 = σ 134 ∧ σ' 12805 = σ 12805 ∧ σ' 10250 = σ 10250 ∧ σ' 12814 = σ 12814 ∧ σ' 18520 = σ 18520 ∧ σ' 18521 = σ 18521 ∧ σ' 18522 = σ 18522 ∧ σ' 18523 = σ 18523 ∧ σ' 18524 = σ 18524 ∧ σ' 18525 = σ 18525 ∧ σ' 18526 = σ 18526 ∧ σ' 18527 = σ 18527 := ⟨lw_id s133 (hm 133 (by decide)), lw_id s134 (hm 134 (by decide)), lw_id s12805 (hm 12805 (by decide)), lw_id s10250 (hm 10250 (by decide)), lw_id s12814 (hm 12814 (by decide)), lw_id s18520 (hm 18520 (by decide)), lw_id s18521 (hm 18521 (by decide)), lw_id s18522 (hm 18522 (by decide)), lw_id s18523 (hm 18523 (by decide)), lw_id s18524 (hm 18524 (by decide)), lw_id s18525 (hm 18525 (by decide)), lw_id s18526 (hm 18526 (by decide)), lw_id s18527 (hm 18527 (by decide))⟩
  refine ⟨?_, sm⟩
  clear sm
  have f0 : 0 ≤ (-1) + (1 * τ 12804 + 0) := hf _ (List.Mem.head _)
  have f1 : 0 ≤ 7 + ((-1) * τ 12804 + 0) := hf _ (List.Mem.tail _ (List.Mem.head _))
  have f2 : 0 ≤ (-1) + (1 * τ 19001 + 0) := hf _ (List.Mem.tail _ (List.Mem.tail _ (List.Mem.head _)))
  have f3 : 0 ≤ 293 + ((-1) * τ 19001 + 0) := hf _ (List.Mem.tail _ (List.Mem.tail _ (List.Mem.tail _ (List.Mem.head _))))
  have f4 : 0 ≤ 0 + (1 * τ 19002 + 0) := hf _ (List.Mem.tail _ (List.Mem.tail _ (List.Mem.tail _ (List.Mem.tail _ (List.Mem.head _)))))
  have f5 : 0 ≤ 9 + ((-1) * τ 19002 + 0) := hf _ (List.Mem.tail _ (List.Mem.tail _ (List.Mem.tail _ (List.Mem.tail _ (List.Mem.tail _ (List.Mem.head _))))))
  have f6 : 0 ≤ (-1) + (1 * τ 12804 + ((-1) * τ 1000003 + 0)) := hf _ (List.Mem.tail _ (List.Mem.tail _ (List.Mem.tail _ (List.Mem.tail _ (List.Mem.tail _ (List.Mem.tail _ (List.Mem.head _)))))))
  have m18511 : σ' 18511 = 0 + (1 * τ 19001 + 0) := hm 18511 (by decide)
  have m18512 : σ' 18512 = 0 + 0 := hm 18512 (by decide)
  have m18513 : σ' 18513 = 1 + 0 := hm 18513 (by decide)
  have hok : lw_OK a1 a2 := by
    refine ⟨?_, by omega, by omega, ⟨by omega, by omega, by omega, by omega, by omega, by omega, by omega, by omega⟩, by omega, by omega⟩
    have h0 := g20.1 (by omega)
    rw [show σ' 18511 = a1 by omega, show σ' 18512 = 0 by omega] at h0
    exact h0.mpr sx_gdn_0
  have m18517 : σ' 18517 = 0 + (1 * τ 19001 + 0) := hm 18517 (by decide)
  have m18519 : σ' 18519 = 0 + (1 * τ 1000003 + 0) := hm 18519 (by decide)
  have w3 : 0 ≤ τ 1000003 ∧ τ 1000003 ≤ 6 := hw 3 _ rfl
  have k0 := g22.2 (by omega)
  obtain ⟨n0, n1, n2, n3, n4, n5, n6, n7⟩ := g24
  have q18528 := lw_id s18528 (hm 18528 (by decide))
  have q18529 := lw_id s18529 (hm 18529 (by decide))
  have q18530 := lw_id s18530 (hm 18530 (by decide))
  have q18531 := lw_id s18531 (hm 18531 (by decide))
  have q18532 := lw_id s18532 (hm 18532 (by decide))
  have q18533 := lw_id s18533 (hm 18533 (by decide))
  have q18534 := lw_id s18534 (hm 18534 (by decide))
  have q18535 := lw_id s18535 (hm 18535 (by decide))
  refine Or.inr (Or.inr (Or.inl ⟨by omega, ⟨lw_id s12804 (hm 12804 (by decide)), lw_id s18528 (hm 18528 (by decide)), lw_id s18529 (hm 18529 (by decide)), lw_id s18530 (hm 18530 (by decide)), lw_id s18531 (hm 18531 (by decide)), lw_id s18532 (hm 18532 (by decide)), lw_id s18533 (hm 18533 (by decide)), lw_id s18534 (hm 18534 (by decide)), lw_id s18535 (hm 18535 (by decide))⟩, hok, by omega, ?_⟩))
  rcases (show σ' 18519 = 0 ∨ σ' 18519 = 1 ∨ σ' 18519 = 2 ∨ σ' 18519 = 3 ∨ σ' 18519 = 4 ∨ σ' 18519 = 5 ∨ σ' 18519 = 6 ∨ σ' 18519 = 7 by omega) with kj | kj | kj | kj | kj | kj | kj | kj
  · rw [kj] at k0
    replace k0 : A 104 0 = σ' 18517 := k0
    exact Or.inl ⟨by omega, by omega⟩
  · rw [kj] at k0
    replace k0 : A 104 1 = σ' 18517 := k0
    exact Or.inr (Or.inl ⟨by omega, by omega⟩)
  · rw [kj] at k0
    replace k0 : A 104 2 = σ' 18517 := k0
    exact Or.inr (Or.inr (Or.inl ⟨by omega, by omega⟩))
  · rw [kj] at k0
    replace k0 : A 104 3 = σ' 18517 := k0
    exact Or.inr (Or.inr (Or.inr (Or.inl ⟨by omega, by omega⟩)))
  · rw [kj] at k0
    replace k0 : A 104 4 = σ' 18517 := k0
    exact Or.inr (Or.inr (Or.inr (Or.inr (Or.inl ⟨by omega, by omega⟩))))
  · rw [kj] at k0
    replace k0 : A 104 5 = σ' 18517 := k0
    exact Or.inr (Or.inr (Or.inr (Or.inr (Or.inr (Or.inl ⟨by omega, by omega⟩)))))
  · rw [kj] at k0
    replace k0 : A 104 6 = σ' 18517 := k0
    exact Or.inr (Or.inr (Or.inr (Or.inr (Or.inr (Or.inr (Or.inl ⟨by omega, by omega⟩))))))
  · rw [kj] at k0
    replace k0 : A 104 7 = σ' 18517 := k0
    exact Or.inr (Or.inr (Or.inr (Or.inr (Or.inr (Or.inr (Or.inr (⟨by omega, by omega⟩)))))))
theorem lw_pm_73 {as : List rv_A} {σ σ' : Nat → Int} {o : rv_O} {x : Int32} {a1 a2 : Int} {A : Nat → Nat → Int} {τ : Nat → Int} (hx : o.1 = some (.inl x)) (h1 : lw_av as 1 = a1) (h2 : lw_av as 2 = a2) (hb : ∀ s, (sx_sr s).1 ≤ σ s ∧ σ s ≤ (sx_sr s).2) (hG : sx_GG σ' A) (hW : lw_W ([(18509, 1, 1099511627770), (18510, 0, 34359738367), (18518, 0, 7), (18519, 0, 6)], [((-1), [(12804, 1)]), (7, [(12804, (-1))]), ((-11567), [(19001, 1)]), (14835, [(19001, (-1))]), (0, [(19002, 1)]), (9, [(19002, (-1))]), ((-1), [(12804, 1), (1000003, (-1))])], [(12800, (7, [])), (18509, (0, [(1000000, 1)])), (18510, (0, [(1000001, 1)])), (18511, (0, [(19001, 1)])), (18512, (0, [])), (18513, (1, [])), (18517, (0, [(19001, 1)])), (18518, (0, [(1000002, 1)])), (18519, (0, [(1000003, 1)]))], some (false, ((-1), []))) as σ σ' τ o) : lw_pm_C a1 a2 x.toInt σ σ' := by
  unfold lw_pm_C
  have bM : 0 ≤ σ 12804 ∧ σ 12804 ≤ 8 := by
    have h0 := hb 12804
    rw [show sx_sr 12804 = (0, 8) from by decide +kernel] at h0
    exact h0
  obtain ⟨-, -, -, -, -, -, -, -, -, -, -, -, -, -, -, -, -, -, -, g19, g20, -, g22, -, g24⟩ := hG
  obtain ⟨hs, ht, hf, hr, hm, hw⟩ := hW
  have e1 : τ 19001 = a1 := by rw [ht 19001 (by decide) (by decide)]; exact h1
  have e2 : τ 19002 = a2 := by rw [ht 19002 (by decide) (by decide)]; exact h2
  have s133 : τ 133 = σ 133 := hs 133 (by decide)
  have s134 : τ 134 = σ 134 := hs 134 (by decide)
  have s10250 : τ 10250 = σ 10250 := hs 10250 (by decide)
  have s12804 : τ 12804 = σ 12804 := hs 12804 (by decide)
  have s12805 : τ 12805 = σ 12805 := hs 12805 (by decide)
  have s12814 : τ 12814 = σ 12814 := hs 12814 (by decide)
  have s18520 : τ 18520 = σ 18520 := hs 18520 (by decide)
  have s18521 : τ 18521 = σ 18521 := hs 18521 (by decide)
  have s18522 : τ 18522 = σ 18522 := hs 18522 (by decide)
  have s18523 : τ 18523 = σ 18523 := hs 18523 (by decide)
  have s18524 : τ 18524 = σ 18524 := hs 18524 (by decide)
  have s18525 : τ 18525 = σ 18525 := hs 18525 (by decide)
  have s18526 : τ 18526 = σ 18526 := hs 18526 (by decide)
  have s18527 : τ 18527 = σ 18527 := hs 18527 (by decide)
  have s18528 : τ 18528 = σ 18528 := hs 18528 (by decide)
  have s18529 : τ 18529 = σ 18529 := hs 18529 (by decide)
  have s18530 : τ 18530 = σ 18530 := hs 18530 (by decide)
  have s18531 : τ 18531 = σ 18531 := hs 18531 (by decide)
  have s18532 : τ 18532 = σ 18532 := hs 18532 (by decide)
  have s18533 : τ 18533 = σ 18533 := hs 18533 (by decide)
  have s18534 : τ 18534 = σ 18534 := hs 18534 (by decide)
  have s18535 : τ 18535 = σ 18535 := hs 18535 (by decide)
  clear ht hb h1 h2
  rw [hx] at hr
  clear hx
  obtain ⟨y, hy, hv⟩ := hr
  cases hy
  replace hv : x.toInt = (-1) + 0 := hv
  have sm : σ' 133 = σ 133 ∧ σ' 134 = σ 134 ∧ σ' 12805 = σ 12805 ∧ σ' 10250 = σ 10250 ∧ σ' 12814 = σ 12814 ∧ σ' 18520 = σ 18520 ∧ σ' 18521 = σ 18521 ∧ σ' 18522 = σ 18522 ∧ σ' 18523 = σ 18523 ∧ σ' 18524 = σ 18524 ∧ σ' 18525 = σ 18525 ∧ σ' 18526 = σ 18526 ∧ σ' 18527 = σ 18527 := ⟨lw_id s133 (hm 133 (by decide)), lw_id s134 (hm 134 (by decide)), lw_id s12805 (hm 12805 (by decide)), lw_id s10250 (hm 10250 (by decide)), lw_id s12814 (hm 12814 (by decide)), lw_id s18520 (hm 18520 (by decide)), lw_id s18521 (hm 18521 (by decide)), lw_id s18522 (hm 18522 (by decide)), lw_id s18523 (hm 18523 (by decide)), lw_id s18524 (hm 18524 (by decide)), lw_id s18525 (hm 18525 (by decide)), lw_id s18526 (hm 18526 (by decide)), lw_id s18527 (hm 18527 (by decide))⟩
  refine ⟨?_, sm⟩
  clear sm
  have f0 : 0 ≤ (-1) + (1 * τ 12804 + 0) := hf _ (List.Mem.head _)
  have f1 : 0 ≤ 7 + ((-1) * τ 12804 + 0) := hf _ (List.Mem.tail _ (List.Mem.head _))
  have f2 : 0 ≤ (-11567) + (1 * τ 19001 + 0) := hf _ (List.Mem.tail _ (List.Mem.tail _ (List.Mem.head _)))
  have f3 : 0 ≤ 14835 + ((-1) * τ 19001 + 0) := hf _ (List.Mem.tail _ (List.Mem.tail _ (List.Mem.tail _ (List.Mem.head _))))
  have f4 : 0 ≤ 0 + (1 * τ 19002 + 0) := hf _ (List.Mem.tail _ (List.Mem.tail _ (List.Mem.tail _ (List.Mem.tail _ (List.Mem.head _)))))
  have f5 : 0 ≤ 9 + ((-1) * τ 19002 + 0) := hf _ (List.Mem.tail _ (List.Mem.tail _ (List.Mem.tail _ (List.Mem.tail _ (List.Mem.tail _ (List.Mem.head _))))))
  have f6 : 0 ≤ (-1) + (1 * τ 12804 + ((-1) * τ 1000003 + 0)) := hf _ (List.Mem.tail _ (List.Mem.tail _ (List.Mem.tail _ (List.Mem.tail _ (List.Mem.tail _ (List.Mem.tail _ (List.Mem.head _)))))))
  have m18511 : σ' 18511 = 0 + (1 * τ 19001 + 0) := hm 18511 (by decide)
  have m18512 : σ' 18512 = 0 + 0 := hm 18512 (by decide)
  have m18513 : σ' 18513 = 1 + 0 := hm 18513 (by decide)
  have hok : lw_OK a1 a2 := by
    refine ⟨?_, by omega, by omega, ⟨by omega, by omega, by omega, by omega, by omega, by omega, by omega, by omega⟩, by omega, by omega⟩
    have h0 := g20.1 (by omega)
    rw [show σ' 18511 = a1 by omega, show σ' 18512 = 0 by omega] at h0
    exact h0.mpr sx_gdn_0
  have m18517 : σ' 18517 = 0 + (1 * τ 19001 + 0) := hm 18517 (by decide)
  have m18519 : σ' 18519 = 0 + (1 * τ 1000003 + 0) := hm 18519 (by decide)
  have w3 : 0 ≤ τ 1000003 ∧ τ 1000003 ≤ 6 := hw 3 _ rfl
  have k0 := g22.2 (by omega)
  obtain ⟨n0, n1, n2, n3, n4, n5, n6, n7⟩ := g24
  have q18528 := lw_id s18528 (hm 18528 (by decide))
  have q18529 := lw_id s18529 (hm 18529 (by decide))
  have q18530 := lw_id s18530 (hm 18530 (by decide))
  have q18531 := lw_id s18531 (hm 18531 (by decide))
  have q18532 := lw_id s18532 (hm 18532 (by decide))
  have q18533 := lw_id s18533 (hm 18533 (by decide))
  have q18534 := lw_id s18534 (hm 18534 (by decide))
  have q18535 := lw_id s18535 (hm 18535 (by decide))
  refine Or.inr (Or.inr (Or.inl ⟨by omega, ⟨lw_id s12804 (hm 12804 (by decide)), lw_id s18528 (hm 18528 (by decide)), lw_id s18529 (hm 18529 (by decide)), lw_id s18530 (hm 18530 (by decide)), lw_id s18531 (hm 18531 (by decide)), lw_id s18532 (hm 18532 (by decide)), lw_id s18533 (hm 18533 (by decide)), lw_id s18534 (hm 18534 (by decide)), lw_id s18535 (hm 18535 (by decide))⟩, hok, by omega, ?_⟩))
  rcases (show σ' 18519 = 0 ∨ σ' 18519 = 1 ∨ σ' 18519 = 2 ∨ σ' 18519 = 3 ∨ σ' 18519 = 4 ∨ σ' 18519 = 5 ∨ σ' 18519 = 6 ∨ σ' 18519 = 7 by omega) with kj | kj | kj | kj | kj | kj | kj | kj
  · rw [kj] at k0
    replace k0 : A 104 0 = σ' 18517 := k0
    exact Or.inl ⟨by omega, by omega⟩
  · rw [kj] at k0
    replace k0 : A 104 1 = σ' 18517 := k0
    exact Or.inr (Or.inl ⟨by omega, by omega⟩)
  · rw [kj] at k0
    replace k0 : A 104 2 = σ' 18517 := k0
    exact Or.inr (Or.inr (Or.inl ⟨by omega, by omega⟩))
  · rw [kj] at k0
    replace k0 : A 104 3 = σ' 18517 := k0
    exact Or.inr (Or.inr (Or.inr (Or.inl ⟨by omega, by omega⟩)))
  · rw [kj] at k0
    replace k0 : A 104 4 = σ' 18517 := k0
    exact Or.inr (Or.inr (Or.inr (Or.inr (Or.inl ⟨by omega, by omega⟩))))
  · rw [kj] at k0
    replace k0 : A 104 5 = σ' 18517 := k0
    exact Or.inr (Or.inr (Or.inr (Or.inr (Or.inr (Or.inl ⟨by omega, by omega⟩)))))
  · rw [kj] at k0
    replace k0 : A 104 6 = σ' 18517 := k0
    exact Or.inr (Or.inr (Or.inr (Or.inr (Or.inr (Or.inr (Or.inl ⟨by omega, by omega⟩))))))
  · rw [kj] at k0
    replace k0 : A 104 7 = σ' 18517 := k0
    exact Or.inr (Or.inr (Or.inr (Or.inr (Or.inr (Or.inr (Or.inr (⟨by omega, by omega⟩)))))))
theorem lw_pm_74 {as : List rv_A} {σ σ' : Nat → Int} {o : rv_O} {x : Int32} {a1 a2 : Int} {A : Nat → Nat → Int} {τ : Nat → Int} (hx : o.1 = some (.inl x)) (h1 : lw_av as 1 = a1) (h2 : lw_av as 2 = a2) (hb : ∀ s, (sx_sr s).1 ≤ σ s ∧ σ s ≤ (sx_sr s).2) (hG : sx_GG σ' A) (hW : lw_W ([(18509, 1, 1099511627770), (18510, 0, 34359738367), (18518, 0, 7), (18519, 0, 6)], [((-1), [(12804, 1)]), (7, [(12804, (-1))]), ((-1157), [(19001, 1)]), (1475, [(19001, (-1))]), (0, [(19002, 1)]), (9, [(19002, (-1))]), ((-1), [(12804, 1), (1000003, (-1))])], [(12800, (7, [])), (18509, (0, [(1000000, 1)])), (18510, (0, [(1000001, 1)])), (18511, (0, [(19001, 1)])), (18512, (0, [])), (18513, (1, [])), (18517, (0, [(19001, 1)])), (18518, (0, [(1000002, 1)])), (18519, (0, [(1000003, 1)]))], some (false, ((-1), []))) as σ σ' τ o) : lw_pm_C a1 a2 x.toInt σ σ' := by
  unfold lw_pm_C
  have bM : 0 ≤ σ 12804 ∧ σ 12804 ≤ 8 := by
    have h0 := hb 12804
    rw [show sx_sr 12804 = (0, 8) from by decide +kernel] at h0
    exact h0
  obtain ⟨-, -, -, -, -, -, -, -, -, -, -, -, -, -, -, -, -, -, -, g19, g20, -, g22, -, g24⟩ := hG
  obtain ⟨hs, ht, hf, hr, hm, hw⟩ := hW
  have e1 : τ 19001 = a1 := by rw [ht 19001 (by decide) (by decide)]; exact h1
  have e2 : τ 19002 = a2 := by rw [ht 19002 (by decide) (by decide)]; exact h2
  have s133 : τ 133 = σ 133 := hs 133 (by decide)
  have s134 : τ 134 = σ 134 := hs 134 (by decide)
  have s10250 : τ 10250 = σ 10250 := hs 10250 (by decide)
  have s12804 : τ 12804 = σ 12804 := hs 12804 (by decide)
  have s12805 : τ 12805 = σ 12805 := hs 12805 (by decide)
  have s12814 : τ 12814 = σ 12814 := hs 12814 (by decide)
  have s18520 : τ 18520 = σ 18520 := hs 18520 (by decide)
  have s18521 : τ 18521 = σ 18521 := hs 18521 (by decide)
  have s18522 : τ 18522 = σ 18522 := hs 18522 (by decide)
  have s18523 : τ 18523 = σ 18523 := hs 18523 (by decide)
  have s18524 : τ 18524 = σ 18524 := hs 18524 (by decide)
  have s18525 : τ 18525 = σ 18525 := hs 18525 (by decide)
  have s18526 : τ 18526 = σ 18526 := hs 18526 (by decide)
  have s18527 : τ 18527 = σ 18527 := hs 18527 (by decide)
  have s18528 : τ 18528 = σ 18528 := hs 18528 (by decide)
  have s18529 : τ 18529 = σ 18529 := hs 18529 (by decide)
  have s18530 : τ 18530 = σ 18530 := hs 18530 (by decide)
  have s18531 : τ 18531 = σ 18531 := hs 18531 (by decide)
  have s18532 : τ 18532 = σ 18532 := hs 18532 (by decide)
  have s18533 : τ 18533 = σ 18533 := hs 18533 (by decide)
  have s18534 : τ 18534 = σ 18534 := hs 18534 (by decide)
  have s18535 : τ 18535 = σ 18535 := hs 18535 (by decide)
  clear ht hb h1 h2
  rw [hx] at hr
  clear hx
  obtain ⟨y, hy, hv⟩ := hr
  cases hy
  replace hv : x.toInt = (-1) + 0 := hv
  have sm : σ' 133 = σ 133 ∧ σ' 134 = σ 134 ∧ σ' 12805 = σ 12805 ∧ σ' 10250 = σ 10250 ∧ σ' 12814 = σ 12814 ∧ σ' 18520 = σ 18520 ∧ σ' 18521 = σ 18521 ∧ σ' 18522 = σ 18522 ∧ σ' 18523 = σ 18523 ∧ σ' 18524 = σ 18524 ∧ σ' 18525 = σ 18525 ∧ σ' 18526 = σ 18526 ∧ σ' 18527 = σ 18527 := ⟨lw_id s133 (hm 133 (by decide)), lw_id s134 (hm 134 (by decide)), lw_id s12805 (hm 12805 (by decide)), lw_id s10250 (hm 10250 (by decide)), lw_id s12814 (hm 12814 (by decide)), lw_id s18520 (hm 18520 (by decide)), lw_id s18521 (hm 18521 (by decide)), lw_id s18522 (hm 18522 (by decide)), lw_id s18523 (hm 18523 (by decide)), lw_id s18524 (hm 18524 (by decide)), lw_id s18525 (hm 18525 (by decide)), lw_id s18526 (hm 18526 (by decide)), lw_id s18527 (hm 18527 (by decide))⟩
  refine ⟨?_, sm⟩
  clear sm
  have f0 : 0 ≤ (-1) + (1 * τ 12804 + 0) := hf _ (List.Mem.head _)
  have f1 : 0 ≤ 7 + ((-1) * τ 12804 + 0) := hf _ (List.Mem.tail _ (List.Mem.head _))
  have f2 : 0 ≤ (-1157) + (1 * τ 19001 + 0) := hf _ (List.Mem.tail _ (List.Mem.tail _ (List.Mem.head _)))
  have f3 : 0 ≤ 1475 + ((-1) * τ 19001 + 0) := hf _ (List.Mem.tail _ (List.Mem.tail _ (List.Mem.tail _ (List.Mem.head _))))
  have f4 : 0 ≤ 0 + (1 * τ 19002 + 0) := hf _ (List.Mem.tail _ (List.Mem.tail _ (List.Mem.tail _ (List.Mem.tail _ (List.Mem.head _)))))
  have f5 : 0 ≤ 9 + ((-1) * τ 19002 + 0) := hf _ (List.Mem.tail _ (List.Mem.tail _ (List.Mem.tail _ (List.Mem.tail _ (List.Mem.tail _ (List.Mem.head _))))))
  have f6 : 0 ≤ (-1) + (1 * τ 12804 + ((-1) * τ 1000003 + 0)) := hf _ (List.Mem.tail _ (List.Mem.tail _ (List.Mem.tail _ (List.Mem.tail _ (List.Mem.tail _ (List.Mem.tail _ (List.Mem.head _)))))))
  have m18511 : σ' 18511 = 0 + (1 * τ 19001 + 0) := hm 18511 (by decide)
  have m18512 : σ' 18512 = 0 + 0 := hm 18512 (by decide)
  have m18513 : σ' 18513 = 1 + 0 := hm 18513 (by decide)
  have hok : lw_OK a1 a2 := by
    refine ⟨?_, by omega, by omega, ⟨by omega, by omega, by omega, by omega, by omega, by omega, by omega, by omega⟩, by omega, by omega⟩
    have h0 := g20.1 (by omega)
    rw [show σ' 18511 = a1 by omega, show σ' 18512 = 0 by omega] at h0
    exact h0.mpr sx_gdn_0
  have m18517 : σ' 18517 = 0 + (1 * τ 19001 + 0) := hm 18517 (by decide)
  have m18519 : σ' 18519 = 0 + (1 * τ 1000003 + 0) := hm 18519 (by decide)
  have w3 : 0 ≤ τ 1000003 ∧ τ 1000003 ≤ 6 := hw 3 _ rfl
  have k0 := g22.2 (by omega)
  obtain ⟨n0, n1, n2, n3, n4, n5, n6, n7⟩ := g24
  have q18528 := lw_id s18528 (hm 18528 (by decide))
  have q18529 := lw_id s18529 (hm 18529 (by decide))
  have q18530 := lw_id s18530 (hm 18530 (by decide))
  have q18531 := lw_id s18531 (hm 18531 (by decide))
  have q18532 := lw_id s18532 (hm 18532 (by decide))
  have q18533 := lw_id s18533 (hm 18533 (by decide))
  have q18534 := lw_id s18534 (hm 18534 (by decide))
  have q18535 := lw_id s18535 (hm 18535 (by decide))
  refine Or.inr (Or.inr (Or.inl ⟨by omega, ⟨lw_id s12804 (hm 12804 (by decide)), lw_id s18528 (hm 18528 (by decide)), lw_id s18529 (hm 18529 (by decide)), lw_id s18530 (hm 18530 (by decide)), lw_id s18531 (hm 18531 (by decide)), lw_id s18532 (hm 18532 (by decide)), lw_id s18533 (hm 18533 (by decide)), lw_id s18534 (hm 18534 (by decide)), lw_id s18535 (hm 18535 (by decide))⟩, hok, by omega, ?_⟩))
  rcases (show σ' 18519 = 0 ∨ σ' 18519 = 1 ∨ σ' 18519 = 2 ∨ σ' 18519 = 3 ∨ σ' 18519 = 4 ∨ σ' 18519 = 5 ∨ σ' 18519 = 6 ∨ σ' 18519 = 7 by omega) with kj | kj | kj | kj | kj | kj | kj | kj
  · rw [kj] at k0
    replace k0 : A 104 0 = σ' 18517 := k0
    exact Or.inl ⟨by omega, by omega⟩
  · rw [kj] at k0
    replace k0 : A 104 1 = σ' 18517 := k0
    exact Or.inr (Or.inl ⟨by omega, by omega⟩)
  · rw [kj] at k0
    replace k0 : A 104 2 = σ' 18517 := k0
    exact Or.inr (Or.inr (Or.inl ⟨by omega, by omega⟩))
  · rw [kj] at k0
    replace k0 : A 104 3 = σ' 18517 := k0
    exact Or.inr (Or.inr (Or.inr (Or.inl ⟨by omega, by omega⟩)))
  · rw [kj] at k0
    replace k0 : A 104 4 = σ' 18517 := k0
    exact Or.inr (Or.inr (Or.inr (Or.inr (Or.inl ⟨by omega, by omega⟩))))
  · rw [kj] at k0
    replace k0 : A 104 5 = σ' 18517 := k0
    exact Or.inr (Or.inr (Or.inr (Or.inr (Or.inr (Or.inl ⟨by omega, by omega⟩)))))
  · rw [kj] at k0
    replace k0 : A 104 6 = σ' 18517 := k0
    exact Or.inr (Or.inr (Or.inr (Or.inr (Or.inr (Or.inr (Or.inl ⟨by omega, by omega⟩))))))
  · rw [kj] at k0
    replace k0 : A 104 7 = σ' 18517 := k0
    exact Or.inr (Or.inr (Or.inr (Or.inr (Or.inr (Or.inr (Or.inr (⟨by omega, by omega⟩)))))))
theorem lw_pm_75 {as : List rv_A} {σ σ' : Nat → Int} {o : rv_O} {x : Int32} {a1 a2 : Int} {A : Nat → Nat → Int} {τ : Nat → Int} (hx : o.1 = some (.inl x)) (h1 : lw_av as 1 = a1) (h2 : lw_av as 2 = a2) (hb : ∀ s, (sx_sr s).1 ≤ σ s ∧ σ s ≤ (sx_sr s).2) (hG : sx_GG σ' A) (hW : lw_W ([(18509, 1, 1099511627770), (18510, 0, 34359738367), (18518, 0, 7), (18519, 0, 6)], [((-1), [(12804, 1)]), (7, [(12804, (-1))]), ((-1477), [(19001, 1)]), (2097, [(19001, (-1))]), (0, [(19002, 1)]), (9, [(19002, (-1))]), ((-1), [(12804, 1), (1000003, (-1))])], [(12800, (7, [])), (18509, (0, [(1000000, 1)])), (18510, (0, [(1000001, 1)])), (18511, (0, [(19001, 1)])), (18512, (0, [])), (18513, (1, [])), (18517, (0, [(19001, 1)])), (18518, (0, [(1000002, 1)])), (18519, (0, [(1000003, 1)]))], some (false, ((-1), []))) as σ σ' τ o) : lw_pm_C a1 a2 x.toInt σ σ' := by
  unfold lw_pm_C
  have bM : 0 ≤ σ 12804 ∧ σ 12804 ≤ 8 := by
    have h0 := hb 12804
    rw [show sx_sr 12804 = (0, 8) from by decide +kernel] at h0
    exact h0
  obtain ⟨-, -, -, -, -, -, -, -, -, -, -, -, -, -, -, -, -, -, -, g19, g20, -, g22, -, g24⟩ := hG
  obtain ⟨hs, ht, hf, hr, hm, hw⟩ := hW
  have e1 : τ 19001 = a1 := by rw [ht 19001 (by decide) (by decide)]; exact h1
  have e2 : τ 19002 = a2 := by rw [ht 19002 (by decide) (by decide)]; exact h2
  have s133 : τ 133 = σ 133 := hs 133 (by decide)
  have s134 : τ 134 = σ 134 := hs 134 (by decide)
  have s10250 : τ 10250 = σ 10250 := hs 10250 (by decide)
  have s12804 : τ 12804 = σ 12804 := hs 12804 (by decide)
  have s12805 : τ 12805 = σ 12805 := hs 12805 (by decide)
  have s12814 : τ 12814 = σ 12814 := hs 12814 (by decide)
  have s18520 : τ 18520 = σ 18520 := hs 18520 (by decide)
  have s18521 : τ 18521 = σ 18521 := hs 18521 (by decide)
  have s18522 : τ 18522 = σ 18522 := hs 18522 (by decide)
  have s18523 : τ 18523 = σ 18523 := hs 18523 (by decide)
  have s18524 : τ 18524 = σ 18524 := hs 18524 (by decide)
  have s18525 : τ 18525 = σ 18525 := hs 18525 (by decide)
  have s18526 : τ 18526 = σ 18526 := hs 18526 (by decide)
  have s18527 : τ 18527 = σ 18527 := hs 18527 (by decide)
  have s18528 : τ 18528 = σ 18528 := hs 18528 (by decide)
  have s18529 : τ 18529 = σ 18529 := hs 18529 (by decide)
  have s18530 : τ 18530 = σ 18530 := hs 18530 (by decide)
  have s18531 : τ 18531 = σ 18531 := hs 18531 (by decide)
  have s18532 : τ 18532 = σ 18532 := hs 18532 (by decide)
  have s18533 : τ 18533 = σ 18533 := hs 18533 (by decide)
  have s18534 : τ 18534 = σ 18534 := hs 18534 (by decide)
  have s18535 : τ 18535 = σ 18535 := hs 18535 (by decide)
  clear ht hb h1 h2
  rw [hx] at hr
  clear hx
  obtain ⟨y, hy, hv⟩ := hr
  cases hy
  replace hv : x.toInt = (-1) + 0 := hv
  have sm : σ' 133 = σ 133 ∧ σ' 134 = σ 134 ∧ σ' 12805 = σ 12805 ∧ σ' 10250 = σ 10250 ∧ σ' 12814 = σ 12814 ∧ σ' 18520 = σ 18520 ∧ σ' 18521 = σ 18521 ∧ σ' 18522 = σ 18522 ∧ σ' 18523 = σ 18523 ∧ σ' 18524 = σ 18524 ∧ σ' 18525 = σ 18525 ∧ σ' 18526 = σ 18526 ∧ σ' 18527 = σ 18527 := ⟨lw_id s133 (hm 133 (by decide)), lw_id s134 (hm 134 (by decide)), lw_id s12805 (hm 12805 (by decide)), lw_id s10250 (hm 10250 (by decide)), lw_id s12814 (hm 12814 (by decide)), lw_id s18520 (hm 18520 (by decide)), lw_id s18521 (hm 18521 (by decide)), lw_id s18522 (hm 18522 (by decide)), lw_id s18523 (hm 18523 (by decide)), lw_id s18524 (hm 18524 (by decide)), lw_id s18525 (hm 18525 (by decide)), lw_id s18526 (hm 18526 (by decide)), lw_id s18527 (hm 18527 (by decide))⟩
  refine ⟨?_, sm⟩
  clear sm
  have f0 : 0 ≤ (-1) + (1 * τ 12804 + 0) := hf _ (List.Mem.head _)
  have f1 : 0 ≤ 7 + ((-1) * τ 12804 + 0) := hf _ (List.Mem.tail _ (List.Mem.head _))
  have f2 : 0 ≤ (-1477) + (1 * τ 19001 + 0) := hf _ (List.Mem.tail _ (List.Mem.tail _ (List.Mem.head _)))
  have f3 : 0 ≤ 2097 + ((-1) * τ 19001 + 0) := hf _ (List.Mem.tail _ (List.Mem.tail _ (List.Mem.tail _ (List.Mem.head _))))
  have f4 : 0 ≤ 0 + (1 * τ 19002 + 0) := hf _ (List.Mem.tail _ (List.Mem.tail _ (List.Mem.tail _ (List.Mem.tail _ (List.Mem.head _)))))
  have f5 : 0 ≤ 9 + ((-1) * τ 19002 + 0) := hf _ (List.Mem.tail _ (List.Mem.tail _ (List.Mem.tail _ (List.Mem.tail _ (List.Mem.tail _ (List.Mem.head _))))))
  have f6 : 0 ≤ (-1) + (1 * τ 12804 + ((-1) * τ 1000003 + 0)) := hf _ (List.Mem.tail _ (List.Mem.tail _ (List.Mem.tail _ (List.Mem.tail _ (List.Mem.tail _ (List.Mem.tail _ (List.Mem.head _)))))))
  have m18511 : σ' 18511 = 0 + (1 * τ 19001 + 0) := hm 18511 (by decide)
  have m18512 : σ' 18512 = 0 + 0 := hm 18512 (by decide)
  have m18513 : σ' 18513 = 1 + 0 := hm 18513 (by decide)
  have hok : lw_OK a1 a2 := by
    refine ⟨?_, by omega, by omega, ⟨by omega, by omega, by omega, by omega, by omega, by omega, by omega, by omega⟩, by omega, by omega⟩
    have h0 := g20.1 (by omega)
    rw [show σ' 18511 = a1 by omega, show σ' 18512 = 0 by omega] at h0
    exact h0.mpr sx_gdn_0
  have m18517 : σ' 18517 = 0 + (1 * τ 19001 + 0) := hm 18517 (by decide)
  have m18519 : σ' 18519 = 0 + (1 * τ 1000003 + 0) := hm 18519 (by decide)
  have w3 : 0 ≤ τ 1000003 ∧ τ 1000003 ≤ 6 := hw 3 _ rfl
  have k0 := g22.2 (by omega)
  obtain ⟨n0, n1, n2, n3, n4, n5, n6, n7⟩ := g24
  have q18528 := lw_id s18528 (hm 18528 (by decide))
  have q18529 := lw_id s18529 (hm 18529 (by decide))
  have q18530 := lw_id s18530 (hm 18530 (by decide))
  have q18531 := lw_id s18531 (hm 18531 (by decide))
  have q18532 := lw_id s18532 (hm 18532 (by decide))
  have q18533 := lw_id s18533 (hm 18533 (by decide))
  have q18534 := lw_id s18534 (hm 18534 (by decide))
  have q18535 := lw_id s18535 (hm 18535 (by decide))
  refine Or.inr (Or.inr (Or.inl ⟨by omega, ⟨lw_id s12804 (hm 12804 (by decide)), lw_id s18528 (hm 18528 (by decide)), lw_id s18529 (hm 18529 (by decide)), lw_id s18530 (hm 18530 (by decide)), lw_id s18531 (hm 18531 (by decide)), lw_id s18532 (hm 18532 (by decide)), lw_id s18533 (hm 18533 (by decide)), lw_id s18534 (hm 18534 (by decide)), lw_id s18535 (hm 18535 (by decide))⟩, hok, by omega, ?_⟩))
  rcases (show σ' 18519 = 0 ∨ σ' 18519 = 1 ∨ σ' 18519 = 2 ∨ σ' 18519 = 3 ∨ σ' 18519 = 4 ∨ σ' 18519 = 5 ∨ σ' 18519 = 6 ∨ σ' 18519 = 7 by omega) with kj | kj | kj | kj | kj | kj | kj | kj
  · rw [kj] at k0
    replace k0 : A 104 0 = σ' 18517 := k0
    exact Or.inl ⟨by omega, by omega⟩
  · rw [kj] at k0
    replace k0 : A 104 1 = σ' 18517 := k0
    exact Or.inr (Or.inl ⟨by omega, by omega⟩)
  · rw [kj] at k0
    replace k0 : A 104 2 = σ' 18517 := k0
    exact Or.inr (Or.inr (Or.inl ⟨by omega, by omega⟩))
  · rw [kj] at k0
    replace k0 : A 104 3 = σ' 18517 := k0
    exact Or.inr (Or.inr (Or.inr (Or.inl ⟨by omega, by omega⟩)))
  · rw [kj] at k0
    replace k0 : A 104 4 = σ' 18517 := k0
    exact Or.inr (Or.inr (Or.inr (Or.inr (Or.inl ⟨by omega, by omega⟩))))
  · rw [kj] at k0
    replace k0 : A 104 5 = σ' 18517 := k0
    exact Or.inr (Or.inr (Or.inr (Or.inr (Or.inr (Or.inl ⟨by omega, by omega⟩)))))
  · rw [kj] at k0
    replace k0 : A 104 6 = σ' 18517 := k0
    exact Or.inr (Or.inr (Or.inr (Or.inr (Or.inr (Or.inr (Or.inl ⟨by omega, by omega⟩))))))
  · rw [kj] at k0
    replace k0 : A 104 7 = σ' 18517 := k0
    exact Or.inr (Or.inr (Or.inr (Or.inr (Or.inr (Or.inr (Or.inr (⟨by omega, by omega⟩)))))))
theorem lw_pm_76 {as : List rv_A} {σ σ' : Nat → Int} {o : rv_O} {x : Int32} {a1 a2 : Int} {A : Nat → Nat → Int} {τ : Nat → Int} (hx : o.1 = some (.inl x)) (h1 : lw_av as 1 = a1) (h2 : lw_av as 2 = a2) (hb : ∀ s, (sx_sr s).1 ≤ σ s ∧ σ s ≤ (sx_sr s).2) (hG : sx_GG σ' A) (hW : lw_W ([(18509, 1, 1099511627770), (18510, 0, 34359738367), (18518, 0, 7), (18519, 0, 6)], [((-1), [(12804, 1)]), (7, [(12804, (-1))]), ((-14837), [(19001, 1)]), (632644, [(19001, (-1))]), (0, [(19002, 1)]), (9, [(19002, (-1))]), ((-1), [(12804, 1), (1000003, (-1))])], [(12800, (7, [])), (18509, (0, [(1000000, 1)])), (18510, (0, [(1000001, 1)])), (18511, (0, [(19001, 1)])), (18512, (0, [])), (18513, (1, [])), (18517, (0, [(19001, 1)])), (18518, (0, [(1000002, 1)])), (18519, (0, [(1000003, 1)]))], some (false, ((-1), []))) as σ σ' τ o) : lw_pm_C a1 a2 x.toInt σ σ' := by
  unfold lw_pm_C
  have bM : 0 ≤ σ 12804 ∧ σ 12804 ≤ 8 := by
    have h0 := hb 12804
    rw [show sx_sr 12804 = (0, 8) from by decide +kernel] at h0
    exact h0
  obtain ⟨-, -, -, -, -, -, -, -, -, -, -, -, -, -, -, -, -, -, -, g19, g20, -, g22, -, g24⟩ := hG
  obtain ⟨hs, ht, hf, hr, hm, hw⟩ := hW
  have e1 : τ 19001 = a1 := by rw [ht 19001 (by decide) (by decide)]; exact h1
  have e2 : τ 19002 = a2 := by rw [ht 19002 (by decide) (by decide)]; exact h2
  have s133 : τ 133 = σ 133 := hs 133 (by decide)
  have s134 : τ 134 = σ 134 := hs 134 (by decide)
  have s10250 : τ 10250 = σ 10250 := hs 10250 (by decide)
  have s12804 : τ 12804 = σ 12804 := hs 12804 (by decide)
  have s12805 : τ 12805 = σ 12805 := hs 12805 (by decide)
  have s12814 : τ 12814 = σ 12814 := hs 12814 (by decide)
  have s18520 : τ 18520 = σ 18520 := hs 18520 (by decide)
  have s18521 : τ 18521 = σ 18521 := hs 18521 (by decide)
  have s18522 : τ 18522 = σ 18522 := hs 18522 (by decide)
  have s18523 : τ 18523 = σ 18523 := hs 18523 (by decide)
  have s18524 : τ 18524 = σ 18524 := hs 18524 (by decide)
  have s18525 : τ 18525 = σ 18525 := hs 18525 (by decide)
  have s18526 : τ 18526 = σ 18526 := hs 18526 (by decide)
  have s18527 : τ 18527 = σ 18527 := hs 18527 (by decide)
  have s18528 : τ 18528 = σ 18528 := hs 18528 (by decide)
  have s18529 : τ 18529 = σ 18529 := hs 18529 (by decide)
  have s18530 : τ 18530 = σ 18530 := hs 18530 (by decide)
  have s18531 : τ 18531 = σ 18531 := hs 18531 (by decide)
  have s18532 : τ 18532 = σ 18532 := hs 18532 (by decide)
  have s18533 : τ 18533 = σ 18533 := hs 18533 (by decide)
  have s18534 : τ 18534 = σ 18534 := hs 18534 (by decide)
  have s18535 : τ 18535 = σ 18535 := hs 18535 (by decide)
  clear ht hb h1 h2
  rw [hx] at hr
  clear hx
  obtain ⟨y, hy, hv⟩ := hr
  cases hy
  replace hv : x.toInt = (-1) + 0 := hv
  have sm : σ' 133 = σ 133 ∧ σ' 134 = σ 134 ∧ σ' 12805 = σ 12805 ∧ σ' 10250 = σ 10250 ∧ σ' 12814 = σ 12814 ∧ σ' 18520 = σ 18520 ∧ σ' 18521 = σ 18521 ∧ σ' 18522 = σ 18522 ∧ σ' 18523 = σ 18523 ∧ σ' 18524 = σ 18524 ∧ σ' 18525 = σ 18525 ∧ σ' 18526 = σ 18526 ∧ σ' 18527 = σ 18527 := ⟨lw_id s133 (hm 133 (by decide)), lw_id s134 (hm 134 (by decide)), lw_id s12805 (hm 12805 (by decide)), lw_id s10250 (hm 10250 (by decide)), lw_id s12814 (hm 12814 (by decide)), lw_id s18520 (hm 18520 (by decide)), lw_id s18521 (hm 18521 (by decide)), lw_id s18522 (hm 18522 (by decide)), lw_id s18523 (hm 18523 (by decide)), lw_id s18524 (hm 18524 (by decide)), lw_id s18525 (hm 18525 (by decide)), lw_id s18526 (hm 18526 (by decide)), lw_id s18527 (hm 18527 (by decide))⟩
  refine ⟨?_, sm⟩
  clear sm
  have f0 : 0 ≤ (-1) + (1 * τ 12804 + 0) := hf _ (List.Mem.head _)
  have f1 : 0 ≤ 7 + ((-1) * τ 12804 + 0) := hf _ (List.Mem.tail _ (List.Mem.head _))
  have f2 : 0 ≤ (-14837) + (1 * τ 19001 + 0) := hf _ (List.Mem.tail _ (List.Mem.tail _ (List.Mem.head _)))
  have f3 : 0 ≤ 632644 + ((-1) * τ 19001 + 0) := hf _ (List.Mem.tail _ (List.Mem.tail _ (List.Mem.tail _ (List.Mem.head _))))
  have f4 : 0 ≤ 0 + (1 * τ 19002 + 0) := hf _ (List.Mem.tail _ (List.Mem.tail _ (List.Mem.tail _ (List.Mem.tail _ (List.Mem.head _)))))
  have f5 : 0 ≤ 9 + ((-1) * τ 19002 + 0) := hf _ (List.Mem.tail _ (List.Mem.tail _ (List.Mem.tail _ (List.Mem.tail _ (List.Mem.tail _ (List.Mem.head _))))))
  have f6 : 0 ≤ (-1) + (1 * τ 12804 + ((-1) * τ 1000003 + 0)) := hf _ (List.Mem.tail _ (List.Mem.tail _ (List.Mem.tail _ (List.Mem.tail _ (List.Mem.tail _ (List.Mem.tail _ (List.Mem.head _)))))))
  have m18511 : σ' 18511 = 0 + (1 * τ 19001 + 0) := hm 18511 (by decide)
  have m18512 : σ' 18512 = 0 + 0 := hm 18512 (by decide)
  have m18513 : σ' 18513 = 1 + 0 := hm 18513 (by decide)
  have hok : lw_OK a1 a2 := by
    refine ⟨?_, by omega, by omega, ⟨by omega, by omega, by omega, by omega, by omega, by omega, by omega, by omega⟩, by omega, by omega⟩
    have h0 := g20.1 (by omega)
    rw [show σ' 18511 = a1 by omega, show σ' 18512 = 0 by omega] at h0
    exact h0.mpr sx_gdn_0
  have m18517 : σ' 18517 = 0 + (1 * τ 19001 + 0) := hm 18517 (by decide)
  have m18519 : σ' 18519 = 0 + (1 * τ 1000003 + 0) := hm 18519 (by decide)
  have w3 : 0 ≤ τ 1000003 ∧ τ 1000003 ≤ 6 := hw 3 _ rfl
  have k0 := g22.2 (by omega)
  obtain ⟨n0, n1, n2, n3, n4, n5, n6, n7⟩ := g24
  have q18528 := lw_id s18528 (hm 18528 (by decide))
  have q18529 := lw_id s18529 (hm 18529 (by decide))
  have q18530 := lw_id s18530 (hm 18530 (by decide))
  have q18531 := lw_id s18531 (hm 18531 (by decide))
  have q18532 := lw_id s18532 (hm 18532 (by decide))
  have q18533 := lw_id s18533 (hm 18533 (by decide))
  have q18534 := lw_id s18534 (hm 18534 (by decide))
  have q18535 := lw_id s18535 (hm 18535 (by decide))
  refine Or.inr (Or.inr (Or.inl ⟨by omega, ⟨lw_id s12804 (hm 12804 (by decide)), lw_id s18528 (hm 18528 (by decide)), lw_id s18529 (hm 18529 (by decide)), lw_id s18530 (hm 18530 (by decide)), lw_id s18531 (hm 18531 (by decide)), lw_id s18532 (hm 18532 (by decide)), lw_id s18533 (hm 18533 (by decide)), lw_id s18534 (hm 18534 (by decide)), lw_id s18535 (hm 18535 (by decide))⟩, hok, by omega, ?_⟩))
  rcases (show σ' 18519 = 0 ∨ σ' 18519 = 1 ∨ σ' 18519 = 2 ∨ σ' 18519 = 3 ∨ σ' 18519 = 4 ∨ σ' 18519 = 5 ∨ σ' 18519 = 6 ∨ σ' 18519 = 7 by omega) with kj | kj | kj | kj | kj | kj | kj | kj
  · rw [kj] at k0
    replace k0 : A 104 0 = σ' 18517 := k0
    exact Or.inl ⟨by omega, by omega⟩
  · rw [kj] at k0
    replace k0 : A 104 1 = σ' 18517 := k0
    exact Or.inr (Or.inl ⟨by omega, by omega⟩)
  · rw [kj] at k0
    replace k0 : A 104 2 = σ' 18517 := k0
    exact Or.inr (Or.inr (Or.inl ⟨by omega, by omega⟩))
  · rw [kj] at k0
    replace k0 : A 104 3 = σ' 18517 := k0
    exact Or.inr (Or.inr (Or.inr (Or.inl ⟨by omega, by omega⟩)))
  · rw [kj] at k0
    replace k0 : A 104 4 = σ' 18517 := k0
    exact Or.inr (Or.inr (Or.inr (Or.inr (Or.inl ⟨by omega, by omega⟩))))
  · rw [kj] at k0
    replace k0 : A 104 5 = σ' 18517 := k0
    exact Or.inr (Or.inr (Or.inr (Or.inr (Or.inr (Or.inl ⟨by omega, by omega⟩)))))
  · rw [kj] at k0
    replace k0 : A 104 6 = σ' 18517 := k0
    exact Or.inr (Or.inr (Or.inr (Or.inr (Or.inr (Or.inr (Or.inl ⟨by omega, by omega⟩))))))
  · rw [kj] at k0
    replace k0 : A 104 7 = σ' 18517 := k0
    exact Or.inr (Or.inr (Or.inr (Or.inr (Or.inr (Or.inr (Or.inr (⟨by omega, by omega⟩)))))))
theorem lw_pm_77 {as : List rv_A} {σ σ' : Nat → Int} {o : rv_O} {x : Int32} {a1 a2 : Int} {A : Nat → Nat → Int} {τ : Nat → Int} (hx : o.1 = some (.inl x)) (h1 : lw_av as 1 = a1) (h2 : lw_av as 2 = a2) (hb : ∀ s, (sx_sr s).1 ≤ σ s ∧ σ s ≤ (sx_sr s).2) (hG : sx_GG σ' A) (hW : lw_W ([(18509, 1, 1099511627770), (18510, 0, 34359738367), (18518, 0, 7), (18519, 0, 6)], [((-1), [(12804, 1)]), (7, [(12804, (-1))]), ((-2099), [(19001, 1)]), (11565, [(19001, (-1))]), (0, [(19002, 1)]), (9, [(19002, (-1))]), ((-1), [(12804, 1), (1000003, (-1))])], [(12800, (7, [])), (18509, (0, [(1000000, 1)])), (18510, (0, [(1000001, 1)])), (18511, (0, [(19001, 1)])), (18512, (0, [])), (18513, (1, [])), (18517, (0, [(19001, 1)])), (18518, (0, [(1000002, 1)])), (18519, (0, [(1000003, 1)]))], some (false, ((-1), []))) as σ σ' τ o) : lw_pm_C a1 a2 x.toInt σ σ' := by
  unfold lw_pm_C
  have bM : 0 ≤ σ 12804 ∧ σ 12804 ≤ 8 := by
    have h0 := hb 12804
    rw [show sx_sr 12804 = (0, 8) from by decide +kernel] at h0
    exact h0
  obtain ⟨-, -, -, -, -, -, -, -, -, -, -, -, -, -, -, -, -, -, -, g19, g20, -, g22, -, g24⟩ := hG
  obtain ⟨hs, ht, hf, hr, hm, hw⟩ := hW
  have e1 : τ 19001 = a1 := by rw [ht 19001 (by decide) (by decide)]; exact h1
  have e2 : τ 19002 = a2 := by rw [ht 19002 (by decide) (by decide)]; exact h2
  have s133 : τ 133 = σ 133 := hs 133 (by decide)
  have s134 : τ 134 = σ 134 := hs 134 (by decide)
  have s10250 : τ 10250 = σ 10250 := hs 10250 (by decide)
  have s12804 : τ 12804 = σ 12804 := hs 12804 (by decide)
  have s12805 : τ 12805 = σ 12805 := hs 12805 (by decide)
  have s12814 : τ 12814 = σ 12814 := hs 12814 (by decide)
  have s18520 : τ 18520 = σ 18520 := hs 18520 (by decide)
  have s18521 : τ 18521 = σ 18521 := hs 18521 (by decide)
  have s18522 : τ 18522 = σ 18522 := hs 18522 (by decide)
  have s18523 : τ 18523 = σ 18523 := hs 18523 (by decide)
  have s18524 : τ 18524 = σ 18524 := hs 18524 (by decide)
  have s18525 : τ 18525 = σ 18525 := hs 18525 (by decide)
  have s18526 : τ 18526 = σ 18526 := hs 18526 (by decide)
  have s18527 : τ 18527 = σ 18527 := hs 18527 (by decide)
  have s18528 : τ 18528 = σ 18528 := hs 18528 (by decide)
  have s18529 : τ 18529 = σ 18529 := hs 18529 (by decide)
  have s18530 : τ 18530 = σ 18530 := hs 18530 (by decide)
  have s18531 : τ 18531 = σ 18531 := hs 18531 (by decide)
  have s18532 : τ 18532 = σ 18532 := hs 18532 (by decide)
  have s18533 : τ 18533 = σ 18533 := hs 18533 (by decide)
  have s18534 : τ 18534 = σ 18534 := hs 18534 (by decide)
  have s18535 : τ 18535 = σ 18535 := hs 18535 (by decide)
  clear ht hb h1 h2
  rw [hx] at hr
  clear hx
  obtain ⟨y, hy, hv⟩ := hr
  cases hy
  replace hv : x.toInt = (-1) + 0 := hv
  have sm : σ' 133 = σ 133 ∧ σ' 134 = σ 134 ∧ σ' 12805 = σ 12805 ∧ σ' 10250 = σ 10250 ∧ σ' 12814 = σ 12814 ∧ σ' 18520 = σ 18520 ∧ σ' 18521 = σ 18521 ∧ σ' 18522 = σ 18522 ∧ σ' 18523 = σ 18523 ∧ σ' 18524 = σ 18524 ∧ σ' 18525 = σ 18525 ∧ σ' 18526 = σ 18526 ∧ σ' 18527 = σ 18527 := ⟨lw_id s133 (hm 133 (by decide)), lw_id s134 (hm 134 (by decide)), lw_id s12805 (hm 12805 (by decide)), lw_id s10250 (hm 10250 (by decide)), lw_id s12814 (hm 12814 (by decide)), lw_id s18520 (hm 18520 (by decide)), lw_id s18521 (hm 18521 (by decide)), lw_id s18522 (hm 18522 (by decide)), lw_id s18523 (hm 18523 (by decide)), lw_id s18524 (hm 18524 (by decide)), lw_id s18525 (hm 18525 (by decide)), lw_id s18526 (hm 18526 (by decide)), lw_id s18527 (hm 18527 (by decide))⟩
  refine ⟨?_, sm⟩
  clear sm
  have f0 : 0 ≤ (-1) + (1 * τ 12804 + 0) := hf _ (List.Mem.head _)
  have f1 : 0 ≤ 7 + ((-1) * τ 12804 + 0) := hf _ (List.Mem.tail _ (List.Mem.head _))
  have f2 : 0 ≤ (-2099) + (1 * τ 19001 + 0) := hf _ (List.Mem.tail _ (List.Mem.tail _ (List.Mem.head _)))
  have f3 : 0 ≤ 11565 + ((-1) * τ 19001 + 0) := hf _ (List.Mem.tail _ (List.Mem.tail _ (List.Mem.tail _ (List.Mem.head _))))
  have f4 : 0 ≤ 0 + (1 * τ 19002 + 0) := hf _ (List.Mem.tail _ (List.Mem.tail _ (List.Mem.tail _ (List.Mem.tail _ (List.Mem.head _)))))
  have f5 : 0 ≤ 9 + ((-1) * τ 19002 + 0) := hf _ (List.Mem.tail _ (List.Mem.tail _ (List.Mem.tail _ (List.Mem.tail _ (List.Mem.tail _ (List.Mem.head _))))))
  have f6 : 0 ≤ (-1) + (1 * τ 12804 + ((-1) * τ 1000003 + 0)) := hf _ (List.Mem.tail _ (List.Mem.tail _ (List.Mem.tail _ (List.Mem.tail _ (List.Mem.tail _ (List.Mem.tail _ (List.Mem.head _)))))))
  have m18511 : σ' 18511 = 0 + (1 * τ 19001 + 0) := hm 18511 (by decide)
  have m18512 : σ' 18512 = 0 + 0 := hm 18512 (by decide)
  have m18513 : σ' 18513 = 1 + 0 := hm 18513 (by decide)
  have hok : lw_OK a1 a2 := by
    refine ⟨?_, by omega, by omega, ⟨by omega, by omega, by omega, by omega, by omega, by omega, by omega, by omega⟩, by omega, by omega⟩
    have h0 := g20.1 (by omega)
    rw [show σ' 18511 = a1 by omega, show σ' 18512 = 0 by omega] at h0
    exact h0.mpr sx_gdn_0
  have m18517 : σ' 18517 = 0 + (1 * τ 19001 + 0) := hm 18517 (by decide)
  have m18519 : σ' 18519 = 0 + (1 * τ 1000003 + 0) := hm 18519 (by decide)
  have w3 : 0 ≤ τ 1000003 ∧ τ 1000003 ≤ 6 := hw 3 _ rfl
  have k0 := g22.2 (by omega)
  obtain ⟨n0, n1, n2, n3, n4, n5, n6, n7⟩ := g24
  have q18528 := lw_id s18528 (hm 18528 (by decide))
  have q18529 := lw_id s18529 (hm 18529 (by decide))
  have q18530 := lw_id s18530 (hm 18530 (by decide))
  have q18531 := lw_id s18531 (hm 18531 (by decide))
  have q18532 := lw_id s18532 (hm 18532 (by decide))
  have q18533 := lw_id s18533 (hm 18533 (by decide))
  have q18534 := lw_id s18534 (hm 18534 (by decide))
  have q18535 := lw_id s18535 (hm 18535 (by decide))
  refine Or.inr (Or.inr (Or.inl ⟨by omega, ⟨lw_id s12804 (hm 12804 (by decide)), lw_id s18528 (hm 18528 (by decide)), lw_id s18529 (hm 18529 (by decide)), lw_id s18530 (hm 18530 (by decide)), lw_id s18531 (hm 18531 (by decide)), lw_id s18532 (hm 18532 (by decide)), lw_id s18533 (hm 18533 (by decide)), lw_id s18534 (hm 18534 (by decide)), lw_id s18535 (hm 18535 (by decide))⟩, hok, by omega, ?_⟩))
  rcases (show σ' 18519 = 0 ∨ σ' 18519 = 1 ∨ σ' 18519 = 2 ∨ σ' 18519 = 3 ∨ σ' 18519 = 4 ∨ σ' 18519 = 5 ∨ σ' 18519 = 6 ∨ σ' 18519 = 7 by omega) with kj | kj | kj | kj | kj | kj | kj | kj
  · rw [kj] at k0
    replace k0 : A 104 0 = σ' 18517 := k0
    exact Or.inl ⟨by omega, by omega⟩
  · rw [kj] at k0
    replace k0 : A 104 1 = σ' 18517 := k0
    exact Or.inr (Or.inl ⟨by omega, by omega⟩)
  · rw [kj] at k0
    replace k0 : A 104 2 = σ' 18517 := k0
    exact Or.inr (Or.inr (Or.inl ⟨by omega, by omega⟩))
  · rw [kj] at k0
    replace k0 : A 104 3 = σ' 18517 := k0
    exact Or.inr (Or.inr (Or.inr (Or.inl ⟨by omega, by omega⟩)))
  · rw [kj] at k0
    replace k0 : A 104 4 = σ' 18517 := k0
    exact Or.inr (Or.inr (Or.inr (Or.inr (Or.inl ⟨by omega, by omega⟩))))
  · rw [kj] at k0
    replace k0 : A 104 5 = σ' 18517 := k0
    exact Or.inr (Or.inr (Or.inr (Or.inr (Or.inr (Or.inl ⟨by omega, by omega⟩)))))
  · rw [kj] at k0
    replace k0 : A 104 6 = σ' 18517 := k0
    exact Or.inr (Or.inr (Or.inr (Or.inr (Or.inr (Or.inr (Or.inl ⟨by omega, by omega⟩))))))
  · rw [kj] at k0
    replace k0 : A 104 7 = σ' 18517 := k0
    exact Or.inr (Or.inr (Or.inr (Or.inr (Or.inr (Or.inr (Or.inr (⟨by omega, by omega⟩)))))))
theorem lw_pm_78 {as : List rv_A} {σ σ' : Nat → Int} {o : rv_O} {x : Int32} {a1 a2 : Int} {A : Nat → Nat → Int} {τ : Nat → Int} (hx : o.1 = some (.inl x)) (h1 : lw_av as 1 = a1) (h2 : lw_av as 2 = a2) (hb : ∀ s, (sx_sr s).1 ≤ σ s ∧ σ s ≤ (sx_sr s).2) (hG : sx_GG σ' A) (hW : lw_W ([(18509, 1, 1099511627770), (18510, 0, 34359738367), (18518, 0, 7), (18519, 0, 6)], [((-1), [(12804, 1)]), (7, [(12804, (-1))]), ((-295), [(19001, 1)]), (497, [(19001, (-1))]), (0, [(19002, 1)]), (9, [(19002, (-1))]), ((-1), [(12804, 1), (1000003, (-1))])], [(12800, (7, [])), (18509, (0, [(1000000, 1)])), (18510, (0, [(1000001, 1)])), (18511, (0, [(19001, 1)])), (18512, (0, [])), (18513, (1, [])), (18517, (0, [(19001, 1)])), (18518, (0, [(1000002, 1)])), (18519, (0, [(1000003, 1)]))], some (false, ((-1), []))) as σ σ' τ o) : lw_pm_C a1 a2 x.toInt σ σ' := by
  unfold lw_pm_C
  have bM : 0 ≤ σ 12804 ∧ σ 12804 ≤ 8 := by
    have h0 := hb 12804
    rw [show sx_sr 12804 = (0, 8) from by decide +kernel] at h0
    exact h0
  obtain ⟨-, -, -, -, -, -, -, -, -, -, -, -, -, -, -, -, -, -, -, g19, g20, -, g22, -, g24⟩ := hG
  obtain ⟨hs, ht, hf, hr, hm, hw⟩ := hW
  have e1 : τ 19001 = a1 := by rw [ht 19001 (by decide) (by decide)]; exact h1
  have e2 : τ 19002 = a2 := by rw [ht 19002 (by decide) (by decide)]; exact h2
  have s133 : τ 133 = σ 133 := hs 133 (by decide)
  have s134 : τ 134 = σ 134 := hs 134 (by decide)
  have s10250 : τ 10250 = σ 10250 := hs 10250 (by decide)
  have s12804 : τ 12804 = σ 12804 := hs 12804 (by decide)
  have s12805 : τ 12805 = σ 12805 := hs 12805 (by decide)
  have s12814 : τ 12814 = σ 12814 := hs 12814 (by decide)
  have s18520 : τ 18520 = σ 18520 := hs 18520 (by decide)
  have s18521 : τ 18521 = σ 18521 := hs 18521 (by decide)
  have s18522 : τ 18522 = σ 18522 := hs 18522 (by decide)
  have s18523 : τ 18523 = σ 18523 := hs 18523 (by decide)
  have s18524 : τ 18524 = σ 18524 := hs 18524 (by decide)
  have s18525 : τ 18525 = σ 18525 := hs 18525 (by decide)
  have s18526 : τ 18526 = σ 18526 := hs 18526 (by decide)
  have s18527 : τ 18527 = σ 18527 := hs 18527 (by decide)
  have s18528 : τ 18528 = σ 18528 := hs 18528 (by decide)
  have s18529 : τ 18529 = σ 18529 := hs 18529 (by decide)
  have s18530 : τ 18530 = σ 18530 := hs 18530 (by decide)
  have s18531 : τ 18531 = σ 18531 := hs 18531 (by decide)
  have s18532 : τ 18532 = σ 18532 := hs 18532 (by decide)
  have s18533 : τ 18533 = σ 18533 := hs 18533 (by decide)
  have s18534 : τ 18534 = σ 18534 := hs 18534 (by decide)
  have s18535 : τ 18535 = σ 18535 := hs 18535 (by decide)
  clear ht hb h1 h2
  rw [hx] at hr
  clear hx
  obtain ⟨y, hy, hv⟩ := hr
  cases hy
  replace hv : x.toInt = (-1) + 0 := hv
  have sm : σ' 133 = σ 133 ∧ σ' 134 = σ 134 ∧ σ' 12805 = σ 12805 ∧ σ' 10250 = σ 10250 ∧ σ' 12814 = σ 12814 ∧ σ' 18520 = σ 18520 ∧ σ' 18521 = σ 18521 ∧ σ' 18522 = σ 18522 ∧ σ' 18523 = σ 18523 ∧ σ' 18524 = σ 18524 ∧ σ' 18525 = σ 18525 ∧ σ' 18526 = σ 18526 ∧ σ' 18527 = σ 18527 := ⟨lw_id s133 (hm 133 (by decide)), lw_id s134 (hm 134 (by decide)), lw_id s12805 (hm 12805 (by decide)), lw_id s10250 (hm 10250 (by decide)), lw_id s12814 (hm 12814 (by decide)), lw_id s18520 (hm 18520 (by decide)), lw_id s18521 (hm 18521 (by decide)), lw_id s18522 (hm 18522 (by decide)), lw_id s18523 (hm 18523 (by decide)), lw_id s18524 (hm 18524 (by decide)), lw_id s18525 (hm 18525 (by decide)), lw_id s18526 (hm 18526 (by decide)), lw_id s18527 (hm 18527 (by decide))⟩
  refine ⟨?_, sm⟩
  clear sm
  have f0 : 0 ≤ (-1) + (1 * τ 12804 + 0) := hf _ (List.Mem.head _)
  have f1 : 0 ≤ 7 + ((-1) * τ 12804 + 0) := hf _ (List.Mem.tail _ (List.Mem.head _))
  have f2 : 0 ≤ (-295) + (1 * τ 19001 + 0) := hf _ (List.Mem.tail _ (List.Mem.tail _ (List.Mem.head _)))
  have f3 : 0 ≤ 497 + ((-1) * τ 19001 + 0) := hf _ (List.Mem.tail _ (List.Mem.tail _ (List.Mem.tail _ (List.Mem.head _))))
  have f4 : 0 ≤ 0 + (1 * τ 19002 + 0) := hf _ (List.Mem.tail _ (List.Mem.tail _ (List.Mem.tail _ (List.Mem.tail _ (List.Mem.head _)))))
  have f5 : 0 ≤ 9 + ((-1) * τ 19002 + 0) := hf _ (List.Mem.tail _ (List.Mem.tail _ (List.Mem.tail _ (List.Mem.tail _ (List.Mem.tail _ (List.Mem.head _))))))
  have f6 : 0 ≤ (-1) + (1 * τ 12804 + ((-1) * τ 1000003 + 0)) := hf _ (List.Mem.tail _ (List.Mem.tail _ (List.Mem.tail _ (List.Mem.tail _ (List.Mem.tail _ (List.Mem.tail _ (List.Mem.head _)))))))
  have m18511 : σ' 18511 = 0 + (1 * τ 19001 + 0) := hm 18511 (by decide)
  have m18512 : σ' 18512 = 0 + 0 := hm 18512 (by decide)
  have m18513 : σ' 18513 = 1 + 0 := hm 18513 (by decide)
  have hok : lw_OK a1 a2 := by
    refine ⟨?_, by omega, by omega, ⟨by omega, by omega, by omega, by omega, by omega, by omega, by omega, by omega⟩, by omega, by omega⟩
    have h0 := g20.1 (by omega)
    rw [show σ' 18511 = a1 by omega, show σ' 18512 = 0 by omega] at h0
    exact h0.mpr sx_gdn_0
  have m18517 : σ' 18517 = 0 + (1 * τ 19001 + 0) := hm 18517 (by decide)
  have m18519 : σ' 18519 = 0 + (1 * τ 1000003 + 0) := hm 18519 (by decide)
  have w3 : 0 ≤ τ 1000003 ∧ τ 1000003 ≤ 6 := hw 3 _ rfl
  have k0 := g22.2 (by omega)
  obtain ⟨n0, n1, n2, n3, n4, n5, n6, n7⟩ := g24
  have q18528 := lw_id s18528 (hm 18528 (by decide))
  have q18529 := lw_id s18529 (hm 18529 (by decide))
  have q18530 := lw_id s18530 (hm 18530 (by decide))
  have q18531 := lw_id s18531 (hm 18531 (by decide))
  have q18532 := lw_id s18532 (hm 18532 (by decide))
  have q18533 := lw_id s18533 (hm 18533 (by decide))
  have q18534 := lw_id s18534 (hm 18534 (by decide))
  have q18535 := lw_id s18535 (hm 18535 (by decide))
  refine Or.inr (Or.inr (Or.inl ⟨by omega, ⟨lw_id s12804 (hm 12804 (by decide)), lw_id s18528 (hm 18528 (by decide)), lw_id s18529 (hm 18529 (by decide)), lw_id s18530 (hm 18530 (by decide)), lw_id s18531 (hm 18531 (by decide)), lw_id s18532 (hm 18532 (by decide)), lw_id s18533 (hm 18533 (by decide)), lw_id s18534 (hm 18534 (by decide)), lw_id s18535 (hm 18535 (by decide))⟩, hok, by omega, ?_⟩))
  rcases (show σ' 18519 = 0 ∨ σ' 18519 = 1 ∨ σ' 18519 = 2 ∨ σ' 18519 = 3 ∨ σ' 18519 = 4 ∨ σ' 18519 = 5 ∨ σ' 18519 = 6 ∨ σ' 18519 = 7 by omega) with kj | kj | kj | kj | kj | kj | kj | kj
  · rw [kj] at k0
    replace k0 : A 104 0 = σ' 18517 := k0
    exact Or.inl ⟨by omega, by omega⟩
  · rw [kj] at k0
    replace k0 : A 104 1 = σ' 18517 := k0
    exact Or.inr (Or.inl ⟨by omega, by omega⟩)
  · rw [kj] at k0
    replace k0 : A 104 2 = σ' 18517 := k0
    exact Or.inr (Or.inr (Or.inl ⟨by omega, by omega⟩))
  · rw [kj] at k0
    replace k0 : A 104 3 = σ' 18517 := k0
    exact Or.inr (Or.inr (Or.inr (Or.inl ⟨by omega, by omega⟩)))
  · rw [kj] at k0
    replace k0 : A 104 4 = σ' 18517 := k0
    exact Or.inr (Or.inr (Or.inr (Or.inr (Or.inl ⟨by omega, by omega⟩))))
  · rw [kj] at k0
    replace k0 : A 104 5 = σ' 18517 := k0
    exact Or.inr (Or.inr (Or.inr (Or.inr (Or.inr (Or.inl ⟨by omega, by omega⟩)))))
  · rw [kj] at k0
    replace k0 : A 104 6 = σ' 18517 := k0
    exact Or.inr (Or.inr (Or.inr (Or.inr (Or.inr (Or.inr (Or.inl ⟨by omega, by omega⟩))))))
  · rw [kj] at k0
    replace k0 : A 104 7 = σ' 18517 := k0
    exact Or.inr (Or.inr (Or.inr (Or.inr (Or.inr (Or.inr (Or.inr (⟨by omega, by omega⟩)))))))
theorem lw_pm_79 {as : List rv_A} {σ σ' : Nat → Int} {o : rv_O} {x : Int32} {a1 a2 : Int} {A : Nat → Nat → Int} {τ : Nat → Int} (hx : o.1 = some (.inl x)) (h1 : lw_av as 1 = a1) (h2 : lw_av as 2 = a2) (hb : ∀ s, (sx_sr s).1 ≤ σ s ∧ σ s ≤ (sx_sr s).2) (hG : sx_GG σ' A) (hW : lw_W ([(18509, 1, 1099511627770), (18510, 0, 34359738367), (18518, 0, 7), (18519, 0, 6)], [((-1), [(12804, 1)]), (7, [(12804, (-1))]), ((-499), [(19001, 1)]), (1155, [(19001, (-1))]), (0, [(19002, 1)]), (9, [(19002, (-1))]), ((-1), [(12804, 1), (1000003, (-1))])], [(12800, (7, [])), (18509, (0, [(1000000, 1)])), (18510, (0, [(1000001, 1)])), (18511, (0, [(19001, 1)])), (18512, (0, [])), (18513, (1, [])), (18517, (0, [(19001, 1)])), (18518, (0, [(1000002, 1)])), (18519, (0, [(1000003, 1)]))], some (false, ((-1), []))) as σ σ' τ o) : lw_pm_C a1 a2 x.toInt σ σ' := by
  unfold lw_pm_C
  have bM : 0 ≤ σ 12804 ∧ σ 12804 ≤ 8 := by
    have h0 := hb 12804
    rw [show sx_sr 12804 = (0, 8) from by decide +kernel] at h0
    exact h0
  obtain ⟨-, -, -, -, -, -, -, -, -, -, -, -, -, -, -, -, -, -, -, g19, g20, -, g22, -, g24⟩ := hG
  obtain ⟨hs, ht, hf, hr, hm, hw⟩ := hW
  have e1 : τ 19001 = a1 := by rw [ht 19001 (by decide) (by decide)]; exact h1
  have e2 : τ 19002 = a2 := by rw [ht 19002 (by decide) (by decide)]; exact h2
  have s133 : τ 133 = σ 133 := hs 133 (by decide)
  have s134 : τ 134 = σ 134 := hs 134 (by decide)
  have s10250 : τ 10250 = σ 10250 := hs 10250 (by decide)
  have s12804 : τ 12804 = σ 12804 := hs 12804 (by decide)
  have s12805 : τ 12805 = σ 12805 := hs 12805 (by decide)
  have s12814 : τ 12814 = σ 12814 := hs 12814 (by decide)
  have s18520 : τ 18520 = σ 18520 := hs 18520 (by decide)
  have s18521 : τ 18521 = σ 18521 := hs 18521 (by decide)
  have s18522 : τ 18522 = σ 18522 := hs 18522 (by decide)
  have s18523 : τ 18523 = σ 18523 := hs 18523 (by decide)
  have s18524 : τ 18524 = σ 18524 := hs 18524 (by decide)
  have s18525 : τ 18525 = σ 18525 := hs 18525 (by decide)
  have s18526 : τ 18526 = σ 18526 := hs 18526 (by decide)
  have s18527 : τ 18527 = σ 18527 := hs 18527 (by decide)
  have s18528 : τ 18528 = σ 18528 := hs 18528 (by decide)
  have s18529 : τ 18529 = σ 18529 := hs 18529 (by decide)
  have s18530 : τ 18530 = σ 18530 := hs 18530 (by decide)
  have s18531 : τ 18531 = σ 18531 := hs 18531 (by decide)
  have s18532 : τ 18532 = σ 18532 := hs 18532 (by decide)
  have s18533 : τ 18533 = σ 18533 := hs 18533 (by decide)
  have s18534 : τ 18534 = σ 18534 := hs 18534 (by decide)
  have s18535 : τ 18535 = σ 18535 := hs 18535 (by decide)
  clear ht hb h1 h2
  rw [hx] at hr
  clear hx
  obtain ⟨y, hy, hv⟩ := hr
  cases hy
  replace hv : x.toInt = (-1) + 0 := hv
  have sm : σ' 133 = σ 133 ∧ σ' 134 = σ 134 ∧ σ' 12805 = σ 12805 ∧ σ' 10250 = σ 10250 ∧ σ' 12814 = σ 12814 ∧ σ' 18520 = σ 18520 ∧ σ' 18521 = σ 18521 ∧ σ' 18522 = σ 18522 ∧ σ' 18523 = σ 18523 ∧ σ' 18524 = σ 18524 ∧ σ' 18525 = σ 18525 ∧ σ' 18526 = σ 18526 ∧ σ' 18527 = σ 18527 := ⟨lw_id s133 (hm 133 (by decide)), lw_id s134 (hm 134 (by decide)), lw_id s12805 (hm 12805 (by decide)), lw_id s10250 (hm 10250 (by decide)), lw_id s12814 (hm 12814 (by decide)), lw_id s18520 (hm 18520 (by decide)), lw_id s18521 (hm 18521 (by decide)), lw_id s18522 (hm 18522 (by decide)), lw_id s18523 (hm 18523 (by decide)), lw_id s18524 (hm 18524 (by decide)), lw_id s18525 (hm 18525 (by decide)), lw_id s18526 (hm 18526 (by decide)), lw_id s18527 (hm 18527 (by decide))⟩
  refine ⟨?_, sm⟩
  clear sm
  have f0 : 0 ≤ (-1) + (1 * τ 12804 + 0) := hf _ (List.Mem.head _)
  have f1 : 0 ≤ 7 + ((-1) * τ 12804 + 0) := hf _ (List.Mem.tail _ (List.Mem.head _))
  have f2 : 0 ≤ (-499) + (1 * τ 19001 + 0) := hf _ (List.Mem.tail _ (List.Mem.tail _ (List.Mem.head _)))
  have f3 : 0 ≤ 1155 + ((-1) * τ 19001 + 0) := hf _ (List.Mem.tail _ (List.Mem.tail _ (List.Mem.tail _ (List.Mem.head _))))
  have f4 : 0 ≤ 0 + (1 * τ 19002 + 0) := hf _ (List.Mem.tail _ (List.Mem.tail _ (List.Mem.tail _ (List.Mem.tail _ (List.Mem.head _)))))
  have f5 : 0 ≤ 9 + ((-1) * τ 19002 + 0) := hf _ (List.Mem.tail _ (List.Mem.tail _ (List.Mem.tail _ (List.Mem.tail _ (List.Mem.tail _ (List.Mem.head _))))))
  have f6 : 0 ≤ (-1) + (1 * τ 12804 + ((-1) * τ 1000003 + 0)) := hf _ (List.Mem.tail _ (List.Mem.tail _ (List.Mem.tail _ (List.Mem.tail _ (List.Mem.tail _ (List.Mem.tail _ (List.Mem.head _)))))))
  have m18511 : σ' 18511 = 0 + (1 * τ 19001 + 0) := hm 18511 (by decide)
  have m18512 : σ' 18512 = 0 + 0 := hm 18512 (by decide)
  have m18513 : σ' 18513 = 1 + 0 := hm 18513 (by decide)
  have hok : lw_OK a1 a2 := by
    refine ⟨?_, by omega, by omega, ⟨by omega, by omega, by omega, by omega, by omega, by omega, by omega, by omega⟩, by omega, by omega⟩
    have h0 := g20.1 (by omega)
    rw [show σ' 18511 = a1 by omega, show σ' 18512 = 0 by omega] at h0
    exact h0.mpr sx_gdn_0
  have m18517 : σ' 18517 = 0 + (1 * τ 19001 + 0) := hm 18517 (by decide)
  have m18519 : σ' 18519 = 0 + (1 * τ 1000003 + 0) := hm 18519 (by decide)
  have w3 : 0 ≤ τ 1000003 ∧ τ 1000003 ≤ 6 := hw 3 _ rfl
  have k0 := g22.2 (by omega)
  obtain ⟨n0, n1, n2, n3, n4, n5, n6, n7⟩ := g24
  have q18528 := lw_id s18528 (hm 18528 (by decide))
  have q18529 := lw_id s18529 (hm 18529 (by decide))
  have q18530 := lw_id s18530 (hm 18530 (by decide))
  have q18531 := lw_id s18531 (hm 18531 (by decide))
  have q18532 := lw_id s18532 (hm 18532 (by decide))
  have q18533 := lw_id s18533 (hm 18533 (by decide))
  have q18534 := lw_id s18534 (hm 18534 (by decide))
  have q18535 := lw_id s18535 (hm 18535 (by decide))
  refine Or.inr (Or.inr (Or.inl ⟨by omega, ⟨lw_id s12804 (hm 12804 (by decide)), lw_id s18528 (hm 18528 (by decide)), lw_id s18529 (hm 18529 (by decide)), lw_id s18530 (hm 18530 (by decide)), lw_id s18531 (hm 18531 (by decide)), lw_id s18532 (hm 18532 (by decide)), lw_id s18533 (hm 18533 (by decide)), lw_id s18534 (hm 18534 (by decide)), lw_id s18535 (hm 18535 (by decide))⟩, hok, by omega, ?_⟩))
  rcases (show σ' 18519 = 0 ∨ σ' 18519 = 1 ∨ σ' 18519 = 2 ∨ σ' 18519 = 3 ∨ σ' 18519 = 4 ∨ σ' 18519 = 5 ∨ σ' 18519 = 6 ∨ σ' 18519 = 7 by omega) with kj | kj | kj | kj | kj | kj | kj | kj
  · rw [kj] at k0
    replace k0 : A 104 0 = σ' 18517 := k0
    exact Or.inl ⟨by omega, by omega⟩
  · rw [kj] at k0
    replace k0 : A 104 1 = σ' 18517 := k0
    exact Or.inr (Or.inl ⟨by omega, by omega⟩)
  · rw [kj] at k0
    replace k0 : A 104 2 = σ' 18517 := k0
    exact Or.inr (Or.inr (Or.inl ⟨by omega, by omega⟩))
  · rw [kj] at k0
    replace k0 : A 104 3 = σ' 18517 := k0
    exact Or.inr (Or.inr (Or.inr (Or.inl ⟨by omega, by omega⟩)))
  · rw [kj] at k0
    replace k0 : A 104 4 = σ' 18517 := k0
    exact Or.inr (Or.inr (Or.inr (Or.inr (Or.inl ⟨by omega, by omega⟩))))
  · rw [kj] at k0
    replace k0 : A 104 5 = σ' 18517 := k0
    exact Or.inr (Or.inr (Or.inr (Or.inr (Or.inr (Or.inl ⟨by omega, by omega⟩)))))
  · rw [kj] at k0
    replace k0 : A 104 6 = σ' 18517 := k0
    exact Or.inr (Or.inr (Or.inr (Or.inr (Or.inr (Or.inr (Or.inl ⟨by omega, by omega⟩))))))
  · rw [kj] at k0
    replace k0 : A 104 7 = σ' 18517 := k0
    exact Or.inr (Or.inr (Or.inr (Or.inr (Or.inr (Or.inr (Or.inr (⟨by omega, by omega⟩)))))))
theorem lw_pm_80 {as : List rv_A} {σ σ' : Nat → Int} {o : rv_O} {x : Int32} {a1 a2 : Int} {A : Nat → Nat → Int} {τ : Nat → Int} (hx : o.1 = some (.inl x)) (h1 : lw_av as 1 = a1) (h2 : lw_av as 2 = a2) (hb : ∀ s, (sx_sr s).1 ≤ σ s ∧ σ s ≤ (sx_sr s).2) (hG : sx_GG σ' A) (hW : lw_W ([(18509, 1, 1099511627770), (18510, 0, 34359738367), (18518, 0, 7), (18519, 0, 6)], [((-1), [(12804, 1)]), (7, [(12804, (-1))]), ((-632646), [(19001, 1)]), (1099511627770, [(19001, (-1))]), (0, [(19002, 1)]), (9, [(19002, (-1))]), ((-1), [(12804, 1), (1000003, (-1))])], [(12800, (7, [])), (18509, (0, [(1000000, 1)])), (18510, (0, [(1000001, 1)])), (18511, (0, [(19001, 1)])), (18512, (0, [])), (18513, (1, [])), (18517, (0, [(19001, 1)])), (18518, (0, [(1000002, 1)])), (18519, (0, [(1000003, 1)]))], some (false, ((-1), []))) as σ σ' τ o) : lw_pm_C a1 a2 x.toInt σ σ' := by
  unfold lw_pm_C
  have bM : 0 ≤ σ 12804 ∧ σ 12804 ≤ 8 := by
    have h0 := hb 12804
    rw [show sx_sr 12804 = (0, 8) from by decide +kernel] at h0
    exact h0
  obtain ⟨-, -, -, -, -, -, -, -, -, -, -, -, -, -, -, -, -, -, -, g19, g20, -, g22, -, g24⟩ := hG
  obtain ⟨hs, ht, hf, hr, hm, hw⟩ := hW
  have e1 : τ 19001 = a1 := by rw [ht 19001 (by decide) (by decide)]; exact h1
  have e2 : τ 19002 = a2 := by rw [ht 19002 (by decide) (by decide)]; exact h2
  have s133 : τ 133 = σ 133 := hs 133 (by decide)
  have s134 : τ 134 = σ 134 := hs 134 (by decide)
  have s10250 : τ 10250 = σ 10250 := hs 10250 (by decide)
  have s12804 : τ 12804 = σ 12804 := hs 12804 (by decide)
  have s12805 : τ 12805 = σ 12805 := hs 12805 (by decide)
  have s12814 : τ 12814 = σ 12814 := hs 12814 (by decide)
  have s18520 : τ 18520 = σ 18520 := hs 18520 (by decide)
  have s18521 : τ 18521 = σ 18521 := hs 18521 (by decide)
  have s18522 : τ 18522 = σ 18522 := hs 18522 (by decide)
  have s18523 : τ 18523 = σ 18523 := hs 18523 (by decide)
  have s18524 : τ 18524 = σ 18524 := hs 18524 (by decide)
  have s18525 : τ 18525 = σ 18525 := hs 18525 (by decide)
  have s18526 : τ 18526 = σ 18526 := hs 18526 (by decide)
  have s18527 : τ 18527 = σ 18527 := hs 18527 (by decide)
  have s18528 : τ 18528 = σ 18528 := hs 18528 (by decide)
  have s18529 : τ 18529 = σ 18529 := hs 18529 (by decide)
  have s18530 : τ 18530 = σ 18530 := hs 18530 (by decide)
  have s18531 : τ 18531 = σ 18531 := hs 18531 (by decide)
  have s18532 : τ 18532 = σ 18532 := hs 18532 (by decide)
  have s18533 : τ 18533 = σ 18533 := hs 18533 (by decide)
  have s18534 : τ 18534 = σ 18534 := hs 18534 (by decide)
  have s18535 : τ 18535 = σ 18535 := hs 18535 (by decide)
  clear ht hb h1 h2
  rw [hx] at hr
  clear hx
  obtain ⟨y, hy, hv⟩ := hr
  cases hy
  replace hv : x.toInt = (-1) + 0 := hv
  have sm : σ' 133 = σ 133 ∧ σ' 134 = σ 134 ∧ σ' 12805 = σ 12805 ∧ σ' 10250 = σ 10250 ∧ σ' 12814 = σ 12814 ∧ σ' 18520 = σ 18520 ∧ σ' 18521 = σ 18521 ∧ σ' 18522 = σ 18522 ∧ σ' 18523 = σ 18523 ∧ σ' 18524 = σ 18524 ∧ σ' 18525 = σ 18525 ∧ σ' 18526 = σ 18526 ∧ σ' 18527 = σ 18527 := ⟨lw_id s133 (hm 133 (by decide)), lw_id s134 (hm 134 (by decide)), lw_id s12805 (hm 12805 (by decide)), lw_id s10250 (hm 10250 (by decide)), lw_id s12814 (hm 12814 (by decide)), lw_id s18520 (hm 18520 (by decide)), lw_id s18521 (hm 18521 (by decide)), lw_id s18522 (hm 18522 (by decide)), lw_id s18523 (hm 18523 (by decide)), lw_id s18524 (hm 18524 (by decide)), lw_id s18525 (hm 18525 (by decide)), lw_id s18526 (hm 18526 (by decide)), lw_id s18527 (hm 18527 (by decide))⟩
  refine ⟨?_, sm⟩
  clear sm
  have f0 : 0 ≤ (-1) + (1 * τ 12804 + 0) := hf _ (List.Mem.head _)
  have f1 : 0 ≤ 7 + ((-1) * τ 12804 + 0) := hf _ (List.Mem.tail _ (List.Mem.head _))
  have f2 : 0 ≤ (-632646) + (1 * τ 19001 + 0) := hf _ (List.Mem.tail _ (List.Mem.tail _ (List.Mem.head _)))
  have f3 : 0 ≤ 1099511627770 + ((-1) * τ 19001 + 0) := hf _ (List.Mem.tail _ (List.Mem.tail _ (List.Mem.tail _ (List.Mem.head _))))
  have f4 : 0 ≤ 0 + (1 * τ 19002 + 0) := hf _ (List.Mem.tail _ (List.Mem.tail _ (List.Mem.tail _ (List.Mem.tail _ (List.Mem.head _)))))
  have f5 : 0 ≤ 9 + ((-1) * τ 19002 + 0) := hf _ (List.Mem.tail _ (List.Mem.tail _ (List.Mem.tail _ (List.Mem.tail _ (List.Mem.tail _ (List.Mem.head _))))))
  have f6 : 0 ≤ (-1) + (1 * τ 12804 + ((-1) * τ 1000003 + 0)) := hf _ (List.Mem.tail _ (List.Mem.tail _ (List.Mem.tail _ (List.Mem.tail _ (List.Mem.tail _ (List.Mem.tail _ (List.Mem.head _)))))))
  have m18511 : σ' 18511 = 0 + (1 * τ 19001 + 0) := hm 18511 (by decide)
  have m18512 : σ' 18512 = 0 + 0 := hm 18512 (by decide)
  have m18513 : σ' 18513 = 1 + 0 := hm 18513 (by decide)
  have hok : lw_OK a1 a2 := by
    refine ⟨?_, by omega, by omega, ⟨by omega, by omega, by omega, by omega, by omega, by omega, by omega, by omega⟩, by omega, by omega⟩
    have h0 := g20.1 (by omega)
    rw [show σ' 18511 = a1 by omega, show σ' 18512 = 0 by omega] at h0
    exact h0.mpr sx_gdn_0
  have m18517 : σ' 18517 = 0 + (1 * τ 19001 + 0) := hm 18517 (by decide)
  have m18519 : σ' 18519 = 0 + (1 * τ 1000003 + 0) := hm 18519 (by decide)
  have w3 : 0 ≤ τ 1000003 ∧ τ 1000003 ≤ 6 := hw 3 _ rfl
  have k0 := g22.2 (by omega)
  obtain ⟨n0, n1, n2, n3, n4, n5, n6, n7⟩ := g24
  have q18528 := lw_id s18528 (hm 18528 (by decide))
  have q18529 := lw_id s18529 (hm 18529 (by decide))
  have q18530 := lw_id s18530 (hm 18530 (by decide))
  have q18531 := lw_id s18531 (hm 18531 (by decide))
  have q18532 := lw_id s18532 (hm 18532 (by decide))
  have q18533 := lw_id s18533 (hm 18533 (by decide))
  have q18534 := lw_id s18534 (hm 18534 (by decide))
  have q18535 := lw_id s18535 (hm 18535 (by decide))
  refine Or.inr (Or.inr (Or.inl ⟨by omega, ⟨lw_id s12804 (hm 12804 (by decide)), lw_id s18528 (hm 18528 (by decide)), lw_id s18529 (hm 18529 (by decide)), lw_id s18530 (hm 18530 (by decide)), lw_id s18531 (hm 18531 (by decide)), lw_id s18532 (hm 18532 (by decide)), lw_id s18533 (hm 18533 (by decide)), lw_id s18534 (hm 18534 (by decide)), lw_id s18535 (hm 18535 (by decide))⟩, hok, by omega, ?_⟩))
  rcases (show σ' 18519 = 0 ∨ σ' 18519 = 1 ∨ σ' 18519 = 2 ∨ σ' 18519 = 3 ∨ σ' 18519 = 4 ∨ σ' 18519 = 5 ∨ σ' 18519 = 6 ∨ σ' 18519 = 7 by omega) with kj | kj | kj | kj | kj | kj | kj | kj
  · rw [kj] at k0
    replace k0 : A 104 0 = σ' 18517 := k0
    exact Or.inl ⟨by omega, by omega⟩
  · rw [kj] at k0
    replace k0 : A 104 1 = σ' 18517 := k0
    exact Or.inr (Or.inl ⟨by omega, by omega⟩)
  · rw [kj] at k0
    replace k0 : A 104 2 = σ' 18517 := k0
    exact Or.inr (Or.inr (Or.inl ⟨by omega, by omega⟩))
  · rw [kj] at k0
    replace k0 : A 104 3 = σ' 18517 := k0
    exact Or.inr (Or.inr (Or.inr (Or.inl ⟨by omega, by omega⟩)))
  · rw [kj] at k0
    replace k0 : A 104 4 = σ' 18517 := k0
    exact Or.inr (Or.inr (Or.inr (Or.inr (Or.inl ⟨by omega, by omega⟩))))
  · rw [kj] at k0
    replace k0 : A 104 5 = σ' 18517 := k0
    exact Or.inr (Or.inr (Or.inr (Or.inr (Or.inr (Or.inl ⟨by omega, by omega⟩)))))
  · rw [kj] at k0
    replace k0 : A 104 6 = σ' 18517 := k0
    exact Or.inr (Or.inr (Or.inr (Or.inr (Or.inr (Or.inr (Or.inl ⟨by omega, by omega⟩))))))
  · rw [kj] at k0
    replace k0 : A 104 7 = σ' 18517 := k0
    exact Or.inr (Or.inr (Or.inr (Or.inr (Or.inr (Or.inr (Or.inr (⟨by omega, by omega⟩)))))))
theorem lw_pm_81 {as : List rv_A} {σ σ' : Nat → Int} {o : rv_O} {x : Int32} {a1 a2 : Int} {A : Nat → Nat → Int} {τ : Nat → Int} (hx : o.1 = some (.inl x)) (h1 : lw_av as 1 = a1) (h2 : lw_av as 2 = a2) (hb : ∀ s, (sx_sr s).1 ≤ σ s ∧ σ s ≤ (sx_sr s).2) (hG : sx_GG σ' A) (hW : lw_W ([(18509, 1, 1099511627770), (18510, 0, 34359738367)], [((-8), [(12804, 1)]), ((-1), [(19001, 1)]), (293, [(19001, (-1))]), (0, [(19002, 1)]), (9, [(19002, (-1))]), ((-1), [(12804, 1), (18519, (-1))])], [(12800, (4, [])), (18509, (0, [(1000000, 1)])), (18510, (0, [(1000001, 1)])), (18511, (0, [(19001, 1)])), (18512, (0, [])), (18513, (1, []))], some (false, ((-1), []))) as σ σ' τ o) : lw_pm_C a1 a2 x.toInt σ σ' := by
  unfold lw_pm_C
  have bM : 0 ≤ σ 12804 ∧ σ 12804 ≤ 8 := by
    have h0 := hb 12804
    rw [show sx_sr 12804 = (0, 8) from by decide +kernel] at h0
    exact h0
  obtain ⟨-, -, -, -, -, -, -, -, -, -, -, -, -, -, -, -, -, -, -, g19, g20, -, g22, -, g24⟩ := hG
  obtain ⟨hs, ht, hf, hr, hm, hw⟩ := hW
  have e1 : τ 19001 = a1 := by rw [ht 19001 (by decide) (by decide)]; exact h1
  have e2 : τ 19002 = a2 := by rw [ht 19002 (by decide) (by decide)]; exact h2
  have s133 : τ 133 = σ 133 := hs 133 (by decide)
  have s134 : τ 134 = σ 134 := hs 134 (by decide)
  have s10250 : τ 10250 = σ 10250 := hs 10250 (by decide)
  have s12804 : τ 12804 = σ 12804 := hs 12804 (by decide)
  have s12805 : τ 12805 = σ 12805 := hs 12805 (by decide)
  have s12814 : τ 12814 = σ 12814 := hs 12814 (by decide)
  have s18520 : τ 18520 = σ 18520 := hs 18520 (by decide)
  have s18521 : τ 18521 = σ 18521 := hs 18521 (by decide)
  have s18522 : τ 18522 = σ 18522 := hs 18522 (by decide)
  have s18523 : τ 18523 = σ 18523 := hs 18523 (by decide)
  have s18524 : τ 18524 = σ 18524 := hs 18524 (by decide)
  have s18525 : τ 18525 = σ 18525 := hs 18525 (by decide)
  have s18526 : τ 18526 = σ 18526 := hs 18526 (by decide)
  have s18527 : τ 18527 = σ 18527 := hs 18527 (by decide)
  have s18528 : τ 18528 = σ 18528 := hs 18528 (by decide)
  have s18529 : τ 18529 = σ 18529 := hs 18529 (by decide)
  have s18530 : τ 18530 = σ 18530 := hs 18530 (by decide)
  have s18531 : τ 18531 = σ 18531 := hs 18531 (by decide)
  have s18532 : τ 18532 = σ 18532 := hs 18532 (by decide)
  have s18533 : τ 18533 = σ 18533 := hs 18533 (by decide)
  have s18534 : τ 18534 = σ 18534 := hs 18534 (by decide)
  have s18535 : τ 18535 = σ 18535 := hs 18535 (by decide)
  clear ht hb h1 h2
  rw [hx] at hr
  clear hx
  obtain ⟨y, hy, hv⟩ := hr
  cases hy
  replace hv : x.toInt = (-1) + 0 := hv
  have sm : σ' 133 = σ 133 ∧ σ' 134 = σ 134 ∧ σ' 12805 = σ 12805 ∧ σ' 10250 = σ 10250 ∧ σ' 12814 = σ 12814 ∧ σ' 18520 = σ 18520 ∧ σ' 18521 = σ 18521 ∧ σ' 18522 = σ 18522 ∧ σ' 18523 = σ 18523 ∧ σ' 18524 = σ 18524 ∧ σ' 18525 = σ 18525 ∧ σ' 18526 = σ 18526 ∧ σ' 18527 = σ 18527 := ⟨lw_id s133 (hm 133 (by decide)), lw_id s134 (hm 134 (by decide)), lw_id s12805 (hm 12805 (by decide)), lw_id s10250 (hm 10250 (by decide)), lw_id s12814 (hm 12814 (by decide)), lw_id s18520 (hm 18520 (by decide)), lw_id s18521 (hm 18521 (by decide)), lw_id s18522 (hm 18522 (by decide)), lw_id s18523 (hm 18523 (by decide)), lw_id s18524 (hm 18524 (by decide)), lw_id s18525 (hm 18525 (by decide)), lw_id s18526 (hm 18526 (by decide)), lw_id s18527 (hm 18527 (by decide))⟩
  refine ⟨?_, sm⟩
  clear sm
  have f0 : 0 ≤ (-8) + (1 * τ 12804 + 0) := hf _ (List.Mem.head _)
  have f1 : 0 ≤ (-1) + (1 * τ 19001 + 0) := hf _ (List.Mem.tail _ (List.Mem.head _))
  have f2 : 0 ≤ 293 + ((-1) * τ 19001 + 0) := hf _ (List.Mem.tail _ (List.Mem.tail _ (List.Mem.head _)))
  have f3 : 0 ≤ 0 + (1 * τ 19002 + 0) := hf _ (List.Mem.tail _ (List.Mem.tail _ (List.Mem.tail _ (List.Mem.head _))))
  have f4 : 0 ≤ 9 + ((-1) * τ 19002 + 0) := hf _ (List.Mem.tail _ (List.Mem.tail _ (List.Mem.tail _ (List.Mem.tail _ (List.Mem.head _)))))
  have f5 : 0 ≤ (-1) + (1 * τ 12804 + ((-1) * τ 18519 + 0)) := hf _ (List.Mem.tail _ (List.Mem.tail _ (List.Mem.tail _ (List.Mem.tail _ (List.Mem.tail _ (List.Mem.head _))))))
  have m18511 : σ' 18511 = 0 + (1 * τ 19001 + 0) := hm 18511 (by decide)
  have m18512 : σ' 18512 = 0 + 0 := hm 18512 (by decide)
  have m18513 : σ' 18513 = 1 + 0 := hm 18513 (by decide)
  have hok : lw_OK a1 a2 := by
    refine ⟨?_, by omega, by omega, ⟨by omega, by omega, by omega, by omega, by omega, by omega, by omega, by omega⟩, by omega, by omega⟩
    have h0 := g20.1 (by omega)
    rw [show σ' 18511 = a1 by omega, show σ' 18512 = 0 by omega] at h0
    exact h0.mpr sx_gdn_0
  exact Or.inr (Or.inl ⟨by omega, ⟨lw_id s12804 (hm 12804 (by decide)), lw_id s18528 (hm 18528 (by decide)), lw_id s18529 (hm 18529 (by decide)), lw_id s18530 (hm 18530 (by decide)), lw_id s18531 (hm 18531 (by decide)), lw_id s18532 (hm 18532 (by decide)), lw_id s18533 (hm 18533 (by decide)), lw_id s18534 (hm 18534 (by decide)), lw_id s18535 (hm 18535 (by decide))⟩, hok, by omega⟩)
theorem lw_pm_82 {as : List rv_A} {σ σ' : Nat → Int} {o : rv_O} {x : Int32} {a1 a2 : Int} {A : Nat → Nat → Int} {τ : Nat → Int} (hx : o.1 = some (.inl x)) (h1 : lw_av as 1 = a1) (h2 : lw_av as 2 = a2) (hb : ∀ s, (sx_sr s).1 ≤ σ s ∧ σ s ≤ (sx_sr s).2) (hG : sx_GG σ' A) (hW : lw_W ([(18509, 1, 1099511627770), (18510, 0, 34359738367)], [((-8), [(12804, 1)]), ((-11567), [(19001, 1)]), (14835, [(19001, (-1))]), (0, [(19002, 1)]), (9, [(19002, (-1))]), ((-1), [(12804, 1), (18519, (-1))])], [(12800, (4, [])), (18509, (0, [(1000000, 1)])), (18510, (0, [(1000001, 1)])), (18511, (0, [(19001, 1)])), (18512, (0, [])), (18513, (1, []))], some (false, ((-1), []))) as σ σ' τ o) : lw_pm_C a1 a2 x.toInt σ σ' := by
  unfold lw_pm_C
  have bM : 0 ≤ σ 12804 ∧ σ 12804 ≤ 8 := by
    have h0 := hb 12804
    rw [show sx_sr 12804 = (0, 8) from by decide +kernel] at h0
    exact h0
  obtain ⟨-, -, -, -, -, -, -, -, -, -, -, -, -, -, -, -, -, -, -, g19, g20, -, g22, -, g24⟩ := hG
  obtain ⟨hs, ht, hf, hr, hm, hw⟩ := hW
  have e1 : τ 19001 = a1 := by rw [ht 19001 (by decide) (by decide)]; exact h1
  have e2 : τ 19002 = a2 := by rw [ht 19002 (by decide) (by decide)]; exact h2
  have s133 : τ 133 = σ 133 := hs 133 (by decide)
  have s134 : τ 134 = σ 134 := hs 134 (by decide)
  have s10250 : τ 10250 = σ 10250 := hs 10250 (by decide)
  have s12804 : τ 12804 = σ 12804 := hs 12804 (by decide)
  have s12805 : τ 12805 = σ 12805 := hs 12805 (by decide)
  have s12814 : τ 12814 = σ 12814 := hs 12814 (by decide)
  have s18520 : τ 18520 = σ 18520 := hs 18520 (by decide)
  have s18521 : τ 18521 = σ 18521 := hs 18521 (by decide)
  have s18522 : τ 18522 = σ 18522 := hs 18522 (by decide)
  have s18523 : τ 18523 = σ 18523 := hs 18523 (by decide)
  have s18524 : τ 18524 = σ 18524 := hs 18524 (by decide)
  have s18525 : τ 18525 = σ 18525 := hs 18525 (by decide)
  have s18526 : τ 18526 = σ 18526 := hs 18526 (by decide)
  have s18527 : τ 18527 = σ 18527 := hs 18527 (by decide)
  have s18528 : τ 18528 = σ 18528 := hs 18528 (by decide)
  have s18529 : τ 18529 = σ 18529 := hs 18529 (by decide)
  have s18530 : τ 18530 = σ 18530 := hs 18530 (by decide)
  have s18531 : τ 18531 = σ 18531 := hs 18531 (by decide)
  have s18532 : τ 18532 = σ 18532 := hs 18532 (by decide)
  have s18533 : τ 18533 = σ 18533 := hs 18533 (by decide)
  have s18534 : τ 18534 = σ 18534 := hs 18534 (by decide)
  have s18535 : τ 18535 = σ 18535 := hs 18535 (by decide)
  clear ht hb h1 h2
  rw [hx] at hr
  clear hx
  obtain ⟨y, hy, hv⟩ := hr
  cases hy
  replace hv : x.toInt = (-1) + 0 := hv
  have sm : σ' 133 = σ 133 ∧ σ' 134 = σ 134 ∧ σ' 12805 = σ 12805 ∧ σ' 10250 = σ 10250 ∧ σ' 12814 = σ 12814 ∧ σ' 18520 = σ 18520 ∧ σ' 18521 = σ 18521 ∧ σ' 18522 = σ 18522 ∧ σ' 18523 = σ 18523 ∧ σ' 18524 = σ 18524 ∧ σ' 18525 = σ 18525 ∧ σ' 18526 = σ 18526 ∧ σ' 18527 = σ 18527 := ⟨lw_id s133 (hm 133 (by decide)), lw_id s134 (hm 134 (by decide)), lw_id s12805 (hm 12805 (by decide)), lw_id s10250 (hm 10250 (by decide)), lw_id s12814 (hm 12814 (by decide)), lw_id s18520 (hm 18520 (by decide)), lw_id s18521 (hm 18521 (by decide)), lw_id s18522 (hm 18522 (by decide)), lw_id s18523 (hm 18523 (by decide)), lw_id s18524 (hm 18524 (by decide)), lw_id s18525 (hm 18525 (by decide)), lw_id s18526 (hm 18526 (by decide)), lw_id s18527 (hm 18527 (by decide))⟩
  refine ⟨?_, sm⟩
  clear sm
  have f0 : 0 ≤ (-8) + (1 * τ 12804 + 0) := hf _ (List.Mem.head _)
  have f1 : 0 ≤ (-11567) + (1 * τ 19001 + 0) := hf _ (List.Mem.tail _ (List.Mem.head _))
  have f2 : 0 ≤ 14835 + ((-1) * τ 19001 + 0) := hf _ (List.Mem.tail _ (List.Mem.tail _ (List.Mem.head _)))
  have f3 : 0 ≤ 0 + (1 * τ 19002 + 0) := hf _ (List.Mem.tail _ (List.Mem.tail _ (List.Mem.tail _ (List.Mem.head _))))
  have f4 : 0 ≤ 9 + ((-1) * τ 19002 + 0) := hf _ (List.Mem.tail _ (List.Mem.tail _ (List.Mem.tail _ (List.Mem.tail _ (List.Mem.head _)))))
  have f5 : 0 ≤ (-1) + (1 * τ 12804 + ((-1) * τ 18519 + 0)) := hf _ (List.Mem.tail _ (List.Mem.tail _ (List.Mem.tail _ (List.Mem.tail _ (List.Mem.tail _ (List.Mem.head _))))))
  have m18511 : σ' 18511 = 0 + (1 * τ 19001 + 0) := hm 18511 (by decide)
  have m18512 : σ' 18512 = 0 + 0 := hm 18512 (by decide)
  have m18513 : σ' 18513 = 1 + 0 := hm 18513 (by decide)
  have hok : lw_OK a1 a2 := by
    refine ⟨?_, by omega, by omega, ⟨by omega, by omega, by omega, by omega, by omega, by omega, by omega, by omega⟩, by omega, by omega⟩
    have h0 := g20.1 (by omega)
    rw [show σ' 18511 = a1 by omega, show σ' 18512 = 0 by omega] at h0
    exact h0.mpr sx_gdn_0
  exact Or.inr (Or.inl ⟨by omega, ⟨lw_id s12804 (hm 12804 (by decide)), lw_id s18528 (hm 18528 (by decide)), lw_id s18529 (hm 18529 (by decide)), lw_id s18530 (hm 18530 (by decide)), lw_id s18531 (hm 18531 (by decide)), lw_id s18532 (hm 18532 (by decide)), lw_id s18533 (hm 18533 (by decide)), lw_id s18534 (hm 18534 (by decide)), lw_id s18535 (hm 18535 (by decide))⟩, hok, by omega⟩)
theorem lw_pm_83 {as : List rv_A} {σ σ' : Nat → Int} {o : rv_O} {x : Int32} {a1 a2 : Int} {A : Nat → Nat → Int} {τ : Nat → Int} (hx : o.1 = some (.inl x)) (h1 : lw_av as 1 = a1) (h2 : lw_av as 2 = a2) (hb : ∀ s, (sx_sr s).1 ≤ σ s ∧ σ s ≤ (sx_sr s).2) (hG : sx_GG σ' A) (hW : lw_W ([(18509, 1, 1099511627770), (18510, 0, 34359738367)], [((-8), [(12804, 1)]), ((-1157), [(19001, 1)]), (1475, [(19001, (-1))]), (0, [(19002, 1)]), (9, [(19002, (-1))]), ((-1), [(12804, 1), (18519, (-1))])], [(12800, (4, [])), (18509, (0, [(1000000, 1)])), (18510, (0, [(1000001, 1)])), (18511, (0, [(19001, 1)])), (18512, (0, [])), (18513, (1, []))], some (false, ((-1), []))) as σ σ' τ o) : lw_pm_C a1 a2 x.toInt σ σ' := by
  unfold lw_pm_C
  have bM : 0 ≤ σ 12804 ∧ σ 12804 ≤ 8 := by
    have h0 := hb 12804
    rw [show sx_sr 12804 = (0, 8) from by decide +kernel] at h0
    exact h0
  obtain ⟨-, -, -, -, -, -, -, -, -, -, -, -, -, -, -, -, -, -, -, g19, g20, -, g22, -, g24⟩ := hG
  obtain ⟨hs, ht, hf, hr, hm, hw⟩ := hW
  have e1 : τ 19001 = a1 := by rw [ht 19001 (by decide) (by decide)]; exact h1
  have e2 : τ 19002 = a2 := by rw [ht 19002 (by decide) (by decide)]; exact h2
  have s133 : τ 133 = σ 133 := hs 133 (by decide)
  have s134 : τ 134 = σ 134 := hs 134 (by decide)
  have s10250 : τ 10250 = σ 10250 := hs 10250 (by decide)
  have s12804 : τ 12804 = σ 12804 := hs 12804 (by decide)
  have s12805 : τ 12805 = σ 12805 := hs 12805 (by decide)
  have s12814 : τ 12814 = σ 12814 := hs 12814 (by decide)
  have s18520 : τ 18520 = σ 18520 := hs 18520 (by decide)
  have s18521 : τ 18521 = σ 18521 := hs 18521 (by decide)
  have s18522 : τ 18522 = σ 18522 := hs 18522 (by decide)
  have s18523 : τ 18523 = σ 18523 := hs 18523 (by decide)
  have s18524 : τ 18524 = σ 18524 := hs 18524 (by decide)
  have s18525 : τ 18525 = σ 18525 := hs 18525 (by decide)
  have s18526 : τ 18526 = σ 18526 := hs 18526 (by decide)
  have s18527 : τ 18527 = σ 18527 := hs 18527 (by decide)
  have s18528 : τ 18528 = σ 18528 := hs 18528 (by decide)
  have s18529 : τ 18529 = σ 18529 := hs 18529 (by decide)
  have s18530 : τ 18530 = σ 18530 := hs 18530 (by decide)
  have s18531 : τ 18531 = σ 18531 := hs 18531 (by decide)
  have s18532 : τ 18532 = σ 18532 := hs 18532 (by decide)
  have s18533 : τ 18533 = σ 18533 := hs 18533 (by decide)
  have s18534 : τ 18534 = σ 18534 := hs 18534 (by decide)
  have s18535 : τ 18535 = σ 18535 := hs 18535 (by decide)
  clear ht hb h1 h2
  rw [hx] at hr
  clear hx
  obtain ⟨y, hy, hv⟩ := hr
  cases hy
  replace hv : x.toInt = (-1) + 0 := hv
  have sm : σ' 133 = σ 133 ∧ σ' 134 = σ 134 ∧ σ' 12805 = σ 12805 ∧ σ' 10250 = σ 10250 ∧ σ' 12814 = σ 12814 ∧ σ' 18520 = σ 18520 ∧ σ' 18521 = σ 18521 ∧ σ' 18522 = σ 18522 ∧ σ' 18523 = σ 18523 ∧ σ' 18524 = σ 18524 ∧ σ' 18525 = σ 18525 ∧ σ' 18526 = σ 18526 ∧ σ' 18527 = σ 18527 := ⟨lw_id s133 (hm 133 (by decide)), lw_id s134 (hm 134 (by decide)), lw_id s12805 (hm 12805 (by decide)), lw_id s10250 (hm 10250 (by decide)), lw_id s12814 (hm 12814 (by decide)), lw_id s18520 (hm 18520 (by decide)), lw_id s18521 (hm 18521 (by decide)), lw_id s18522 (hm 18522 (by decide)), lw_id s18523 (hm 18523 (by decide)), lw_id s18524 (hm 18524 (by decide)), lw_id s18525 (hm 18525 (by decide)), lw_id s18526 (hm 18526 (by decide)), lw_id s18527 (hm 18527 (by decide))⟩
  refine ⟨?_, sm⟩
  clear sm
  have f0 : 0 ≤ (-8) + (1 * τ 12804 + 0) := hf _ (List.Mem.head _)
  have f1 : 0 ≤ (-1157) + (1 * τ 19001 + 0) := hf _ (List.Mem.tail _ (List.Mem.head _))
  have f2 : 0 ≤ 1475 + ((-1) * τ 19001 + 0) := hf _ (List.Mem.tail _ (List.Mem.tail _ (List.Mem.head _)))
  have f3 : 0 ≤ 0 + (1 * τ 19002 + 0) := hf _ (List.Mem.tail _ (List.Mem.tail _ (List.Mem.tail _ (List.Mem.head _))))
  have f4 : 0 ≤ 9 + ((-1) * τ 19002 + 0) := hf _ (List.Mem.tail _ (List.Mem.tail _ (List.Mem.tail _ (List.Mem.tail _ (List.Mem.head _)))))
  have f5 : 0 ≤ (-1) + (1 * τ 12804 + ((-1) * τ 18519 + 0)) := hf _ (List.Mem.tail _ (List.Mem.tail _ (List.Mem.tail _ (List.Mem.tail _ (List.Mem.tail _ (List.Mem.head _))))))
  have m18511 : σ' 18511 = 0 + (1 * τ 19001 + 0) := hm 18511 (by decide)
  have m18512 : σ' 18512 = 0 + 0 := hm 18512 (by decide)
  have m18513 : σ' 18513 = 1 + 0 := hm 18513 (by decide)
  have hok : lw_OK a1 a2 := by
    refine ⟨?_, by omega, by omega, ⟨by omega, by omega, by omega, by omega, by omega, by omega, by omega, by omega⟩, by omega, by omega⟩
    have h0 := g20.1 (by omega)
    rw [show σ' 18511 = a1 by omega, show σ' 18512 = 0 by omega] at h0
    exact h0.mpr sx_gdn_0
  exact Or.inr (Or.inl ⟨by omega, ⟨lw_id s12804 (hm 12804 (by decide)), lw_id s18528 (hm 18528 (by decide)), lw_id s18529 (hm 18529 (by decide)), lw_id s18530 (hm 18530 (by decide)), lw_id s18531 (hm 18531 (by decide)), lw_id s18532 (hm 18532 (by decide)), lw_id s18533 (hm 18533 (by decide)), lw_id s18534 (hm 18534 (by decide)), lw_id s18535 (hm 18535 (by decide))⟩, hok, by omega⟩)
theorem lw_pm_84 {as : List rv_A} {σ σ' : Nat → Int} {o : rv_O} {x : Int32} {a1 a2 : Int} {A : Nat → Nat → Int} {τ : Nat → Int} (hx : o.1 = some (.inl x)) (h1 : lw_av as 1 = a1) (h2 : lw_av as 2 = a2) (hb : ∀ s, (sx_sr s).1 ≤ σ s ∧ σ s ≤ (sx_sr s).2) (hG : sx_GG σ' A) (hW : lw_W ([(18509, 1, 1099511627770), (18510, 0, 34359738367)], [((-8), [(12804, 1)]), ((-1477), [(19001, 1)]), (2097, [(19001, (-1))]), (0, [(19002, 1)]), (9, [(19002, (-1))]), ((-1), [(12804, 1), (18519, (-1))])], [(12800, (4, [])), (18509, (0, [(1000000, 1)])), (18510, (0, [(1000001, 1)])), (18511, (0, [(19001, 1)])), (18512, (0, [])), (18513, (1, []))], some (false, ((-1), []))) as σ σ' τ o) : lw_pm_C a1 a2 x.toInt σ σ' := by
  unfold lw_pm_C
  have bM : 0 ≤ σ 12804 ∧ σ 12804 ≤ 8 := by
    have h0 := hb 12804
    rw [show sx_sr 12804 = (0, 8) from by decide +kernel] at h0
    exact h0
  obtain ⟨-, -, -, -, -, -, -, -, -, -, -, -, -, -, -, -, -, -, -, g19, g20, -, g22, -, g24⟩ := hG
  obtain ⟨hs, ht, hf, hr, hm, hw⟩ := hW
  have e1 : τ 19001 = a1 := by rw [ht 19001 (by decide) (by decide)]; exact h1
  have e2 : τ 19002 = a2 := by rw [ht 19002 (by decide) (by decide)]; exact h2
  have s133 : τ 133 = σ 133 := hs 133 (by decide)
  have s134 : τ 134 = σ 134 := hs 134 (by decide)
  have s10250 : τ 10250 = σ 10250 := hs 10250 (by decide)
  have s12804 : τ 12804 = σ 12804 := hs 12804 (by decide)
  have s12805 : τ 12805 = σ 12805 := hs 12805 (by decide)
  have s12814 : τ 12814 = σ 12814 := hs 12814 (by decide)
  have s18520 : τ 18520 = σ 18520 := hs 18520 (by decide)
  have s18521 : τ 18521 = σ 18521 := hs 18521 (by decide)
  have s18522 : τ 18522 = σ 18522 := hs 18522 (by decide)
  have s18523 : τ 18523 = σ 18523 := hs 18523 (by decide)
  have s18524 : τ 18524 = σ 18524 := hs 18524 (by decide)
  have s18525 : τ 18525 = σ 18525 := hs 18525 (by decide)
  have s18526 : τ 18526 = σ 18526 := hs 18526 (by decide)
  have s18527 : τ 18527 = σ 18527 := hs 18527 (by decide)
  have s18528 : τ 18528 = σ 18528 := hs 18528 (by decide)
  have s18529 : τ 18529 = σ 18529 := hs 18529 (by decide)
  have s18530 : τ 18530 = σ 18530 := hs 18530 (by decide)
  have s18531 : τ 18531 = σ 18531 := hs 18531 (by decide)
  have s18532 : τ 18532 = σ 18532 := hs 18532 (by decide)
  have s18533 : τ 18533 = σ 18533 := hs 18533 (by decide)
  have s18534 : τ 18534 = σ 18534 := hs 18534 (by decide)
  have s18535 : τ 18535 = σ 18535 := hs 18535 (by decide)
  clear ht hb h1 h2
  rw [hx] at hr
  clear hx
  obtain ⟨y, hy, hv⟩ := hr
  cases hy
  replace hv : x.toInt = (-1) + 0 := hv
  have sm : σ' 133 = σ 133 ∧ σ' 134 = σ 134 ∧ σ' 12805 = σ 12805 ∧ σ' 10250 = σ 10250 ∧ σ' 12814 = σ 12814 ∧ σ' 18520 = σ 18520 ∧ σ' 18521 = σ 18521 ∧ σ' 18522 = σ 18522 ∧ σ' 18523 = σ 18523 ∧ σ' 18524 = σ 18524 ∧ σ' 18525 = σ 18525 ∧ σ' 18526 = σ 18526 ∧ σ' 18527 = σ 18527 := ⟨lw_id s133 (hm 133 (by decide)), lw_id s134 (hm 134 (by decide)), lw_id s12805 (hm 12805 (by decide)), lw_id s10250 (hm 10250 (by decide)), lw_id s12814 (hm 12814 (by decide)), lw_id s18520 (hm 18520 (by decide)), lw_id s18521 (hm 18521 (by decide)), lw_id s18522 (hm 18522 (by decide)), lw_id s18523 (hm 18523 (by decide)), lw_id s18524 (hm 18524 (by decide)), lw_id s18525 (hm 18525 (by decide)), lw_id s18526 (hm 18526 (by decide)), lw_id s18527 (hm 18527 (by decide))⟩
  refine ⟨?_, sm⟩
  clear sm
  have f0 : 0 ≤ (-8) + (1 * τ 12804 + 0) := hf _ (List.Mem.head _)
  have f1 : 0 ≤ (-1477) + (1 * τ 19001 + 0) := hf _ (List.Mem.tail _ (List.Mem.head _))
  have f2 : 0 ≤ 2097 + ((-1) * τ 19001 + 0) := hf _ (List.Mem.tail _ (List.Mem.tail _ (List.Mem.head _)))
  have f3 : 0 ≤ 0 + (1 * τ 19002 + 0) := hf _ (List.Mem.tail _ (List.Mem.tail _ (List.Mem.tail _ (List.Mem.head _))))
  have f4 : 0 ≤ 9 + ((-1) * τ 19002 + 0) := hf _ (List.Mem.tail _ (List.Mem.tail _ (List.Mem.tail _ (List.Mem.tail _ (List.Mem.head _)))))
  have f5 : 0 ≤ (-1) + (1 * τ 12804 + ((-1) * τ 18519 + 0)) := hf _ (List.Mem.tail _ (List.Mem.tail _ (List.Mem.tail _ (List.Mem.tail _ (List.Mem.tail _ (List.Mem.head _))))))
  have m18511 : σ' 18511 = 0 + (1 * τ 19001 + 0) := hm 18511 (by decide)
  have m18512 : σ' 18512 = 0 + 0 := hm 18512 (by decide)
  have m18513 : σ' 18513 = 1 + 0 := hm 18513 (by decide)
  have hok : lw_OK a1 a2 := by
    refine ⟨?_, by omega, by omega, ⟨by omega, by omega, by omega, by omega, by omega, by omega, by omega, by omega⟩, by omega, by omega⟩
    have h0 := g20.1 (by omega)
    rw [show σ' 18511 = a1 by omega, show σ' 18512 = 0 by omega] at h0
    exact h0.mpr sx_gdn_0
  exact Or.inr (Or.inl ⟨by omega, ⟨lw_id s12804 (hm 12804 (by decide)), lw_id s18528 (hm 18528 (by decide)), lw_id s18529 (hm 18529 (by decide)), lw_id s18530 (hm 18530 (by decide)), lw_id s18531 (hm 18531 (by decide)), lw_id s18532 (hm 18532 (by decide)), lw_id s18533 (hm 18533 (by decide)), lw_id s18534 (hm 18534 (by decide)), lw_id s18535 (hm 18535 (by decide))⟩, hok, by omega⟩)
theorem lw_pm_85 {as : List rv_A} {σ σ' : Nat → Int} {o : rv_O} {x : Int32} {a1 a2 : Int} {A : Nat → Nat → Int} {τ : Nat → Int} (hx : o.1 = some (.inl x)) (h1 : lw_av as 1 = a1) (h2 : lw_av as 2 = a2) (hb : ∀ s, (sx_sr s).1 ≤ σ s ∧ σ s ≤ (sx_sr s).2) (hG : sx_GG σ' A) (hW : lw_W ([(18509, 1, 1099511627770), (18510, 0, 34359738367)], [((-8), [(12804, 1)]), ((-14837), [(19001, 1)]), (632644, [(19001, (-1))]), (0, [(19002, 1)]), (9, [(19002, (-1))]), ((-1), [(12804, 1), (18519, (-1))])], [(12800, (4, [])), (18509, (0, [(1000000, 1)])), (18510, (0, [(1000001, 1)])), (18511, (0, [(19001, 1)])), (18512, (0, [])), (18513, (1, []))], some (false, ((-1), []))) as σ σ' τ o) : lw_pm_C a1 a2 x.toInt σ σ' := by
  unfold lw_pm_C
  have bM : 0 ≤ σ 12804 ∧ σ 12804 ≤ 8 := by
    have h0 := hb 12804
    rw [show sx_sr 12804 = (0, 8) from by decide +kernel] at h0
    exact h0
  obtain ⟨-, -, -, -, -, -, -, -, -, -, -, -, -, -, -, -, -, -, -, g19, g20, -, g22, -, g24⟩ := hG
  obtain ⟨hs, ht, hf, hr, hm, hw⟩ := hW
  have e1 : τ 19001 = a1 := by rw [ht 19001 (by decide) (by decide)]; exact h1
  have e2 : τ 19002 = a2 := by rw [ht 19002 (by decide) (by decide)]; exact h2
  have s133 : τ 133 = σ 133 := hs 133 (by decide)
  have s134 : τ 134 = σ 134 := hs 134 (by decide)
  have s10250 : τ 10250 = σ 10250 := hs 10250 (by decide)
  have s12804 : τ 12804 = σ 12804 := hs 12804 (by decide)
  have s12805 : τ 12805 = σ 12805 := hs 12805 (by decide)
  have s12814 : τ 12814 = σ 12814 := hs 12814 (by decide)
  have s18520 : τ 18520 = σ 18520 := hs 18520 (by decide)
  have s18521 : τ 18521 = σ 18521 := hs 18521 (by decide)
  have s18522 : τ 18522 = σ 18522 := hs 18522 (by decide)
  have s18523 : τ 18523 = σ 18523 := hs 18523 (by decide)
  have s18524 : τ 18524 = σ 18524 := hs 18524 (by decide)
  have s18525 : τ 18525 = σ 18525 := hs 18525 (by decide)
  have s18526 : τ 18526 = σ 18526 := hs 18526 (by decide)
  have s18527 : τ 18527 = σ 18527 := hs 18527 (by decide)
  have s18528 : τ 18528 = σ 18528 := hs 18528 (by decide)
  have s18529 : τ 18529 = σ 18529 := hs 18529 (by decide)
  have s18530 : τ 18530 = σ 18530 := hs 18530 (by decide)
  have s18531 : τ 18531 = σ 18531 := hs 18531 (by decide)
  have s18532 : τ 18532 = σ 18532 := hs 18532 (by decide)
  have s18533 : τ 18533 = σ 18533 := hs 18533 (by decide)
  have s18534 : τ 18534 = σ 18534 := hs 18534 (by decide)
  have s18535 : τ 18535 = σ 18535 := hs 18535 (by decide)
  clear ht hb h1 h2
  rw [hx] at hr
  clear hx
  obtain ⟨y, hy, hv⟩ := hr
  cases hy
  replace hv : x.toInt = (-1) + 0 := hv
  have sm : σ' 133 = σ 133 ∧ σ' 134 = σ 134 ∧ σ' 12805 = σ 12805 ∧ σ' 10250 = σ 10250 ∧ σ' 12814 = σ 12814 ∧ σ' 18520 = σ 18520 ∧ σ' 18521 = σ 18521 ∧ σ' 18522 = σ 18522 ∧ σ' 18523 = σ 18523 ∧ σ' 18524 = σ 18524 ∧ σ' 18525 = σ 18525 ∧ σ' 18526 = σ 18526 ∧ σ' 18527 = σ 18527 := ⟨lw_id s133 (hm 133 (by decide)), lw_id s134 (hm 134 (by decide)), lw_id s12805 (hm 12805 (by decide)), lw_id s10250 (hm 10250 (by decide)), lw_id s12814 (hm 12814 (by decide)), lw_id s18520 (hm 18520 (by decide)), lw_id s18521 (hm 18521 (by decide)), lw_id s18522 (hm 18522 (by decide)), lw_id s18523 (hm 18523 (by decide)), lw_id s18524 (hm 18524 (by decide)), lw_id s18525 (hm 18525 (by decide)), lw_id s18526 (hm 18526 (by decide)), lw_id s18527 (hm 18527 (by decide))⟩
  refine ⟨?_, sm⟩
  clear sm
  have f0 : 0 ≤ (-8) + (1 * τ 12804 + 0) := hf _ (List.Mem.head _)
  have f1 : 0 ≤ (-14837) + (1 * τ 19001 + 0) := hf _ (List.Mem.tail _ (List.Mem.head _))
  have f2 : 0 ≤ 632644 + ((-1) * τ 19001 + 0) := hf _ (List.Mem.tail _ (List.Mem.tail _ (List.Mem.head _)))
  have f3 : 0 ≤ 0 + (1 * τ 19002 + 0) := hf _ (List.Mem.tail _ (List.Mem.tail _ (List.Mem.tail _ (List.Mem.head _))))
  have f4 : 0 ≤ 9 + ((-1) * τ 19002 + 0) := hf _ (List.Mem.tail _ (List.Mem.tail _ (List.Mem.tail _ (List.Mem.tail _ (List.Mem.head _)))))
  have f5 : 0 ≤ (-1) + (1 * τ 12804 + ((-1) * τ 18519 + 0)) := hf _ (List.Mem.tail _ (List.Mem.tail _ (List.Mem.tail _ (List.Mem.tail _ (List.Mem.tail _ (List.Mem.head _))))))
  have m18511 : σ' 18511 = 0 + (1 * τ 19001 + 0) := hm 18511 (by decide)
  have m18512 : σ' 18512 = 0 + 0 := hm 18512 (by decide)
  have m18513 : σ' 18513 = 1 + 0 := hm 18513 (by decide)
  have hok : lw_OK a1 a2 := by
    refine ⟨?_, by omega, by omega, ⟨by omega, by omega, by omega, by omega, by omega, by omega, by omega, by omega⟩, by omega, by omega⟩
    have h0 := g20.1 (by omega)
    rw [show σ' 18511 = a1 by omega, show σ' 18512 = 0 by omega] at h0
    exact h0.mpr sx_gdn_0
  exact Or.inr (Or.inl ⟨by omega, ⟨lw_id s12804 (hm 12804 (by decide)), lw_id s18528 (hm 18528 (by decide)), lw_id s18529 (hm 18529 (by decide)), lw_id s18530 (hm 18530 (by decide)), lw_id s18531 (hm 18531 (by decide)), lw_id s18532 (hm 18532 (by decide)), lw_id s18533 (hm 18533 (by decide)), lw_id s18534 (hm 18534 (by decide)), lw_id s18535 (hm 18535 (by decide))⟩, hok, by omega⟩)
theorem lw_pm_86 {as : List rv_A} {σ σ' : Nat → Int} {o : rv_O} {x : Int32} {a1 a2 : Int} {A : Nat → Nat → Int} {τ : Nat → Int} (hx : o.1 = some (.inl x)) (h1 : lw_av as 1 = a1) (h2 : lw_av as 2 = a2) (hb : ∀ s, (sx_sr s).1 ≤ σ s ∧ σ s ≤ (sx_sr s).2) (hG : sx_GG σ' A) (hW : lw_W ([(18509, 1, 1099511627770), (18510, 0, 34359738367)], [((-8), [(12804, 1)]), ((-2099), [(19001, 1)]), (11565, [(19001, (-1))]), (0, [(19002, 1)]), (9, [(19002, (-1))]), ((-1), [(12804, 1), (18519, (-1))])], [(12800, (4, [])), (18509, (0, [(1000000, 1)])), (18510, (0, [(1000001, 1)])), (18511, (0, [(19001, 1)])), (18512, (0, [])), (18513, (1, []))], some (false, ((-1), []))) as σ σ' τ o) : lw_pm_C a1 a2 x.toInt σ σ' := by
  unfold lw_pm_C
  have bM : 0 ≤ σ 12804 ∧ σ 12804 ≤ 8 := by
    have h0 := hb 12804
    rw [show sx_sr 12804 = (0, 8) from by decide +kernel] at h0
    exact h0
  obtain ⟨-, -, -, -, -, -, -, -, -, -, -, -, -, -, -, -, -, -, -, g19, g20, -, g22, -, g24⟩ := hG
  obtain ⟨hs, ht, hf, hr, hm, hw⟩ := hW
  have e1 : τ 19001 = a1 := by rw [ht 19001 (by decide) (by decide)]; exact h1
  have e2 : τ 19002 = a2 := by rw [ht 19002 (by decide) (by decide)]; exact h2
  have s133 : τ 133 = σ 133 := hs 133 (by decide)
  have s134 : τ 134 = σ 134 := hs 134 (by decide)
  have s10250 : τ 10250 = σ 10250 := hs 10250 (by decide)
  have s12804 : τ 12804 = σ 12804 := hs 12804 (by decide)
  have s12805 : τ 12805 = σ 12805 := hs 12805 (by decide)
  have s12814 : τ 12814 = σ 12814 := hs 12814 (by decide)
  have s18520 : τ 18520 = σ 18520 := hs 18520 (by decide)
  have s18521 : τ 18521 = σ 18521 := hs 18521 (by decide)
  have s18522 : τ 18522 = σ 18522 := hs 18522 (by decide)
  have s18523 : τ 18523 = σ 18523 := hs 18523 (by decide)
  have s18524 : τ 18524 = σ 18524 := hs 18524 (by decide)
  have s18525 : τ 18525 = σ 18525 := hs 18525 (by decide)
  have s18526 : τ 18526 = σ 18526 := hs 18526 (by decide)
  have s18527 : τ 18527 = σ 18527 := hs 18527 (by decide)
  have s18528 : τ 18528 = σ 18528 := hs 18528 (by decide)
  have s18529 : τ 18529 = σ 18529 := hs 18529 (by decide)
  have s18530 : τ 18530 = σ 18530 := hs 18530 (by decide)
  have s18531 : τ 18531 = σ 18531 := hs 18531 (by decide)
  have s18532 : τ 18532 = σ 18532 := hs 18532 (by decide)
  have s18533 : τ 18533 = σ 18533 := hs 18533 (by decide)
  have s18534 : τ 18534 = σ 18534 := hs 18534 (by decide)
  have s18535 : τ 18535 = σ 18535 := hs 18535 (by decide)
  clear ht hb h1 h2
  rw [hx] at hr
  clear hx
  obtain ⟨y, hy, hv⟩ := hr
  cases hy
  replace hv : x.toInt = (-1) + 0 := hv
  have sm : σ' 133 = σ 133 ∧ σ' 134 = σ 134 ∧ σ' 12805 = σ 12805 ∧ σ' 10250 = σ 10250 ∧ σ' 12814 = σ 12814 ∧ σ' 18520 = σ 18520 ∧ σ' 18521 = σ 18521 ∧ σ' 18522 = σ 18522 ∧ σ' 18523 = σ 18523 ∧ σ' 18524 = σ 18524 ∧ σ' 18525 = σ 18525 ∧ σ' 18526 = σ 18526 ∧ σ' 18527 = σ 18527 := ⟨lw_id s133 (hm 133 (by decide)), lw_id s134 (hm 134 (by decide)), lw_id s12805 (hm 12805 (by decide)), lw_id s10250 (hm 10250 (by decide)), lw_id s12814 (hm 12814 (by decide)), lw_id s18520 (hm 18520 (by decide)), lw_id s18521 (hm 18521 (by decide)), lw_id s18522 (hm 18522 (by decide)), lw_id s18523 (hm 18523 (by decide)), lw_id s18524 (hm 18524 (by decide)), lw_id s18525 (hm 18525 (by decide)), lw_id s18526 (hm 18526 (by decide)), lw_id s18527 (hm 18527 (by decide))⟩
  refine ⟨?_, sm⟩
  clear sm
  have f0 : 0 ≤ (-8) + (1 * τ 12804 + 0) := hf _ (List.Mem.head _)
  have f1 : 0 ≤ (-2099) + (1 * τ 19001 + 0) := hf _ (List.Mem.tail _ (List.Mem.head _))
  have f2 : 0 ≤ 11565 + ((-1) * τ 19001 + 0) := hf _ (List.Mem.tail _ (List.Mem.tail _ (List.Mem.head _)))
  have f3 : 0 ≤ 0 + (1 * τ 19002 + 0) := hf _ (List.Mem.tail _ (List.Mem.tail _ (List.Mem.tail _ (List.Mem.head _))))
  have f4 : 0 ≤ 9 + ((-1) * τ 19002 + 0) := hf _ (List.Mem.tail _ (List.Mem.tail _ (List.Mem.tail _ (List.Mem.tail _ (List.Mem.head _)))))
  have f5 : 0 ≤ (-1) + (1 * τ 12804 + ((-1) * τ 18519 + 0)) := hf _ (List.Mem.tail _ (List.Mem.tail _ (List.Mem.tail _ (List.Mem.tail _ (List.Mem.tail _ (List.Mem.head _))))))
  have m18511 : σ' 18511 = 0 + (1 * τ 19001 + 0) := hm 18511 (by decide)
  have m18512 : σ' 18512 = 0 + 0 := hm 18512 (by decide)
  have m18513 : σ' 18513 = 1 + 0 := hm 18513 (by decide)
  have hok : lw_OK a1 a2 := by
    refine ⟨?_, by omega, by omega, ⟨by omega, by omega, by omega, by omega, by omega, by omega, by omega, by omega⟩, by omega, by omega⟩
    have h0 := g20.1 (by omega)
    rw [show σ' 18511 = a1 by omega, show σ' 18512 = 0 by omega] at h0
    exact h0.mpr sx_gdn_0
  exact Or.inr (Or.inl ⟨by omega, ⟨lw_id s12804 (hm 12804 (by decide)), lw_id s18528 (hm 18528 (by decide)), lw_id s18529 (hm 18529 (by decide)), lw_id s18530 (hm 18530 (by decide)), lw_id s18531 (hm 18531 (by decide)), lw_id s18532 (hm 18532 (by decide)), lw_id s18533 (hm 18533 (by decide)), lw_id s18534 (hm 18534 (by decide)), lw_id s18535 (hm 18535 (by decide))⟩, hok, by omega⟩)
theorem lw_pm_87 {as : List rv_A} {σ σ' : Nat → Int} {o : rv_O} {x : Int32} {a1 a2 : Int} {A : Nat → Nat → Int} {τ : Nat → Int} (hx : o.1 = some (.inl x)) (h1 : lw_av as 1 = a1) (h2 : lw_av as 2 = a2) (hb : ∀ s, (sx_sr s).1 ≤ σ s ∧ σ s ≤ (sx_sr s).2) (hG : sx_GG σ' A) (hW : lw_W ([(18509, 1, 1099511627770), (18510, 0, 34359738367)], [((-8), [(12804, 1)]), ((-295), [(19001, 1)]), (497, [(19001, (-1))]), (0, [(19002, 1)]), (9, [(19002, (-1))]), ((-1), [(12804, 1), (18519, (-1))])], [(12800, (4, [])), (18509, (0, [(1000000, 1)])), (18510, (0, [(1000001, 1)])), (18511, (0, [(19001, 1)])), (18512, (0, [])), (18513, (1, []))], some (false, ((-1), []))) as σ σ' τ o) : lw_pm_C a1 a2 x.toInt σ σ' := by
  unfold lw_pm_C
  have bM : 0 ≤ σ 12804 ∧ σ 12804 ≤ 8 := by
    have h0 := hb 12804
    rw [show sx_sr 12804 = (0, 8) from by decide +kernel] at h0
    exact h0
  obtain ⟨-, -, -, -, -, -, -, -, -, -, -, -, -, -, -, -, -, -, -, g19, g20, -, g22, -, g24⟩ := hG
  obtain ⟨hs, ht, hf, hr, hm, hw⟩ := hW
  have e1 : τ 19001 = a1 := by rw [ht 19001 (by decide) (by decide)]; exact h1
  have e2 : τ 19002 = a2 := by rw [ht 19002 (by decide) (by decide)]; exact h2
  have s133 : τ 133 = σ 133 := hs 133 (by decide)
  have s134 : τ 134 = σ 134 := hs 134 (by decide)
  have s10250 : τ 10250 = σ 10250 := hs 10250 (by decide)
  have s12804 : τ 12804 = σ 12804 := hs 12804 (by decide)
  have s12805 : τ 12805 = σ 12805 := hs 12805 (by decide)
  have s12814 : τ 12814 = σ 12814 := hs 12814 (by decide)
  have s18520 : τ 18520 = σ 18520 := hs 18520 (by decide)
  have s18521 : τ 18521 = σ 18521 := hs 18521 (by decide)
  have s18522 : τ 18522 = σ 18522 := hs 18522 (by decide)
  have s18523 : τ 18523 = σ 18523 := hs 18523 (by decide)
  have s18524 : τ 18524 = σ 18524 := hs 18524 (by decide)
  have s18525 : τ 18525 = σ 18525 := hs 18525 (by decide)
  have s18526 : τ 18526 = σ 18526 := hs 18526 (by decide)
  have s18527 : τ 18527 = σ 18527 := hs 18527 (by decide)
  have s18528 : τ 18528 = σ 18528 := hs 18528 (by decide)
  have s18529 : τ 18529 = σ 18529 := hs 18529 (by decide)
  have s18530 : τ 18530 = σ 18530 := hs 18530 (by decide)
  have s18531 : τ 18531 = σ 18531 := hs 18531 (by decide)
  have s18532 : τ 18532 = σ 18532 := hs 18532 (by decide)
  have s18533 : τ 18533 = σ 18533 := hs 18533 (by decide)
  have s18534 : τ 18534 = σ 18534 := hs 18534 (by decide)
  have s18535 : τ 18535 = σ 18535 := hs 18535 (by decide)
  clear ht hb h1 h2
  rw [hx] at hr
  clear hx
  obtain ⟨y, hy, hv⟩ := hr
  cases hy
  replace hv : x.toInt = (-1) + 0 := hv
  have sm : σ' 133 = σ 133 ∧ σ' 134 = σ 134 ∧ σ' 12805 = σ 12805 ∧ σ' 10250 = σ 10250 ∧ σ' 12814 = σ 12814 ∧ σ' 18520 = σ 18520 ∧ σ' 18521 = σ 18521 ∧ σ' 18522 = σ 18522 ∧ σ' 18523 = σ 18523 ∧ σ' 18524 = σ 18524 ∧ σ' 18525 = σ 18525 ∧ σ' 18526 = σ 18526 ∧ σ' 18527 = σ 18527 := ⟨lw_id s133 (hm 133 (by decide)), lw_id s134 (hm 134 (by decide)), lw_id s12805 (hm 12805 (by decide)), lw_id s10250 (hm 10250 (by decide)), lw_id s12814 (hm 12814 (by decide)), lw_id s18520 (hm 18520 (by decide)), lw_id s18521 (hm 18521 (by decide)), lw_id s18522 (hm 18522 (by decide)), lw_id s18523 (hm 18523 (by decide)), lw_id s18524 (hm 18524 (by decide)), lw_id s18525 (hm 18525 (by decide)), lw_id s18526 (hm 18526 (by decide)), lw_id s18527 (hm 18527 (by decide))⟩
  refine ⟨?_, sm⟩
  clear sm
  have f0 : 0 ≤ (-8) + (1 * τ 12804 + 0) := hf _ (List.Mem.head _)
  have f1 : 0 ≤ (-295) + (1 * τ 19001 + 0) := hf _ (List.Mem.tail _ (List.Mem.head _))
  have f2 : 0 ≤ 497 + ((-1) * τ 19001 + 0) := hf _ (List.Mem.tail _ (List.Mem.tail _ (List.Mem.head _)))
  have f3 : 0 ≤ 0 + (1 * τ 19002 + 0) := hf _ (List.Mem.tail _ (List.Mem.tail _ (List.Mem.tail _ (List.Mem.head _))))
  have f4 : 0 ≤ 9 + ((-1) * τ 19002 + 0) := hf _ (List.Mem.tail _ (List.Mem.tail _ (List.Mem.tail _ (List.Mem.tail _ (List.Mem.head _)))))
  have f5 : 0 ≤ (-1) + (1 * τ 12804 + ((-1) * τ 18519 + 0)) := hf _ (List.Mem.tail _ (List.Mem.tail _ (List.Mem.tail _ (List.Mem.tail _ (List.Mem.tail _ (List.Mem.head _))))))
  have m18511 : σ' 18511 = 0 + (1 * τ 19001 + 0) := hm 18511 (by decide)
  have m18512 : σ' 18512 = 0 + 0 := hm 18512 (by decide)
  have m18513 : σ' 18513 = 1 + 0 := hm 18513 (by decide)
  have hok : lw_OK a1 a2 := by
    refine ⟨?_, by omega, by omega, ⟨by omega, by omega, by omega, by omega, by omega, by omega, by omega, by omega⟩, by omega, by omega⟩
    have h0 := g20.1 (by omega)
    rw [show σ' 18511 = a1 by omega, show σ' 18512 = 0 by omega] at h0
    exact h0.mpr sx_gdn_0
  exact Or.inr (Or.inl ⟨by omega, ⟨lw_id s12804 (hm 12804 (by decide)), lw_id s18528 (hm 18528 (by decide)), lw_id s18529 (hm 18529 (by decide)), lw_id s18530 (hm 18530 (by decide)), lw_id s18531 (hm 18531 (by decide)), lw_id s18532 (hm 18532 (by decide)), lw_id s18533 (hm 18533 (by decide)), lw_id s18534 (hm 18534 (by decide)), lw_id s18535 (hm 18535 (by decide))⟩, hok, by omega⟩)
theorem lw_pm_88 {as : List rv_A} {σ σ' : Nat → Int} {o : rv_O} {x : Int32} {a1 a2 : Int} {A : Nat → Nat → Int} {τ : Nat → Int} (hx : o.1 = some (.inl x)) (h1 : lw_av as 1 = a1) (h2 : lw_av as 2 = a2) (hb : ∀ s, (sx_sr s).1 ≤ σ s ∧ σ s ≤ (sx_sr s).2) (hG : sx_GG σ' A) (hW : lw_W ([(18509, 1, 1099511627770), (18510, 0, 34359738367)], [((-8), [(12804, 1)]), ((-499), [(19001, 1)]), (1155, [(19001, (-1))]), (0, [(19002, 1)]), (9, [(19002, (-1))]), ((-1), [(12804, 1), (18519, (-1))])], [(12800, (4, [])), (18509, (0, [(1000000, 1)])), (18510, (0, [(1000001, 1)])), (18511, (0, [(19001, 1)])), (18512, (0, [])), (18513, (1, []))], some (false, ((-1), []))) as σ σ' τ o) : lw_pm_C a1 a2 x.toInt σ σ' := by
  unfold lw_pm_C
  have bM : 0 ≤ σ 12804 ∧ σ 12804 ≤ 8 := by
    have h0 := hb 12804
    rw [show sx_sr 12804 = (0, 8) from by decide +kernel] at h0
    exact h0
  obtain ⟨-, -, -, -, -, -, -, -, -, -, -, -, -, -, -, -, -, -, -, g19, g20, -, g22, -, g24⟩ := hG
  obtain ⟨hs, ht, hf, hr, hm, hw⟩ := hW
  have e1 : τ 19001 = a1 := by rw [ht 19001 (by decide) (by decide)]; exact h1
  have e2 : τ 19002 = a2 := by rw [ht 19002 (by decide) (by decide)]; exact h2
  have s133 : τ 133 = σ 133 := hs 133 (by decide)
  have s134 : τ 134 = σ 134 := hs 134 (by decide)
  have s10250 : τ 10250 = σ 10250 := hs 10250 (by decide)
  have s12804 : τ 12804 = σ 12804 := hs 12804 (by decide)
  have s12805 : τ 12805 = σ 12805 := hs 12805 (by decide)
  have s12814 : τ 12814 = σ 12814 := hs 12814 (by decide)
  have s18520 : τ 18520 = σ 18520 := hs 18520 (by decide)
  have s18521 : τ 18521 = σ 18521 := hs 18521 (by decide)
  have s18522 : τ 18522 = σ 18522 := hs 18522 (by decide)
  have s18523 : τ 18523 = σ 18523 := hs 18523 (by decide)
  have s18524 : τ 18524 = σ 18524 := hs 18524 (by decide)
  have s18525 : τ 18525 = σ 18525 := hs 18525 (by decide)
  have s18526 : τ 18526 = σ 18526 := hs 18526 (by decide)
  have s18527 : τ 18527 = σ 18527 := hs 18527 (by decide)
  have s18528 : τ 18528 = σ 18528 := hs 18528 (by decide)
  have s18529 : τ 18529 = σ 18529 := hs 18529 (by decide)
  have s18530 : τ 18530 = σ 18530 := hs 18530 (by decide)
  have s18531 : τ 18531 = σ 18531 := hs 18531 (by decide)
  have s18532 : τ 18532 = σ 18532 := hs 18532 (by decide)
  have s18533 : τ 18533 = σ 18533 := hs 18533 (by decide)
  have s18534 : τ 18534 = σ 18534 := hs 18534 (by decide)
  have s18535 : τ 18535 = σ 18535 := hs 18535 (by decide)
  clear ht hb h1 h2
  rw [hx] at hr
  clear hx
  obtain ⟨y, hy, hv⟩ := hr
  cases hy
  replace hv : x.toInt = (-1) + 0 := hv
  have sm : σ' 133 = σ 133 ∧ σ' 134 = σ 134 ∧ σ' 12805 = σ 12805 ∧ σ' 10250 = σ 10250 ∧ σ' 12814 = σ 12814 ∧ σ' 18520 = σ 18520 ∧ σ' 18521 = σ 18521 ∧ σ' 18522 = σ 18522 ∧ σ' 18523 = σ 18523 ∧ σ' 18524 = σ 18524 ∧ σ' 18525 = σ 18525 ∧ σ' 18526 = σ 18526 ∧ σ' 18527 = σ 18527 := ⟨lw_id s133 (hm 133 (by decide)), lw_id s134 (hm 134 (by decide)), lw_id s12805 (hm 12805 (by decide)), lw_id s10250 (hm 10250 (by decide)), lw_id s12814 (hm 12814 (by decide)), lw_id s18520 (hm 18520 (by decide)), lw_id s18521 (hm 18521 (by decide)), lw_id s18522 (hm 18522 (by decide)), lw_id s18523 (hm 18523 (by decide)), lw_id s18524 (hm 18524 (by decide)), lw_id s18525 (hm 18525 (by decide)), lw_id s18526 (hm 18526 (by decide)), lw_id s18527 (hm 18527 (by decide))⟩
  refine ⟨?_, sm⟩
  clear sm
  have f0 : 0 ≤ (-8) + (1 * τ 12804 + 0) := hf _ (List.Mem.head _)
  have f1 : 0 ≤ (-499) + (1 * τ 19001 + 0) := hf _ (List.Mem.tail _ (List.Mem.head _))
  have f2 : 0 ≤ 1155 + ((-1) * τ 19001 + 0) := hf _ (List.Mem.tail _ (List.Mem.tail _ (List.Mem.head _)))
  have f3 : 0 ≤ 0 + (1 * τ 19002 + 0) := hf _ (List.Mem.tail _ (List.Mem.tail _ (List.Mem.tail _ (List.Mem.head _))))
  have f4 : 0 ≤ 9 + ((-1) * τ 19002 + 0) := hf _ (List.Mem.tail _ (List.Mem.tail _ (List.Mem.tail _ (List.Mem.tail _ (List.Mem.head _)))))
  have f5 : 0 ≤ (-1) + (1 * τ 12804 + ((-1) * τ 18519 + 0)) := hf _ (List.Mem.tail _ (List.Mem.tail _ (List.Mem.tail _ (List.Mem.tail _ (List.Mem.tail _ (List.Mem.head _))))))
  have m18511 : σ' 18511 = 0 + (1 * τ 19001 + 0) := hm 18511 (by decide)
  have m18512 : σ' 18512 = 0 + 0 := hm 18512 (by decide)
  have m18513 : σ' 18513 = 1 + 0 := hm 18513 (by decide)
  have hok : lw_OK a1 a2 := by
    refine ⟨?_, by omega, by omega, ⟨by omega, by omega, by omega, by omega, by omega, by omega, by omega, by omega⟩, by omega, by omega⟩
    have h0 := g20.1 (by omega)
    rw [show σ' 18511 = a1 by omega, show σ' 18512 = 0 by omega] at h0
    exact h0.mpr sx_gdn_0
  exact Or.inr (Or.inl ⟨by omega, ⟨lw_id s12804 (hm 12804 (by decide)), lw_id s18528 (hm 18528 (by decide)), lw_id s18529 (hm 18529 (by decide)), lw_id s18530 (hm 18530 (by decide)), lw_id s18531 (hm 18531 (by decide)), lw_id s18532 (hm 18532 (by decide)), lw_id s18533 (hm 18533 (by decide)), lw_id s18534 (hm 18534 (by decide)), lw_id s18535 (hm 18535 (by decide))⟩, hok, by omega⟩)
theorem lw_pm_89 {as : List rv_A} {σ σ' : Nat → Int} {o : rv_O} {x : Int32} {a1 a2 : Int} {A : Nat → Nat → Int} {τ : Nat → Int} (hx : o.1 = some (.inl x)) (h1 : lw_av as 1 = a1) (h2 : lw_av as 2 = a2) (hb : ∀ s, (sx_sr s).1 ≤ σ s ∧ σ s ≤ (sx_sr s).2) (hG : sx_GG σ' A) (hW : lw_W ([(18509, 1, 1099511627770), (18510, 0, 34359738367)], [((-8), [(12804, 1)]), ((-632646), [(19001, 1)]), (1099511627770, [(19001, (-1))]), (0, [(19002, 1)]), (9, [(19002, (-1))]), ((-1), [(12804, 1), (18519, (-1))])], [(12800, (4, [])), (18509, (0, [(1000000, 1)])), (18510, (0, [(1000001, 1)])), (18511, (0, [(19001, 1)])), (18512, (0, [])), (18513, (1, []))], some (false, ((-1), []))) as σ σ' τ o) : lw_pm_C a1 a2 x.toInt σ σ' := by
  unfold lw_pm_C
  have bM : 0 ≤ σ 12804 ∧ σ 12804 ≤ 8 := by
    have h0 := hb 12804
    rw [show sx_sr 12804 = (0, 8) from by decide +kernel] at h0
    exact h0
  obtain ⟨-, -, -, -, -, -, -, -, -, -, -, -, -, -, -, -, -, -, -, g19, g20, -, g22, -, g24⟩ := hG
  obtain ⟨hs, ht, hf, hr, hm, hw⟩ := hW
  have e1 : τ 19001 = a1 := by rw [ht 19001 (by decide) (by decide)]; exact h1
  have e2 : τ 19002 = a2 := by rw [ht 19002 (by decide) (by decide)]; exact h2
  have s133 : τ 133 = σ 133 := hs 133 (by decide)
  have s134 : τ 134 = σ 134 := hs 134 (by decide)
  have s10250 : τ 10250 = σ 10250 := hs 10250 (by decide)
  have s12804 : τ 12804 = σ 12804 := hs 12804 (by decide)
  have s12805 : τ 12805 = σ 12805 := hs 12805 (by decide)
  have s12814 : τ 12814 = σ 12814 := hs 12814 (by decide)
  have s18520 : τ 18520 = σ 18520 := hs 18520 (by decide)
  have s18521 : τ 18521 = σ 18521 := hs 18521 (by decide)
  have s18522 : τ 18522 = σ 18522 := hs 18522 (by decide)
  have s18523 : τ 18523 = σ 18523 := hs 18523 (by decide)
  have s18524 : τ 18524 = σ 18524 := hs 18524 (by decide)
  have s18525 : τ 18525 = σ 18525 := hs 18525 (by decide)
  have s18526 : τ 18526 = σ 18526 := hs 18526 (by decide)
  have s18527 : τ 18527 = σ 18527 := hs 18527 (by decide)
  have s18528 : τ 18528 = σ 18528 := hs 18528 (by decide)
  have s18529 : τ 18529 = σ 18529 := hs 18529 (by decide)
  have s18530 : τ 18530 = σ 18530 := hs 18530 (by decide)
  have s18531 : τ 18531 = σ 18531 := hs 18531 (by decide)
  have s18532 : τ 18532 = σ 18532 := hs 18532 (by decide)
  have s18533 : τ 18533 = σ 18533 := hs 18533 (by decide)
  have s18534 : τ 18534 = σ 18534 := hs 18534 (by decide)
  have s18535 : τ 18535 = σ 18535 := hs 18535 (by decide)
  clear ht hb h1 h2
  rw [hx] at hr
  clear hx
  obtain ⟨y, hy, hv⟩ := hr
  cases hy
  replace hv : x.toInt = (-1) + 0 := hv
  have sm : σ' 133 = σ 133 ∧ σ' 134 = σ 134 ∧ σ' 12805 = σ 12805 ∧ σ' 10250 = σ 10250 ∧ σ' 12814 = σ 12814 ∧ σ' 18520 = σ 18520 ∧ σ' 18521 = σ 18521 ∧ σ' 18522 = σ 18522 ∧ σ' 18523 = σ 18523 ∧ σ' 18524 = σ 18524 ∧ σ' 18525 = σ 18525 ∧ σ' 18526 = σ 18526 ∧ σ' 18527 = σ 18527 := ⟨lw_id s133 (hm 133 (by decide)), lw_id s134 (hm 134 (by decide)), lw_id s12805 (hm 12805 (by decide)), lw_id s10250 (hm 10250 (by decide)), lw_id s12814 (hm 12814 (by decide)), lw_id s18520 (hm 18520 (by decide)), lw_id s18521 (hm 18521 (by decide)), lw_id s18522 (hm 18522 (by decide)), lw_id s18523 (hm 18523 (by decide)), lw_id s18524 (hm 18524 (by decide)), lw_id s18525 (hm 18525 (by decide)), lw_id s18526 (hm 18526 (by decide)), lw_id s18527 (hm 18527 (by decide))⟩
  refine ⟨?_, sm⟩
  clear sm
  have f0 : 0 ≤ (-8) + (1 * τ 12804 + 0) := hf _ (List.Mem.head _)
  have f1 : 0 ≤ (-632646) + (1 * τ 19001 + 0) := hf _ (List.Mem.tail _ (List.Mem.head _))
  have f2 : 0 ≤ 1099511627770 + ((-1) * τ 19001 + 0) := hf _ (List.Mem.tail _ (List.Mem.tail _ (List.Mem.head _)))
  have f3 : 0 ≤ 0 + (1 * τ 19002 + 0) := hf _ (List.Mem.tail _ (List.Mem.tail _ (List.Mem.tail _ (List.Mem.head _))))
  have f4 : 0 ≤ 9 + ((-1) * τ 19002 + 0) := hf _ (List.Mem.tail _ (List.Mem.tail _ (List.Mem.tail _ (List.Mem.tail _ (List.Mem.head _)))))
  have f5 : 0 ≤ (-1) + (1 * τ 12804 + ((-1) * τ 18519 + 0)) := hf _ (List.Mem.tail _ (List.Mem.tail _ (List.Mem.tail _ (List.Mem.tail _ (List.Mem.tail _ (List.Mem.head _))))))
  have m18511 : σ' 18511 = 0 + (1 * τ 19001 + 0) := hm 18511 (by decide)
  have m18512 : σ' 18512 = 0 + 0 := hm 18512 (by decide)
  have m18513 : σ' 18513 = 1 + 0 := hm 18513 (by decide)
  have hok : lw_OK a1 a2 := by
    refine ⟨?_, by omega, by omega, ⟨by omega, by omega, by omega, by omega, by omega, by omega, by omega, by omega⟩, by omega, by omega⟩
    have h0 := g20.1 (by omega)
    rw [show σ' 18511 = a1 by omega, show σ' 18512 = 0 by omega] at h0
    exact h0.mpr sx_gdn_0
  exact Or.inr (Or.inl ⟨by omega, ⟨lw_id s12804 (hm 12804 (by decide)), lw_id s18528 (hm 18528 (by decide)), lw_id s18529 (hm 18529 (by decide)), lw_id s18530 (hm 18530 (by decide)), lw_id s18531 (hm 18531 (by decide)), lw_id s18532 (hm 18532 (by decide)), lw_id s18533 (hm 18533 (by decide)), lw_id s18534 (hm 18534 (by decide)), lw_id s18535 (hm 18535 (by decide))⟩, hok, by omega⟩)
theorem lw_pm_90 {as : List rv_A} {σ σ' : Nat → Int} {o : rv_O} {x : Int32} {a1 a2 : Int} {A : Nat → Nat → Int} {τ : Nat → Int} (hx : o.1 = some (.inl x)) (h1 : lw_av as 1 = a1) (h2 : lw_av as 2 = a2) (hb : ∀ s, (sx_sr s).1 ≤ σ s ∧ σ s ≤ (sx_sr s).2) (hG : sx_GG σ' A) (hW : lw_W ([], [(0, [(19001, (-1))])], [(12800, (1, []))], some (false, ((-1), []))) as σ σ' τ o) : lw_pm_C a1 a2 x.toInt σ σ' := by
  unfold lw_pm_C
  have bM : 0 ≤ σ 12804 ∧ σ 12804 ≤ 8 := by
    have h0 := hb 12804
    rw [show sx_sr 12804 = (0, 8) from by decide +kernel] at h0
    exact h0
  obtain ⟨-, -, -, -, -, -, -, -, -, -, -, -, -, -, -, -, -, -, -, g19, g20, -, g22, -, g24⟩ := hG
  obtain ⟨hs, ht, hf, hr, hm, hw⟩ := hW
  have e1 : τ 19001 = a1 := by rw [ht 19001 (by decide) (by decide)]; exact h1
  have e2 : τ 19002 = a2 := by rw [ht 19002 (by decide) (by decide)]; exact h2
  have s133 : τ 133 = σ 133 := hs 133 (by decide)
  have s134 : τ 134 = σ 134 := hs 134 (by decide)
  have s10250 : τ 10250 = σ 10250 := hs 10250 (by decide)
  have s12804 : τ 12804 = σ 12804 := hs 12804 (by decide)
  have s12805 : τ 12805 = σ 12805 := hs 12805 (by decide)
  have s12814 : τ 12814 = σ 12814 := hs 12814 (by decide)
  have s18520 : τ 18520 = σ 18520 := hs 18520 (by decide)
  have s18521 : τ 18521 = σ 18521 := hs 18521 (by decide)
  have s18522 : τ 18522 = σ 18522 := hs 18522 (by decide)
  have s18523 : τ 18523 = σ 18523 := hs 18523 (by decide)
  have s18524 : τ 18524 = σ 18524 := hs 18524 (by decide)
  have s18525 : τ 18525 = σ 18525 := hs 18525 (by decide)
  have s18526 : τ 18526 = σ 18526 := hs 18526 (by decide)
  have s18527 : τ 18527 = σ 18527 := hs 18527 (by decide)
  have s18528 : τ 18528 = σ 18528 := hs 18528 (by decide)
  have s18529 : τ 18529 = σ 18529 := hs 18529 (by decide)
  have s18530 : τ 18530 = σ 18530 := hs 18530 (by decide)
  have s18531 : τ 18531 = σ 18531 := hs 18531 (by decide)
  have s18532 : τ 18532 = σ 18532 := hs 18532 (by decide)
  have s18533 : τ 18533 = σ 18533 := hs 18533 (by decide)
  have s18534 : τ 18534 = σ 18534 := hs 18534 (by decide)
  have s18535 : τ 18535 = σ 18535 := hs 18535 (by decide)
  clear ht hb h1 h2
  rw [hx] at hr
  clear hx
  obtain ⟨y, hy, hv⟩ := hr
  cases hy
  replace hv : x.toInt = (-1) + 0 := hv
  have sm : σ' 133 = σ 133 ∧ σ' 134 = σ 134 ∧ σ' 12805 = σ 12805 ∧ σ' 10250 = σ 10250 ∧ σ' 12814 = σ 12814 ∧ σ' 18520 = σ 18520 ∧ σ' 18521 = σ 18521 ∧ σ' 18522 = σ 18522 ∧ σ' 18523 = σ 18523 ∧ σ' 18524 = σ 18524 ∧ σ' 18525 = σ 18525 ∧ σ' 18526 = σ 18526 ∧ σ' 18527 = σ 18527 := ⟨lw_id s133 (hm 133 (by decide)), lw_id s134 (hm 134 (by decide)), lw_id s12805 (hm 12805 (by decide)), lw_id s10250 (hm 10250 (by decide)), lw_id s12814 (hm 12814 (by decide)), lw_id s18520 (hm 18520 (by decide)), lw_id s18521 (hm 18521 (by decide)), lw_id s18522 (hm 18522 (by decide)), lw_id s18523 (hm 18523 (by decide)), lw_id s18524 (hm 18524 (by decide)), lw_id s18525 (hm 18525 (by decide)), lw_id s18526 (hm 18526 (by decide)), lw_id s18527 (hm 18527 (by decide))⟩
  refine ⟨?_, sm⟩
  clear sm
  have f0 : 0 ≤ 0 + ((-1) * τ 19001 + 0) := hf _ (List.Mem.head _)
  refine Or.inl ⟨by omega, ⟨lw_id s12804 (hm 12804 (by decide)), lw_id s18528 (hm 18528 (by decide)), lw_id s18529 (hm 18529 (by decide)), lw_id s18530 (hm 18530 (by decide)), lw_id s18531 (hm 18531 (by decide)), lw_id s18532 (hm 18532 (by decide)), lw_id s18533 (hm 18533 (by decide)), lw_id s18534 (hm 18534 (by decide)), lw_id s18535 (hm 18535 (by decide))⟩, fun hok => ?_⟩
  obtain ⟨o1, o2, o3, o4, o5, o6⟩ := hok
  obtain ⟨z0, z1, z2, z3, z4, z5, z6, z7⟩ := o4
  omega
theorem lw_pm_91 {as : List rv_A} {σ σ' : Nat → Int} {o : rv_O} {x : Int32} {a1 a2 : Int} {A : Nat → Nat → Int} {τ : Nat → Int} (hx : o.1 = some (.inl x)) (h1 : lw_av as 1 = a1) (h2 : lw_av as 2 = a2) (hb : ∀ s, (sx_sr s).1 ≤ σ s ∧ σ s ≤ (sx_sr s).2) (hG : sx_GG σ' A) (hW : lw_W ([(18509, 1, 1099511627776), (18510, 0, 34359738367), (18512, 26, 1099511627776)], [((-1), [(19001, 1)]), (1099511627776, [(19001, (-1))])], [(12800, (1, [])), (18509, (0, [(1000000, 1)])), (18510, (0, [(1000001, 1)])), (18511, (0, [(19001, 1)])), (18512, (0, [(1000002, 1)])), (18513, (0, []))], some (false, ((-1), []))) as σ σ' τ o) : lw_pm_C a1 a2 x.toInt σ σ' := by
  unfold lw_pm_C
  have bM : 0 ≤ σ 12804 ∧ σ 12804 ≤ 8 := by
    have h0 := hb 12804
    rw [show sx_sr 12804 = (0, 8) from by decide +kernel] at h0
    exact h0
  obtain ⟨-, -, -, -, -, -, -, -, -, -, -, -, -, -, -, -, -, -, -, g19, g20, -, g22, -, g24⟩ := hG
  obtain ⟨hs, ht, hf, hr, hm, hw⟩ := hW
  have e1 : τ 19001 = a1 := by rw [ht 19001 (by decide) (by decide)]; exact h1
  have e2 : τ 19002 = a2 := by rw [ht 19002 (by decide) (by decide)]; exact h2
  have s133 : τ 133 = σ 133 := hs 133 (by decide)
  have s134 : τ 134 = σ 134 := hs 134 (by decide)
  have s10250 : τ 10250 = σ 10250 := hs 10250 (by decide)
  have s12804 : τ 12804 = σ 12804 := hs 12804 (by decide)
  have s12805 : τ 12805 = σ 12805 := hs 12805 (by decide)
  have s12814 : τ 12814 = σ 12814 := hs 12814 (by decide)
  have s18520 : τ 18520 = σ 18520 := hs 18520 (by decide)
  have s18521 : τ 18521 = σ 18521 := hs 18521 (by decide)
  have s18522 : τ 18522 = σ 18522 := hs 18522 (by decide)
  have s18523 : τ 18523 = σ 18523 := hs 18523 (by decide)
  have s18524 : τ 18524 = σ 18524 := hs 18524 (by decide)
  have s18525 : τ 18525 = σ 18525 := hs 18525 (by decide)
  have s18526 : τ 18526 = σ 18526 := hs 18526 (by decide)
  have s18527 : τ 18527 = σ 18527 := hs 18527 (by decide)
  have s18528 : τ 18528 = σ 18528 := hs 18528 (by decide)
  have s18529 : τ 18529 = σ 18529 := hs 18529 (by decide)
  have s18530 : τ 18530 = σ 18530 := hs 18530 (by decide)
  have s18531 : τ 18531 = σ 18531 := hs 18531 (by decide)
  have s18532 : τ 18532 = σ 18532 := hs 18532 (by decide)
  have s18533 : τ 18533 = σ 18533 := hs 18533 (by decide)
  have s18534 : τ 18534 = σ 18534 := hs 18534 (by decide)
  have s18535 : τ 18535 = σ 18535 := hs 18535 (by decide)
  clear ht hb h1 h2
  rw [hx] at hr
  clear hx
  obtain ⟨y, hy, hv⟩ := hr
  cases hy
  replace hv : x.toInt = (-1) + 0 := hv
  have sm : σ' 133 = σ 133 ∧ σ' 134 = σ 134 ∧ σ' 12805 = σ 12805 ∧ σ' 10250 = σ 10250 ∧ σ' 12814 = σ 12814 ∧ σ' 18520 = σ 18520 ∧ σ' 18521 = σ 18521 ∧ σ' 18522 = σ 18522 ∧ σ' 18523 = σ 18523 ∧ σ' 18524 = σ 18524 ∧ σ' 18525 = σ 18525 ∧ σ' 18526 = σ 18526 ∧ σ' 18527 = σ 18527 := ⟨lw_id s133 (hm 133 (by decide)), lw_id s134 (hm 134 (by decide)), lw_id s12805 (hm 12805 (by decide)), lw_id s10250 (hm 10250 (by decide)), lw_id s12814 (hm 12814 (by decide)), lw_id s18520 (hm 18520 (by decide)), lw_id s18521 (hm 18521 (by decide)), lw_id s18522 (hm 18522 (by decide)), lw_id s18523 (hm 18523 (by decide)), lw_id s18524 (hm 18524 (by decide)), lw_id s18525 (hm 18525 (by decide)), lw_id s18526 (hm 18526 (by decide)), lw_id s18527 (hm 18527 (by decide))⟩
  refine ⟨?_, sm⟩
  clear sm
  have f0 : 0 ≤ (-1) + (1 * τ 19001 + 0) := hf _ (List.Mem.head _)
  have f1 : 0 ≤ 1099511627776 + ((-1) * τ 19001 + 0) := hf _ (List.Mem.tail _ (List.Mem.head _))
  refine Or.inl ⟨by omega, ⟨lw_id s12804 (hm 12804 (by decide)), lw_id s18528 (hm 18528 (by decide)), lw_id s18529 (hm 18529 (by decide)), lw_id s18530 (hm 18530 (by decide)), lw_id s18531 (hm 18531 (by decide)), lw_id s18532 (hm 18532 (by decide)), lw_id s18533 (hm 18533 (by decide)), lw_id s18534 (hm 18534 (by decide)), lw_id s18535 (hm 18535 (by decide))⟩, fun hok => ?_⟩
  obtain ⟨o1, o2, o3, o4, o5, o6⟩ := hok
  have m18511 : σ' 18511 = 0 + (1 * τ 19001 + 0) := hm 18511 (by decide)
  have m18513 : σ' 18513 = 0 + 0 := hm 18513 (by decide)
  have h0 := g20.2 (by omega)
  rw [show σ' 18511 = a1 by omega] at h0
  exact h0 o1
theorem lw_pm_92 {as : List rv_A} {σ σ' : Nat → Int} {o : rv_O} {x : Int32} {a1 a2 : Int} {A : Nat → Nat → Int} {τ : Nat → Int} (hx : o.1 = some (.inl x)) (h1 : lw_av as 1 = a1) (h2 : lw_av as 2 = a2) (hb : ∀ s, (sx_sr s).1 ≤ σ s ∧ σ s ≤ (sx_sr s).2) (hG : sx_GG σ' A) (hW : lw_W ([(18509, 1, 1099511627770), (18510, 0, 34359738367)], [((-1), [(19001, 1)]), (293, [(19001, (-1))]), ((-1), [(19002, (-1))])], [(12800, (1, [])), (18509, (0, [(1000000, 1)])), (18510, (0, [(1000001, 1)])), (18511, (0, [(19001, 1)])), (18512, (0, [])), (18513, (1, []))], some (false, ((-1), []))) as σ σ' τ o) : lw_pm_C a1 a2 x.toInt σ σ' := by
  unfold lw_pm_C
  have bM : 0 ≤ σ 12804 ∧ σ 12804 ≤ 8 := by
    have h0 := hb 12804
    rw [show sx_sr 12804 = (0, 8) from by decide +kernel] at h0
    exact h0
  obtain ⟨-, -, -, -, -, -, -, -, -, -, -, -, -, -, -, -, -, -, -, g19, g20, -, g22, -, g24⟩ := hG
  obtain ⟨hs, ht, hf, hr, hm, hw⟩ := hW
  have e1 : τ 19001 = a1 := by rw [ht 19001 (by decide) (by decide)]; exact h1
  have e2 : τ 19002 = a2 := by rw [ht 19002 (by decide) (by decide)]; exact h2
  have s133 : τ 133 = σ 133 := hs 133 (by decide)
  have s134 : τ 134 = σ 134 := hs 134 (by decide)
  have s10250 : τ 10250 = σ 10250 := hs 10250 (by decide)
  have s12804 : τ 12804 = σ 12804 := hs 12804 (by decide)
  have s12805 : τ 12805 = σ 12805 := hs 12805 (by decide)
  have s12814 : τ 12814 = σ 12814 := hs 12814 (by decide)
  have s18520 : τ 18520 = σ 18520 := hs 18520 (by decide)
  have s18521 : τ 18521 = σ 18521 := hs 18521 (by decide)
  have s18522 : τ 18522 = σ 18522 := hs 18522 (by decide)
  have s18523 : τ 18523 = σ 18523 := hs 18523 (by decide)
  have s18524 : τ 18524 = σ 18524 := hs 18524 (by decide)
  have s18525 : τ 18525 = σ 18525 := hs 18525 (by decide)
  have s18526 : τ 18526 = σ 18526 := hs 18526 (by decide)
  have s18527 : τ 18527 = σ 18527 := hs 18527 (by decide)
  have s18528 : τ 18528 = σ 18528 := hs 18528 (by decide)
  have s18529 : τ 18529 = σ 18529 := hs 18529 (by decide)
  have s18530 : τ 18530 = σ 18530 := hs 18530 (by decide)
  have s18531 : τ 18531 = σ 18531 := hs 18531 (by decide)
  have s18532 : τ 18532 = σ 18532 := hs 18532 (by decide)
  have s18533 : τ 18533 = σ 18533 := hs 18533 (by decide)
  have s18534 : τ 18534 = σ 18534 := hs 18534 (by decide)
  have s18535 : τ 18535 = σ 18535 := hs 18535 (by decide)
  clear ht hb h1 h2
  rw [hx] at hr
  clear hx
  obtain ⟨y, hy, hv⟩ := hr
  cases hy
  replace hv : x.toInt = (-1) + 0 := hv
  have sm : σ' 133 = σ 133 ∧ σ' 134 = σ 134 ∧ σ' 12805 = σ 12805 ∧ σ' 10250 = σ 10250 ∧ σ' 12814 = σ 12814 ∧ σ' 18520 = σ 18520 ∧ σ' 18521 = σ 18521 ∧ σ' 18522 = σ 18522 ∧ σ' 18523 = σ 18523 ∧ σ' 18524 = σ 18524 ∧ σ' 18525 = σ 18525 ∧ σ' 18526 = σ 18526 ∧ σ' 18527 = σ 18527 := ⟨lw_id s133 (hm 133 (by decide)), lw_id s134 (hm 134 (by decide)), lw_id s12805 (hm 12805 (by decide)), lw_id s10250 (hm 10250 (by decide)), lw_id s12814 (hm 12814 (by decide)), lw_id s18520 (hm 18520 (by decide)), lw_id s18521 (hm 18521 (by decide)), lw_id s18522 (hm 18522 (by decide)), lw_id s18523 (hm 18523 (by decide)), lw_id s18524 (hm 18524 (by decide)), lw_id s18525 (hm 18525 (by decide)), lw_id s18526 (hm 18526 (by decide)), lw_id s18527 (hm 18527 (by decide))⟩
  refine ⟨?_, sm⟩
  clear sm
  have f0 : 0 ≤ (-1) + (1 * τ 19001 + 0) := hf _ (List.Mem.head _)
  have f1 : 0 ≤ 293 + ((-1) * τ 19001 + 0) := hf _ (List.Mem.tail _ (List.Mem.head _))
  have f2 : 0 ≤ (-1) + ((-1) * τ 19002 + 0) := hf _ (List.Mem.tail _ (List.Mem.tail _ (List.Mem.head _)))
  refine Or.inl ⟨by omega, ⟨lw_id s12804 (hm 12804 (by decide)), lw_id s18528 (hm 18528 (by decide)), lw_id s18529 (hm 18529 (by decide)), lw_id s18530 (hm 18530 (by decide)), lw_id s18531 (hm 18531 (by decide)), lw_id s18532 (hm 18532 (by decide)), lw_id s18533 (hm 18533 (by decide)), lw_id s18534 (hm 18534 (by decide)), lw_id s18535 (hm 18535 (by decide))⟩, fun hok => ?_⟩
  obtain ⟨o1, o2, o3, o4, o5, o6⟩ := hok
  obtain ⟨z0, z1, z2, z3, z4, z5, z6, z7⟩ := o4
  omega
theorem lw_pm_93 {as : List rv_A} {σ σ' : Nat → Int} {o : rv_O} {x : Int32} {a1 a2 : Int} {A : Nat → Nat → Int} {τ : Nat → Int} (hx : o.1 = some (.inl x)) (h1 : lw_av as 1 = a1) (h2 : lw_av as 2 = a2) (hb : ∀ s, (sx_sr s).1 ≤ σ s ∧ σ s ≤ (sx_sr s).2) (hG : sx_GG σ' A) (hW : lw_W ([(18509, 1, 1099511627770), (18510, 0, 34359738367)], [((-1), [(19001, 1)]), (293, [(19001, (-1))]), ((-10), [(19002, 1)])], [(12800, (1, [])), (18509, (0, [(1000000, 1)])), (18510, (0, [(1000001, 1)])), (18511, (0, [(19001, 1)])), (18512, (0, [])), (18513, (1, []))], some (false, ((-1), []))) as σ σ' τ o) : lw_pm_C a1 a2 x.toInt σ σ' := by
  unfold lw_pm_C
  have bM : 0 ≤ σ 12804 ∧ σ 12804 ≤ 8 := by
    have h0 := hb 12804
    rw [show sx_sr 12804 = (0, 8) from by decide +kernel] at h0
    exact h0
  obtain ⟨-, -, -, -, -, -, -, -, -, -, -, -, -, -, -, -, -, -, -, g19, g20, -, g22, -, g24⟩ := hG
  obtain ⟨hs, ht, hf, hr, hm, hw⟩ := hW
  have e1 : τ 19001 = a1 := by rw [ht 19001 (by decide) (by decide)]; exact h1
  have e2 : τ 19002 = a2 := by rw [ht 19002 (by decide) (by decide)]; exact h2
  have s133 : τ 133 = σ 133 := hs 133 (by decide)
  have s134 : τ 134 = σ 134 := hs 134 (by decide)
  have s10250 : τ 10250 = σ 10250 := hs 10250 (by decide)
  have s12804 : τ 12804 = σ 12804 := hs 12804 (by decide)
  have s12805 : τ 12805 = σ 12805 := hs 12805 (by decide)
  have s12814 : τ 12814 = σ 12814 := hs 12814 (by decide)
  have s18520 : τ 18520 = σ 18520 := hs 18520 (by decide)
  have s18521 : τ 18521 = σ 18521 := hs 18521 (by decide)
  have s18522 : τ 18522 = σ 18522 := hs 18522 (by decide)
  have s18523 : τ 18523 = σ 18523 := hs 18523 (by decide)
  have s18524 : τ 18524 = σ 18524 := hs 18524 (by decide)
  have s18525 : τ 18525 = σ 18525 := hs 18525 (by decide)
  have s18526 : τ 18526 = σ 18526 := hs 18526 (by decide)
  have s18527 : τ 18527 = σ 18527 := hs 18527 (by decide)
  have s18528 : τ 18528 = σ 18528 := hs 18528 (by decide)
  have s18529 : τ 18529 = σ 18529 := hs 18529 (by decide)
  have s18530 : τ 18530 = σ 18530 := hs 18530 (by decide)
  have s18531 : τ 18531 = σ 18531 := hs 18531 (by decide)
  have s18532 : τ 18532 = σ 18532 := hs 18532 (by decide)
  have s18533 : τ 18533 = σ 18533 := hs 18533 (by decide)
  have s18534 : τ 18534 = σ 18534 := hs 18534 (by decide)
  have s18535 : τ 18535 = σ 18535 := hs 18535 (by decide)
  clear ht hb h1 h2
  rw [hx] at hr
  clear hx
  obtain ⟨y, hy, hv⟩ := hr
  cases hy
  replace hv : x.toInt = (-1) + 0 := hv
  have sm : σ' 133 = σ 133 ∧ σ' 134 = σ 134 ∧ σ' 12805 = σ 12805 ∧ σ' 10250 = σ 10250 ∧ σ' 12814 = σ 12814 ∧ σ' 18520 = σ 18520 ∧ σ' 18521 = σ 18521 ∧ σ' 18522 = σ 18522 ∧ σ' 18523 = σ 18523 ∧ σ' 18524 = σ 18524 ∧ σ' 18525 = σ 18525 ∧ σ' 18526 = σ 18526 ∧ σ' 18527 = σ 18527 := ⟨lw_id s133 (hm 133 (by decide)), lw_id s134 (hm 134 (by decide)), lw_id s12805 (hm 12805 (by decide)), lw_id s10250 (hm 10250 (by decide)), lw_id s12814 (hm 12814 (by decide)), lw_id s18520 (hm 18520 (by decide)), lw_id s18521 (hm 18521 (by decide)), lw_id s18522 (hm 18522 (by decide)), lw_id s18523 (hm 18523 (by decide)), lw_id s18524 (hm 18524 (by decide)), lw_id s18525 (hm 18525 (by decide)), lw_id s18526 (hm 18526 (by decide)), lw_id s18527 (hm 18527 (by decide))⟩
  refine ⟨?_, sm⟩
  clear sm
  have f0 : 0 ≤ (-1) + (1 * τ 19001 + 0) := hf _ (List.Mem.head _)
  have f1 : 0 ≤ 293 + ((-1) * τ 19001 + 0) := hf _ (List.Mem.tail _ (List.Mem.head _))
  have f2 : 0 ≤ (-10) + (1 * τ 19002 + 0) := hf _ (List.Mem.tail _ (List.Mem.tail _ (List.Mem.head _)))
  refine Or.inl ⟨by omega, ⟨lw_id s12804 (hm 12804 (by decide)), lw_id s18528 (hm 18528 (by decide)), lw_id s18529 (hm 18529 (by decide)), lw_id s18530 (hm 18530 (by decide)), lw_id s18531 (hm 18531 (by decide)), lw_id s18532 (hm 18532 (by decide)), lw_id s18533 (hm 18533 (by decide)), lw_id s18534 (hm 18534 (by decide)), lw_id s18535 (hm 18535 (by decide))⟩, fun hok => ?_⟩
  obtain ⟨o1, o2, o3, o4, o5, o6⟩ := hok
  obtain ⟨z0, z1, z2, z3, z4, z5, z6, z7⟩ := o4
  omega
theorem lw_pm_94 {as : List rv_A} {σ σ' : Nat → Int} {o : rv_O} {x : Int32} {a1 a2 : Int} {A : Nat → Nat → Int} {τ : Nat → Int} (hx : o.1 = some (.inl x)) (h1 : lw_av as 1 = a1) (h2 : lw_av as 2 = a2) (hb : ∀ s, (sx_sr s).1 ≤ σ s ∧ σ s ≤ (sx_sr s).2) (hG : sx_GG σ' A) (hW : lw_W ([], [((-1099511627776), [(19001, 1)])], [(12800, (1, []))], some (false, ((-1), []))) as σ σ' τ o) : lw_pm_C a1 a2 x.toInt σ σ' := by
  unfold lw_pm_C
  have bM : 0 ≤ σ 12804 ∧ σ 12804 ≤ 8 := by
    have h0 := hb 12804
    rw [show sx_sr 12804 = (0, 8) from by decide +kernel] at h0
    exact h0
  obtain ⟨-, -, -, -, -, -, -, -, -, -, -, -, -, -, -, -, -, -, -, g19, g20, -, g22, -, g24⟩ := hG
  obtain ⟨hs, ht, hf, hr, hm, hw⟩ := hW
  have e1 : τ 19001 = a1 := by rw [ht 19001 (by decide) (by decide)]; exact h1
  have e2 : τ 19002 = a2 := by rw [ht 19002 (by decide) (by decide)]; exact h2
  have s133 : τ 133 = σ 133 := hs 133 (by decide)
  have s134 : τ 134 = σ 134 := hs 134 (by decide)
  have s10250 : τ 10250 = σ 10250 := hs 10250 (by decide)
  have s12804 : τ 12804 = σ 12804 := hs 12804 (by decide)
  have s12805 : τ 12805 = σ 12805 := hs 12805 (by decide)
  have s12814 : τ 12814 = σ 12814 := hs 12814 (by decide)
  have s18520 : τ 18520 = σ 18520 := hs 18520 (by decide)
  have s18521 : τ 18521 = σ 18521 := hs 18521 (by decide)
  have s18522 : τ 18522 = σ 18522 := hs 18522 (by decide)
  have s18523 : τ 18523 = σ 18523 := hs 18523 (by decide)
  have s18524 : τ 18524 = σ 18524 := hs 18524 (by decide)
  have s18525 : τ 18525 = σ 18525 := hs 18525 (by decide)
  have s18526 : τ 18526 = σ 18526 := hs 18526 (by decide)
  have s18527 : τ 18527 = σ 18527 := hs 18527 (by decide)
  have s18528 : τ 18528 = σ 18528 := hs 18528 (by decide)
  have s18529 : τ 18529 = σ 18529 := hs 18529 (by decide)
  have s18530 : τ 18530 = σ 18530 := hs 18530 (by decide)
  have s18531 : τ 18531 = σ 18531 := hs 18531 (by decide)
  have s18532 : τ 18532 = σ 18532 := hs 18532 (by decide)
  have s18533 : τ 18533 = σ 18533 := hs 18533 (by decide)
  have s18534 : τ 18534 = σ 18534 := hs 18534 (by decide)
  have s18535 : τ 18535 = σ 18535 := hs 18535 (by decide)
  clear ht hb h1 h2
  rw [hx] at hr
  clear hx
  obtain ⟨y, hy, hv⟩ := hr
  cases hy
  replace hv : x.toInt = (-1) + 0 := hv
  have sm : σ' 133 = σ 133 ∧ σ' 134 = σ 134 ∧ σ' 12805 = σ 12805 ∧ σ' 10250 = σ 10250 ∧ σ' 12814 = σ 12814 ∧ σ' 18520 = σ 18520 ∧ σ' 18521 = σ 18521 ∧ σ' 18522 = σ 18522 ∧ σ' 18523 = σ 18523 ∧ σ' 18524 = σ 18524 ∧ σ' 18525 = σ 18525 ∧ σ' 18526 = σ 18526 ∧ σ' 18527 = σ 18527 := ⟨lw_id s133 (hm 133 (by decide)), lw_id s134 (hm 134 (by decide)), lw_id s12805 (hm 12805 (by decide)), lw_id s10250 (hm 10250 (by decide)), lw_id s12814 (hm 12814 (by decide)), lw_id s18520 (hm 18520 (by decide)), lw_id s18521 (hm 18521 (by decide)), lw_id s18522 (hm 18522 (by decide)), lw_id s18523 (hm 18523 (by decide)), lw_id s18524 (hm 18524 (by decide)), lw_id s18525 (hm 18525 (by decide)), lw_id s18526 (hm 18526 (by decide)), lw_id s18527 (hm 18527 (by decide))⟩
  refine ⟨?_, sm⟩
  clear sm
  have f0 : 0 ≤ (-1099511627776) + (1 * τ 19001 + 0) := hf _ (List.Mem.head _)
  refine Or.inl ⟨by omega, ⟨lw_id s12804 (hm 12804 (by decide)), lw_id s18528 (hm 18528 (by decide)), lw_id s18529 (hm 18529 (by decide)), lw_id s18530 (hm 18530 (by decide)), lw_id s18531 (hm 18531 (by decide)), lw_id s18532 (hm 18532 (by decide)), lw_id s18533 (hm 18533 (by decide)), lw_id s18534 (hm 18534 (by decide)), lw_id s18535 (hm 18535 (by decide))⟩, fun hok => ?_⟩
  obtain ⟨o1, o2, o3, o4, o5, o6⟩ := hok
  obtain ⟨z0, z1, z2, z3, z4, z5, z6, z7⟩ := o4
  omega
