set_option maxHeartbeats 8000000 in
theorem lw_mustm {as : List rv_A} {σ σ' : Nat → Int} {o : rv_O} {x : Int32} {a1 a2 : Int} (hx : o.1 = some (.inl x)) (h1 : lw_av as 1 = a1) (h2 : lw_av as 2 = a2) (hb : ∀ s, (sx_sr s).1 ≤ σ s ∧ σ s ≤ (sx_sr s).2) (h : lw_Qc sx_c313 as σ σ' o) : ((x.toInt = 1 ∧ (0 ≤ a1 ∧ a1 < σ 12804 ∧ 0 ≤ a2 ∧ a2 < σ 12804 ∧ a1 ≠ a2 ∧ σ 12805 ≤ 11) ∧ σ' 12805 = σ 12805 + 1) ∨ (x.toInt = 0 ∧ ¬ (0 ≤ a1 ∧ a1 < σ 12804 ∧ 0 ≤ a2 ∧ a2 < σ 12804 ∧ a1 ≠ a2 ∧ σ 12805 ≤ 11) ∧ σ' 12805 = σ 12805)) ∧ σ' 133 = σ 133 ∧ σ' 12804 = σ 12804 ∧ σ' 134 = σ 134 ∧ σ' 10250 = σ 10250 ∧ σ' 12814 = σ 12814 ∧ σ' 18520 = σ 18520 ∧ σ' 18528 = σ 18528 ∧ σ' 18521 = σ 18521 ∧ σ' 18529 = σ 18529 ∧ σ' 18522 = σ 18522 ∧ σ' 18530 = σ 18530 ∧ σ' 18523 = σ 18523 ∧ σ' 18531 = σ 18531 ∧ σ' 18524 = σ 18524 ∧ σ' 18532 = σ 18532 ∧ σ' 18525 = σ 18525 ∧ σ' 18533 = σ 18533 ∧ σ' 18526 = σ 18526 ∧ σ' 18534 = σ 18534 ∧ σ' 18527 = σ 18527 ∧ σ' 18535 = σ 18535 := by
  have b12804 : 0 ≤ σ 12804 ∧ σ 12804 ≤ 8 := by
    have h0 := hb 12804
    rw [show sx_sr 12804 = (0, 8) from by decide +kernel] at h0
    exact h0
  have b12805 : 0 ≤ σ 12805 ∧ σ 12805 ≤ 12 := by
    have h0 := hb 12805
    rw [show sx_sr 12805 = (0, 12) from by decide +kernel] at h0
    exact h0
  have b12814 : 0 ≤ σ 12814 ∧ σ 12814 ≤ 300 := by
    have h0 := hb 12814
    rw [show sx_sr 12814 = (0, 300) from by decide +kernel] at h0
    exact h0
  obtain ⟨g, hg, τ, hs, ht, hf, hr, hm, hw⟩ := h
  have e1 : τ 19001 = a1 := by rw [ht 19001 (by decide) (by decide)]; exact h1
  have e2 : τ 19002 = a2 := by rw [ht 19002 (by decide) (by decide)]; exact h2
  have s133 : τ 133 = σ 133 := hs 133 (by decide)
  have s134 : τ 134 = σ 134 := hs 134 (by decide)
  have s10250 : τ 10250 = σ 10250 := hs 10250 (by decide)
  have s12804 : τ 12804 = σ 12804 := hs 12804 (by decide)
  have s12805 : τ 12805 = σ 12805 := hs 12805 (by decide)
  have s12814 : τ 12814 = σ 12814 := hs 12814 (by decide)
  have s18520 : τ 18520 = σ 18520 := hs 18520 (by decide)
  have s18521 : τ 18521 = σ 18521 := hs 18521 (by decide)
  have s18522 : τ 18522 = σ 18522 := hs 18522 (by decide)
  have s18523 : τ 18523 = σ 18523 := hs 18523 (by decide)
  have s18524 : τ 18524 = σ 18524 := hs 18524 (by decide)
  have s18525 : τ 18525 = σ 18525 := hs 18525 (by decide)
  have s18526 : τ 18526 = σ 18526 := hs 18526 (by decide)
  have s18527 : τ 18527 = σ 18527 := hs 18527 (by decide)
  have s18528 : τ 18528 = σ 18528 := hs 18528 (by decide)
  have s18529 : τ 18529 = σ 18529 := hs 18529 (by decide)
  have s18530 : τ 18530 = σ 18530 := hs 18530 (by decide)
  have s18531 : τ 18531 = σ 18531 := hs 18531 (by decide)
  have s18532 : τ 18532 = σ 18532 := hs 18532 (by decide)
  have s18533 : τ 18533 = σ 18533 := hs 18533 (by decide)
  have s18534 : τ 18534 = σ 18534 := hs 18534 (by decide)
  have s18535 : τ 18535 = σ 18535 := hs 18535 (by decide)
  clear hb ht
  rw [hx] at hr
  simp only [sx_c313, List.mem_cons, List.not_mem_nil, or_false] at hg
  rcases hg with rfl | rfl | rfl | rfl | rfl | rfl | rfl | rfl | rfl
  · obtain ⟨y, hy, hv⟩ := hr
    cases hy
    replace hv : x.toInt = 0 + 0 := hv
    have f0 : 0 ≤ (-1) + (1 * τ 12804 + 0) := hf _ (List.Mem.head _)
    have f1 : 0 ≤ (-12) + (1 * τ 12805 + 0) := hf _ (List.Mem.tail _ (List.Mem.head _))
    have f2 : 0 ≤ 0 + (1 * τ 19001 + 0) := hf _ (List.Mem.tail _ (List.Mem.tail _ (List.Mem.head _)))
    have f3 : 0 ≤ 6 + ((-1) * τ 19001 + 0) := hf _ (List.Mem.tail _ (List.Mem.tail _ (List.Mem.tail _ (List.Mem.head _))))
    have f4 : 0 ≤ (-1) + (1 * τ 19002 + 0) := hf _ (List.Mem.tail _ (List.Mem.tail _ (List.Mem.tail _ (List.Mem.tail _ (List.Mem.head _)))))
    have f5 : 0 ≤ 7 + ((-1) * τ 19002 + 0) := hf _ (List.Mem.tail _ (List.Mem.tail _ (List.Mem.tail _ (List.Mem.tail _ (List.Mem.tail _ (List.Mem.head _))))))
    have f6 : 0 ≤ (-1) + ((-1) * τ 19001 + (1 * τ 19002 + 0)) := hf _ (List.Mem.tail _ (List.Mem.tail _ (List.Mem.tail _ (List.Mem.tail _ (List.Mem.tail _ (List.Mem.tail _ (List.Mem.head _)))))))
    have f7 : 0 ≤ (-1) + (1 * τ 12804 + ((-1) * τ 19002 + 0)) := hf _ (List.Mem.tail _ (List.Mem.tail _ (List.Mem.tail _ (List.Mem.tail _ (List.Mem.tail _ (List.Mem.tail _ (List.Mem.tail _ (List.Mem.head _))))))))
    have f8 : 0 ≤ (-1) + (1 * τ 12804 + ((-1) * τ 19001 + 0)) := hf _ (List.Mem.tail _ (List.Mem.tail _ (List.Mem.tail _ (List.Mem.tail _ (List.Mem.tail _ (List.Mem.tail _ (List.Mem.tail _ (List.Mem.tail _ (List.Mem.head _)))))))))
    have m12805 : σ' 12805 = 0 + (1 * τ 12805 + 0) := hm 12805 (by decide)
    refine ⟨?_, lw_id s133 (hm 133 (by decide)), lw_id s12804 (hm 12804 (by decide)), lw_id s134 (hm 134 (by decide)), lw_id s10250 (hm 10250 (by decide)), lw_id s12814 (hm 12814 (by decide)), lw_id s18520 (hm 18520 (by decide)), lw_id s18528 (hm 18528 (by decide)), lw_id s18521 (hm 18521 (by decide)), lw_id s18529 (hm 18529 (by decide)), lw_id s18522 (hm 18522 (by decide)), lw_id s18530 (hm 18530 (by decide)), lw_id s18523 (hm 18523 (by decide)), lw_id s18531 (hm 18531 (by decide)), lw_id s18524 (hm 18524 (by decide)), lw_id s18532 (hm 18532 (by decide)), lw_id s18525 (hm 18525 (by decide)), lw_id s18533 (hm 18533 (by decide)), lw_id s18526 (hm 18526 (by decide)), lw_id s18534 (hm 18534 (by decide)), lw_id s18527 (hm 18527 (by decide)), lw_id s18535 (hm 18535 (by decide))⟩
    clear hf hm hs
    exact Or.inr ⟨by omega, fun h => (by omega), by omega⟩
  · obtain ⟨y, hy, hv⟩ := hr
    cases hy
    replace hv : x.toInt = 0 + 0 := hv
    have f0 : 0 ≤ (-1) + (1 * τ 12804 + 0) := hf _ (List.Mem.head _)
    have f1 : 0 ≤ (-12) + (1 * τ 12805 + 0) := hf _ (List.Mem.tail _ (List.Mem.head _))
    have f2 : 0 ≤ (-1) + (1 * τ 19001 + 0) := hf _ (List.Mem.tail _ (List.Mem.tail _ (List.Mem.head _)))
    have f3 : 0 ≤ 7 + ((-1) * τ 19001 + 0) := hf _ (List.Mem.tail _ (List.Mem.tail _ (List.Mem.tail _ (List.Mem.head _))))
    have f4 : 0 ≤ 0 + (1 * τ 19002 + 0) := hf _ (List.Mem.tail _ (List.Mem.tail _ (List.Mem.tail _ (List.Mem.tail _ (List.Mem.head _)))))
    have f5 : 0 ≤ 6 + ((-1) * τ 19002 + 0) := hf _ (List.Mem.tail _ (List.Mem.tail _ (List.Mem.tail _ (List.Mem.tail _ (List.Mem.tail _ (List.Mem.head _))))))
    have f6 : 0 ≤ (-1) + (1 * τ 19001 + ((-1) * τ 19002 + 0)) := hf _ (List.Mem.tail _ (List.Mem.tail _ (List.Mem.tail _ (List.Mem.tail _ (List.Mem.tail _ (List.Mem.tail _ (List.Mem.head _)))))))
    have f7 : 0 ≤ (-1) + (1 * τ 12804 + ((-1) * τ 19002 + 0)) := hf _ (List.Mem.tail _ (List.Mem.tail _ (List.Mem.tail _ (List.Mem.tail _ (List.Mem.tail _ (List.Mem.tail _ (List.Mem.tail _ (List.Mem.head _))))))))
    have f8 : 0 ≤ (-1) + (1 * τ 12804 + ((-1) * τ 19001 + 0)) := hf _ (List.Mem.tail _ (List.Mem.tail _ (List.Mem.tail _ (List.Mem.tail _ (List.Mem.tail _ (List.Mem.tail _ (List.Mem.tail _ (List.Mem.tail _ (List.Mem.head _)))))))))
    have m12805 : σ' 12805 = 0 + (1 * τ 12805 + 0) := hm 12805 (by decide)
    refine ⟨?_, lw_id s133 (hm 133 (by decide)), lw_id s12804 (hm 12804 (by decide)), lw_id s134 (hm 134 (by decide)), lw_id s10250 (hm 10250 (by decide)), lw_id s12814 (hm 12814 (by decide)), lw_id s18520 (hm 18520 (by decide)), lw_id s18528 (hm 18528 (by decide)), lw_id s18521 (hm 18521 (by decide)), lw_id s18529 (hm 18529 (by decide)), lw_id s18522 (hm 18522 (by decide)), lw_id s18530 (hm 18530 (by decide)), lw_id s18523 (hm 18523 (by decide)), lw_id s18531 (hm 18531 (by decide)), lw_id s18524 (hm 18524 (by decide)), lw_id s18532 (hm 18532 (by decide)), lw_id s18525 (hm 18525 (by decide)), lw_id s18533 (hm 18533 (by decide)), lw_id s18526 (hm 18526 (by decide)), lw_id s18534 (hm 18534 (by decide)), lw_id s18527 (hm 18527 (by decide)), lw_id s18535 (hm 18535 (by decide))⟩
    clear hf hm hs
    exact Or.inr ⟨by omega, fun h => (by omega), by omega⟩
  · obtain ⟨y, hy, hv⟩ := hr
    cases hy
    replace hv : x.toInt = 0 + 0 := hv
    have f0 : 0 ≤ (-1) + (1 * τ 12804 + 0) := hf _ (List.Mem.head _)
    have f1 : 0 ≤ 0 + (1 * τ 19001 + 0) := hf _ (List.Mem.tail _ (List.Mem.head _))
    have f2 : 0 ≤ 7 + ((-1) * τ 19001 + 0) := hf _ (List.Mem.tail _ (List.Mem.tail _ (List.Mem.head _)))
    have f3 : 0 ≤ (-1) + ((-1) * τ 19002 + 0) := hf _ (List.Mem.tail _ (List.Mem.tail _ (List.Mem.tail _ (List.Mem.head _))))
    have f4 : 0 ≤ (-1) + (1 * τ 12804 + ((-1) * τ 19001 + 0)) := hf _ (List.Mem.tail _ (List.Mem.tail _ (List.Mem.tail _ (List.Mem.tail _ (List.Mem.head _)))))
    have m12805 : σ' 12805 = 0 + (1 * τ 12805 + 0) := hm 12805 (by decide)
    refine ⟨?_, lw_id s133 (hm 133 (by decide)), lw_id s12804 (hm 12804 (by decide)), lw_id s134 (hm 134 (by decide)), lw_id s10250 (hm 10250 (by decide)), lw_id s12814 (hm 12814 (by decide)), lw_id s18520 (hm 18520 (by decide)), lw_id s18528 (hm 18528 (by decide)), lw_id s18521 (hm 18521 (by decide)), lw_id s18529 (hm 18529 (by decide)), lw_id s18522 (hm 18522 (by decide)), lw_id s18530 (hm 18530 (by decide)), lw_id s18523 (hm 18523 (by decide)), lw_id s18531 (hm 18531 (by decide)), lw_id s18524 (hm 18524 (by decide)), lw_id s18532 (hm 18532 (by decide)), lw_id s18525 (hm 18525 (by decide)), lw_id s18533 (hm 18533 (by decide)), lw_id s18526 (hm 18526 (by decide)), lw_id s18534 (hm 18534 (by decide)), lw_id s18527 (hm 18527 (by decide)), lw_id s18535 (hm 18535 (by decide))⟩
    clear hf hm hs
    exact Or.inr ⟨by omega, fun h => (by omega), by omega⟩
  · obtain ⟨y, hy, hv⟩ := hr
    cases hy
    replace hv : x.toInt = 0 + 0 := hv
    have f0 : 0 ≤ (-1) + (1 * τ 12804 + 0) := hf _ (List.Mem.head _)
    have f1 : 0 ≤ 0 + (1 * τ 19001 + 0) := hf _ (List.Mem.tail _ (List.Mem.head _))
    have f2 : 0 ≤ 7 + ((-1) * τ 19001 + 0) := hf _ (List.Mem.tail _ (List.Mem.tail _ (List.Mem.head _)))
    have f3 : 0 ≤ 0 + (1 * τ 19002 + 0) := hf _ (List.Mem.tail _ (List.Mem.tail _ (List.Mem.tail _ (List.Mem.head _))))
    have f4 : 0 ≤ 7 + ((-1) * τ 19002 + 0) := hf _ (List.Mem.tail _ (List.Mem.tail _ (List.Mem.tail _ (List.Mem.tail _ (List.Mem.head _)))))
    have f5 : 0 ≤ 0 + ((-1) * τ 19001 + (1 * τ 19002 + 0)) := hf _ (List.Mem.tail _ (List.Mem.tail _ (List.Mem.tail _ (List.Mem.tail _ (List.Mem.tail _ (List.Mem.head _))))))
    have f6 : 0 ≤ 0 + (1 * τ 19001 + ((-1) * τ 19002 + 0)) := hf _ (List.Mem.tail _ (List.Mem.tail _ (List.Mem.tail _ (List.Mem.tail _ (List.Mem.tail _ (List.Mem.tail _ (List.Mem.head _)))))))
    have f7 : 0 ≤ (-1) + (1 * τ 12804 + ((-1) * τ 19002 + 0)) := hf _ (List.Mem.tail _ (List.Mem.tail _ (List.Mem.tail _ (List.Mem.tail _ (List.Mem.tail _ (List.Mem.tail _ (List.Mem.tail _ (List.Mem.head _))))))))
    have f8 : 0 ≤ (-1) + (1 * τ 12804 + ((-1) * τ 19001 + 0)) := hf _ (List.Mem.tail _ (List.Mem.tail _ (List.Mem.tail _ (List.Mem.tail _ (List.Mem.tail _ (List.Mem.tail _ (List.Mem.tail _ (List.Mem.tail _ (List.Mem.head _)))))))))
    have m12805 : σ' 12805 = 0 + (1 * τ 12805 + 0) := hm 12805 (by decide)
    refine ⟨?_, lw_id s133 (hm 133 (by decide)), lw_id s12804 (hm 12804 (by decide)), lw_id s134 (hm 134 (by decide)), lw_id s10250 (hm 10250 (by decide)), lw_id s12814 (hm 12814 (by decide)), lw_id s18520 (hm 18520 (by decide)), lw_id s18528 (hm 18528 (by decide)), lw_id s18521 (hm 18521 (by decide)), lw_id s18529 (hm 18529 (by decide)), lw_id s18522 (hm 18522 (by decide)), lw_id s18530 (hm 18530 (by decide)), lw_id s18523 (hm 18523 (by decide)), lw_id s18531 (hm 18531 (by decide)), lw_id s18524 (hm 18524 (by decide)), lw_id s18532 (hm 18532 (by decide)), lw_id s18525 (hm 18525 (by decide)), lw_id s18533 (hm 18533 (by decide)), lw_id s18526 (hm 18526 (by decide)), lw_id s18534 (hm 18534 (by decide)), lw_id s18527 (hm 18527 (by decide)), lw_id s18535 (hm 18535 (by decide))⟩
    clear hf hm hs
    exact Or.inr ⟨by omega, fun h => (by omega), by omega⟩
  · obtain ⟨y, hy, hv⟩ := hr
    cases hy
    replace hv : x.toInt = 0 + 0 := hv
    have f0 : 0 ≤ (-1) + (1 * τ 12804 + 0) := hf _ (List.Mem.head _)
    have f1 : 0 ≤ 0 + (1 * τ 19001 + 0) := hf _ (List.Mem.tail _ (List.Mem.head _))
    have f2 : 0 ≤ 7 + ((-1) * τ 19001 + 0) := hf _ (List.Mem.tail _ (List.Mem.tail _ (List.Mem.head _)))
    have f3 : 0 ≤ (-1) + (1 * τ 19002 + 0) := hf _ (List.Mem.tail _ (List.Mem.tail _ (List.Mem.tail _ (List.Mem.head _))))
    have f4 : 0 ≤ 0 + ((-1) * τ 12804 + (1 * τ 19002 + 0)) := hf _ (List.Mem.tail _ (List.Mem.tail _ (List.Mem.tail _ (List.Mem.tail _ (List.Mem.head _)))))
    have f5 : 0 ≤ (-1) + (1 * τ 12804 + ((-1) * τ 19001 + 0)) := hf _ (List.Mem.tail _ (List.Mem.tail _ (List.Mem.tail _ (List.Mem.tail _ (List.Mem.tail _ (List.Mem.head _))))))
    have m12805 : σ' 12805 = 0 + (1 * τ 12805 + 0) := hm 12805 (by decide)
    refine ⟨?_, lw_id s133 (hm 133 (by decide)), lw_id s12804 (hm 12804 (by decide)), lw_id s134 (hm 134 (by decide)), lw_id s10250 (hm 10250 (by decide)), lw_id s12814 (hm 12814 (by decide)), lw_id s18520 (hm 18520 (by decide)), lw_id s18528 (hm 18528 (by decide)), lw_id s18521 (hm 18521 (by decide)), lw_id s18529 (hm 18529 (by decide)), lw_id s18522 (hm 18522 (by decide)), lw_id s18530 (hm 18530 (by decide)), lw_id s18523 (hm 18523 (by decide)), lw_id s18531 (hm 18531 (by decide)), lw_id s18524 (hm 18524 (by decide)), lw_id s18532 (hm 18532 (by decide)), lw_id s18525 (hm 18525 (by decide)), lw_id s18533 (hm 18533 (by decide)), lw_id s18526 (hm 18526 (by decide)), lw_id s18534 (hm 18534 (by decide)), lw_id s18527 (hm 18527 (by decide)), lw_id s18535 (hm 18535 (by decide))⟩
    clear hf hm hs
    exact Or.inr ⟨by omega, fun h => (by omega), by omega⟩
  · obtain ⟨y, hy, hv⟩ := hr
    cases hy
    replace hv : x.toInt = 0 + 0 := hv
    have f0 : 0 ≤ (-1) + ((-1) * τ 19001 + 0) := hf _ (List.Mem.head _)
    have m12805 : σ' 12805 = 0 + (1 * τ 12805 + 0) := hm 12805 (by decide)
    refine ⟨?_, lw_id s133 (hm 133 (by decide)), lw_id s12804 (hm 12804 (by decide)), lw_id s134 (hm 134 (by decide)), lw_id s10250 (hm 10250 (by decide)), lw_id s12814 (hm 12814 (by decide)), lw_id s18520 (hm 18520 (by decide)), lw_id s18528 (hm 18528 (by decide)), lw_id s18521 (hm 18521 (by decide)), lw_id s18529 (hm 18529 (by decide)), lw_id s18522 (hm 18522 (by decide)), lw_id s18530 (hm 18530 (by decide)), lw_id s18523 (hm 18523 (by decide)), lw_id s18531 (hm 18531 (by decide)), lw_id s18524 (hm 18524 (by decide)), lw_id s18532 (hm 18532 (by decide)), lw_id s18525 (hm 18525 (by decide)), lw_id s18533 (hm 18533 (by decide)), lw_id s18526 (hm 18526 (by decide)), lw_id s18534 (hm 18534 (by decide)), lw_id s18527 (hm 18527 (by decide)), lw_id s18535 (hm 18535 (by decide))⟩
    clear hf hm hs
    exact Or.inr ⟨by omega, fun h => (by omega), by omega⟩
  · obtain ⟨y, hy, hv⟩ := hr
    cases hy
    replace hv : x.toInt = 0 + 0 := hv
    have f0 : 0 ≤ 0 + (1 * τ 19001 + 0) := hf _ (List.Mem.head _)
    have f1 : 0 ≤ 0 + ((-1) * τ 12804 + (1 * τ 19001 + 0)) := hf _ (List.Mem.tail _ (List.Mem.head _))
    have m12805 : σ' 12805 = 0 + (1 * τ 12805 + 0) := hm 12805 (by decide)
    refine ⟨?_, lw_id s133 (hm 133 (by decide)), lw_id s12804 (hm 12804 (by decide)), lw_id s134 (hm 134 (by decide)), lw_id s10250 (hm 10250 (by decide)), lw_id s12814 (hm 12814 (by decide)), lw_id s18520 (hm 18520 (by decide)), lw_id s18528 (hm 18528 (by decide)), lw_id s18521 (hm 18521 (by decide)), lw_id s18529 (hm 18529 (by decide)), lw_id s18522 (hm 18522 (by decide)), lw_id s18530 (hm 18530 (by decide)), lw_id s18523 (hm 18523 (by decide)), lw_id s18531 (hm 18531 (by decide)), lw_id s18524 (hm 18524 (by decide)), lw_id s18532 (hm 18532 (by decide)), lw_id s18525 (hm 18525 (by decide)), lw_id s18533 (hm 18533 (by decide)), lw_id s18526 (hm 18526 (by decide)), lw_id s18534 (hm 18534 (by decide)), lw_id s18527 (hm 18527 (by decide)), lw_id s18535 (hm 18535 (by decide))⟩
    clear hf hm hs
    exact Or.inr ⟨by omega, fun h => (by omega), by omega⟩
  · obtain ⟨y, hy, hv⟩ := hr
    cases hy
    replace hv : x.toInt = 1 + 0 := hv
    have f0 : 0 ≤ (-1) + (1 * τ 12804 + 0) := hf _ (List.Mem.head _)
    have f1 : 0 ≤ 11 + ((-1) * τ 12805 + 0) := hf _ (List.Mem.tail _ (List.Mem.head _))
    have f2 : 0 ≤ 0 + (1 * τ 19001 + 0) := hf _ (List.Mem.tail _ (List.Mem.tail _ (List.Mem.head _)))
    have f3 : 0 ≤ 6 + ((-1) * τ 19001 + 0) := hf _ (List.Mem.tail _ (List.Mem.tail _ (List.Mem.tail _ (List.Mem.head _))))
    have f4 : 0 ≤ (-1) + (1 * τ 19002 + 0) := hf _ (List.Mem.tail _ (List.Mem.tail _ (List.Mem.tail _ (List.Mem.tail _ (List.Mem.head _)))))
    have f5 : 0 ≤ 7 + ((-1) * τ 19002 + 0) := hf _ (List.Mem.tail _ (List.Mem.tail _ (List.Mem.tail _ (List.Mem.tail _ (List.Mem.tail _ (List.Mem.head _))))))
    have f6 : 0 ≤ (-1) + ((-1) * τ 19001 + (1 * τ 19002 + 0)) := hf _ (List.Mem.tail _ (List.Mem.tail _ (List.Mem.tail _ (List.Mem.tail _ (List.Mem.tail _ (List.Mem.tail _ (List.Mem.head _)))))))
    have f7 : 0 ≤ (-1) + (1 * τ 12804 + ((-1) * τ 19002 + 0)) := hf _ (List.Mem.tail _ (List.Mem.tail _ (List.Mem.tail _ (List.Mem.tail _ (List.Mem.tail _ (List.Mem.tail _ (List.Mem.tail _ (List.Mem.head _))))))))
    have f8 : 0 ≤ (-1) + (1 * τ 12804 + ((-1) * τ 19001 + 0)) := hf _ (List.Mem.tail _ (List.Mem.tail _ (List.Mem.tail _ (List.Mem.tail _ (List.Mem.tail _ (List.Mem.tail _ (List.Mem.tail _ (List.Mem.tail _ (List.Mem.head _)))))))))
    have m12805 : σ' 12805 = 1 + (1 * τ 12805 + 0) := hm 12805 (by decide)
    refine ⟨?_, lw_id s133 (hm 133 (by decide)), lw_id s12804 (hm 12804 (by decide)), lw_id s134 (hm 134 (by decide)), lw_id s10250 (hm 10250 (by decide)), lw_id s12814 (hm 12814 (by decide)), lw_id s18520 (hm 18520 (by decide)), lw_id s18528 (hm 18528 (by decide)), lw_id s18521 (hm 18521 (by decide)), lw_id s18529 (hm 18529 (by decide)), lw_id s18522 (hm 18522 (by decide)), lw_id s18530 (hm 18530 (by decide)), lw_id s18523 (hm 18523 (by decide)), lw_id s18531 (hm 18531 (by decide)), lw_id s18524 (hm 18524 (by decide)), lw_id s18532 (hm 18532 (by decide)), lw_id s18525 (hm 18525 (by decide)), lw_id s18533 (hm 18533 (by decide)), lw_id s18526 (hm 18526 (by decide)), lw_id s18534 (hm 18534 (by decide)), lw_id s18527 (hm 18527 (by decide)), lw_id s18535 (hm 18535 (by decide))⟩
    clear hf hm hs
    exact Or.inl ⟨by omega, ⟨by omega, by omega, by omega, by omega, by omega, by omega⟩, by omega⟩
  · obtain ⟨y, hy, hv⟩ := hr
    cases hy
    replace hv : x.toInt = 1 + 0 := hv
    have f0 : 0 ≤ (-1) + (1 * τ 12804 + 0) := hf _ (List.Mem.head _)
    have f1 : 0 ≤ 11 + ((-1) * τ 12805 + 0) := hf _ (List.Mem.tail _ (List.Mem.head _))
    have f2 : 0 ≤ (-1) + (1 * τ 19001 + 0) := hf _ (List.Mem.tail _ (List.Mem.tail _ (List.Mem.head _)))
    have f3 : 0 ≤ 7 + ((-1) * τ 19001 + 0) := hf _ (List.Mem.tail _ (List.Mem.tail _ (List.Mem.tail _ (List.Mem.head _))))
    have f4 : 0 ≤ 0 + (1 * τ 19002 + 0) := hf _ (List.Mem.tail _ (List.Mem.tail _ (List.Mem.tail _ (List.Mem.tail _ (List.Mem.head _)))))
    have f5 : 0 ≤ 6 + ((-1) * τ 19002 + 0) := hf _ (List.Mem.tail _ (List.Mem.tail _ (List.Mem.tail _ (List.Mem.tail _ (List.Mem.tail _ (List.Mem.head _))))))
    have f6 : 0 ≤ (-1) + (1 * τ 19001 + ((-1) * τ 19002 + 0)) := hf _ (List.Mem.tail _ (List.Mem.tail _ (List.Mem.tail _ (List.Mem.tail _ (List.Mem.tail _ (List.Mem.tail _ (List.Mem.head _)))))))
    have f7 : 0 ≤ (-1) + (1 * τ 12804 + ((-1) * τ 19002 + 0)) := hf _ (List.Mem.tail _ (List.Mem.tail _ (List.Mem.tail _ (List.Mem.tail _ (List.Mem.tail _ (List.Mem.tail _ (List.Mem.tail _ (List.Mem.head _))))))))
    have f8 : 0 ≤ (-1) + (1 * τ 12804 + ((-1) * τ 19001 + 0)) := hf _ (List.Mem.tail _ (List.Mem.tail _ (List.Mem.tail _ (List.Mem.tail _ (List.Mem.tail _ (List.Mem.tail _ (List.Mem.tail _ (List.Mem.tail _ (List.Mem.head _)))))))))
    have m12805 : σ' 12805 = 1 + (1 * τ 12805 + 0) := hm 12805 (by decide)
    refine ⟨?_, lw_id s133 (hm 133 (by decide)), lw_id s12804 (hm 12804 (by decide)), lw_id s134 (hm 134 (by decide)), lw_id s10250 (hm 10250 (by decide)), lw_id s12814 (hm 12814 (by decide)), lw_id s18520 (hm 18520 (by decide)), lw_id s18528 (hm 18528 (by decide)), lw_id s18521 (hm 18521 (by decide)), lw_id s18529 (hm 18529 (by decide)), lw_id s18522 (hm 18522 (by decide)), lw_id s18530 (hm 18530 (by decide)), lw_id s18523 (hm 18523 (by decide)), lw_id s18531 (hm 18531 (by decide)), lw_id s18524 (hm 18524 (by decide)), lw_id s18532 (hm 18532 (by decide)), lw_id s18525 (hm 18525 (by decide)), lw_id s18533 (hm 18533 (by decide)), lw_id s18526 (hm 18526 (by decide)), lw_id s18534 (hm 18534 (by decide)), lw_id s18527 (hm 18527 (by decide)), lw_id s18535 (hm 18535 (by decide))⟩
    clear hf hm hs
    exact Or.inl ⟨by omega, ⟨by omega, by omega, by omega, by omega, by omega, by omega⟩, by omega⟩
set_option maxHeartbeats 8000000 in
theorem lw_pq7 {y1 y2 y3 y4 : Int32} {o1 o2 : rv_O} {h0 : List rv_C} {σ σ1 σ2 : Nat → Int} {z1 z2 : Int32} (hz1 : o1.1 = some (.inl z1)) (hz2 : o2.1 = some (.inl z2)) (h1 : lw_Qc sx_c218 [rv_ref 0, .inl y1, .inl y2, .inl y3] σ σ1 o1) (h2 : lw_Qc sx_c313 [rv_ref 100, .inl y1, .inl y2, .inl y4] σ1 σ2 o2) (hR : lw_R σ) (hJ : lw_Js σ h0) (hJ1 : lw_Js σ1 o1.2) (hJ2 : lw_Js σ2 o2.2) : z1.toInt = z2.toInt ∧ lw_R σ2 := by
  obtain ⟨g1, u133, u12804, u12805, u10250, u12814, u18520, u18528, u18521, u18529, u18522, u18530, u18523, u18531, u18524, u18532, u18525, u18533, u18526, u18534, u18527, u18535⟩ := lw_mustx (a1 := y1.toInt) (a2 := y2.toInt) hz1 rfl rfl hJ.2.1 h1
  obtain ⟨g2, v133, v12804, v134, v10250, v12814, v18520, v18528, v18521, v18529, v18522, v18530, v18523, v18531, v18524, v18532, v18525, v18533, v18526, v18534, v18527, v18535⟩ := lw_mustm (a1 := y1.toInt) (a2 := y2.toInt) hz2 rfl rfl hJ1.2.1 h2
  obtain ⟨r0, r1, r2, k0, k1, k2, k3, k4, k5, k6, k7⟩ := hR
  clear h1 h2 hJ hJ1 hJ2 hz1 hz2
  have e0 := u12804
  have e1 := u12805
  have e2 := v134
  have hz : z1.toInt = z2.toInt := by clear k0 k1 k2 k3 k4 k5 k6 k7 u133 u12804 u12805 u10250 u12814 u18520 u18528 u18521 u18529 u18522 u18530 u18523 u18531 u18524 u18532 u18525 u18533 u18526 u18534 u18527 u18535 v133 v12804 v134 v10250 v12814 v18520 v18528 v18521 v18529 v18522 v18530 v18523 v18531 v18524 v18532 v18525 v18533 v18526 v18534 v18527 v18535; omega
  have hn : σ2 134 = σ2 12805 := by clear k0 k1 k2 k3 k4 k5 k6 k7 u133 u12804 u12805 u10250 u12814 u18520 u18528 u18521 u18529 u18522 u18530 u18523 u18531 u18524 u18532 u18525 u18533 u18526 u18534 u18527 u18535 v133 v12804 v134 v10250 v12814 v18520 v18528 v18521 v18529 v18522 v18530 v18523 v18531 v18524 v18532 v18525 v18533 v18526 v18534 v18527 v18535; omega
  exact ⟨hz, ⟨(by rw [v133, u133, v12804, u12804]; exact r0), hn, (by rw [v10250, u10250, v12814, u12814]; exact r2), (by rw [v133, u133, v18520, u18520, v18528, u18528]; exact k0), (by rw [v133, u133, v18521, u18521, v18529, u18529]; exact k1), (by rw [v133, u133, v18522, u18522, v18530, u18530]; exact k2), (by rw [v133, u133, v18523, u18523, v18531, u18531]; exact k3), (by rw [v133, u133, v18524, u18524, v18532, u18532]; exact k4), (by rw [v133, u133, v18525, u18525, v18533, u18533]; exact k5), (by rw [v133, u133, v18526, u18526, v18534, u18534]; exact k6), (by rw [v133, u133, v18527, u18527, v18535, u18535]; exact k7)⟩⟩
theorem lw_same7 {y1 y2 y3 y4 : Int32} {o1 o2 : rv_O} {h0 : List rv_C} {σ σ1 σ2 : Nat → Int} {z1 z2 : Int32} (hz1 : o1.1 = some (.inl z1)) (hz2 : o2.1 = some (.inl z2)) (h1 : lw_Qc sx_c218 [rv_ref 0, .inl y1, .inl y2, .inl y3] σ σ1 o1) (h2 : lw_Qc sx_c313 [rv_ref 100, .inl y1, .inl y2, .inl y4] σ1 σ2 o2) (hR : lw_R σ) (hJ : lw_Js σ h0) (hJ1 : lw_Js σ1 o1.2) (hJ2 : lw_Js σ2 o2.2) : z1 = z2 := Int32.toInt_inj.mp (lw_pq7 hz1 hz2 h1 h2 hR hJ hJ1 hJ2).1
theorem lw_sp7 {y1 y2 y3 y4 : Int32} {o1 o2 : rv_O} {h0 : List rv_C} {σ σ1 σ2 : Nat → Int} {z1 z2 : Int32} (hz1 : o1.1 = some (.inl z1)) (hz2 : o2.1 = some (.inl z2)) (h1 : lw_Qc sx_c218 [rv_ref 0, .inl y1, .inl y2, .inl y3] σ σ1 o1) (h2 : lw_Qc sx_c313 [rv_ref 100, .inl y1, .inl y2, .inl y4] σ1 σ2 o2) (hR : lw_R σ) (hJ : lw_Js σ h0) (hJ1 : lw_Js σ1 o1.2) (hJ2 : lw_Js σ2 o2.2) : lw_R σ2 := (lw_pq7 hz1 hz2 h1 h2 hR hJ hJ1 hJ2).2
set_option maxHeartbeats 8000000 in
theorem lw_feedx {as : List rv_A} {σ σ' : Nat → Int} {o : rv_O} {x : Int32} {a1 a2 a3 a4 a5 : Int} (hx : o.1 = some (.inl x)) (h1 : lw_av as 1 = a1) (h2 : lw_av as 2 = a2) (h3 : lw_av as 3 = a3) (h4 : lw_av as 4 = a4) (h5 : lw_av as 5 = a5) (hb : ∀ s, (sx_sr s).1 ≤ σ s ∧ σ s ≤ (sx_sr s).2) (h : lw_Qc sx_c209 as σ σ' o) : ((x.toInt = σ 10250 + 20 ∧ σ 10250 ≤ 280 ∧ σ' 10250 = σ 10250 + 20) ∨ (x.toInt = -1 ∧ 281 ≤ σ 10250 ∧ σ' 10250 = σ 10250)) ∧ σ' 133 = σ 133 ∧ σ' 12804 = σ 12804 ∧ σ' 134 = σ 134 ∧ σ' 12805 = σ 12805 ∧ σ' 12814 = σ 12814 ∧ σ' 18520 = σ 18520 ∧ σ' 18528 = σ 18528 ∧ σ' 18521 = σ 18521 ∧ σ' 18529 = σ 18529 ∧ σ' 18522 = σ 18522 ∧ σ' 18530 = σ 18530 ∧ σ' 18523 = σ 18523 ∧ σ' 18531 = σ 18531 ∧ σ' 18524 = σ 18524 ∧ σ' 18532 = σ 18532 ∧ σ' 18525 = σ 18525 ∧ σ' 18533 = σ 18533 ∧ σ' 18526 = σ 18526 ∧ σ' 18534 = σ 18534 ∧ σ' 18527 = σ 18527 ∧ σ' 18535 = σ 18535 := by
  have b133 : 0 ≤ σ 133 ∧ σ 133 ≤ 8 := by
    have h0 := hb 133
    rw [show sx_sr 133 = (0, 8) from by decide +kernel] at h0
    exact h0
  have b134 : 0 ≤ σ 134 ∧ σ 134 ≤ 12 := by
    have h0 := hb 134
    rw [show sx_sr 134 = (0, 12) from by decide +kernel] at h0
    exact h0
  have b10250 : 0 ≤ σ 10250 ∧ σ 10250 ≤ 300 := by
    have h0 := hb 10250
    rw [show sx_sr 10250 = (0, 300) from by decide +kernel] at h0
    exact h0
  obtain ⟨g, hg, τ, hs, ht, hf, hr, hm, hw⟩ := h
  have e1 : τ 19001 = a1 := by rw [ht 19001 (by decide) (by decide)]; exact h1
  have e2 : τ 19002 = a2 := by rw [ht 19002 (by decide) (by decide)]; exact h2
  have e3 : τ 19003 = a3 := by rw [ht 19003 (by decide) (by decide)]; exact h3
  have e4 : τ 19004 = a4 := by rw [ht 19004 (by decide) (by decide)]; exact h4
  have e5 : τ 19005 = a5 := by rw [ht 19005 (by decide) (by decide)]; exact h5
  have s133 : τ 133 = σ 133 := hs 133 (by decide)
  have s134 : τ 134 = σ 134 := hs 134 (by decide)
  have s10250 : τ 10250 = σ 10250 := hs 10250 (by decide)
  have s12804 : τ 12804 = σ 12804 := hs 12804 (by decide)
  have s12805 : τ 12805 = σ 12805 := hs 12805 (by decide)
  have s12814 : τ 12814 = σ 12814 := hs 12814 (by decide)
  have s18520 : τ 18520 = σ 18520 := hs 18520 (by decide)
  have s18521 : τ 18521 = σ 18521 := hs 18521 (by decide)
  have s18522 : τ 18522 = σ 18522 := hs 18522 (by decide)
  have s18523 : τ 18523 = σ 18523 := hs 18523 (by decide)
  have s18524 : τ 18524 = σ 18524 := hs 18524 (by decide)
  have s18525 : τ 18525 = σ 18525 := hs 18525 (by decide)
  have s18526 : τ 18526 = σ 18526 := hs 18526 (by decide)
  have s18527 : τ 18527 = σ 18527 := hs 18527 (by decide)
  have s18528 : τ 18528 = σ 18528 := hs 18528 (by decide)
  have s18529 : τ 18529 = σ 18529 := hs 18529 (by decide)
  have s18530 : τ 18530 = σ 18530 := hs 18530 (by decide)
  have s18531 : τ 18531 = σ 18531 := hs 18531 (by decide)
  have s18532 : τ 18532 = σ 18532 := hs 18532 (by decide)
  have s18533 : τ 18533 = σ 18533 := hs 18533 (by decide)
  have s18534 : τ 18534 = σ 18534 := hs 18534 (by decide)
  have s18535 : τ 18535 = σ 18535 := hs 18535 (by decide)
  clear hb ht
  rw [hx] at hr
  simp only [sx_c209, List.mem_cons, List.not_mem_nil, or_false] at hg
  rcases hg with rfl | rfl
  · obtain ⟨y, hy, hv⟩ := hr
    cases hy
    replace hv : x.toInt = 20 + (1 * τ 10250 + 0) := hv
    have f0 : 0 ≤ 280 + ((-1) * τ 10250 + 0) := hf _ (List.Mem.head _)
    have m10250 : σ' 10250 = 20 + (1 * τ 10250 + 0) := hm 10250 (by decide)
    refine ⟨?_, lw_id s133 (hm 133 (by decide)), lw_id s12804 (hm 12804 (by decide)), lw_id s134 (hm 134 (by decide)), lw_id s12805 (hm 12805 (by decide)), lw_id s12814 (hm 12814 (by decide)), lw_id s18520 (hm 18520 (by decide)), lw_id s18528 (hm 18528 (by decide)), lw_id s18521 (hm 18521 (by decide)), lw_id s18529 (hm 18529 (by decide)), lw_id s18522 (hm 18522 (by decide)), lw_id s18530 (hm 18530 (by decide)), lw_id s18523 (hm 18523 (by decide)), lw_id s18531 (hm 18531 (by decide)), lw_id s18524 (hm 18524 (by decide)), lw_id s18532 (hm 18532 (by decide)), lw_id s18525 (hm 18525 (by decide)), lw_id s18533 (hm 18533 (by decide)), lw_id s18526 (hm 18526 (by decide)), lw_id s18534 (hm 18534 (by decide)), lw_id s18527 (hm 18527 (by decide)), lw_id s18535 (hm 18535 (by decide))⟩
    clear hf hm hs
    exact Or.inl ⟨by omega, by omega, by omega⟩
  · obtain ⟨y, hy, hv⟩ := hr
    cases hy
    replace hv : x.toInt = (-1) + 0 := hv
    have f0 : 0 ≤ (-281) + (1 * τ 10250 + 0) := hf _ (List.Mem.head _)
    have m10250 : σ' 10250 = 0 + (1 * τ 10250 + 0) := hm 10250 (by decide)
    refine ⟨?_, lw_id s133 (hm 133 (by decide)), lw_id s12804 (hm 12804 (by decide)), lw_id s134 (hm 134 (by decide)), lw_id s12805 (hm 12805 (by decide)), lw_id s12814 (hm 12814 (by decide)), lw_id s18520 (hm 18520 (by decide)), lw_id s18528 (hm 18528 (by decide)), lw_id s18521 (hm 18521 (by decide)), lw_id s18529 (hm 18529 (by decide)), lw_id s18522 (hm 18522 (by decide)), lw_id s18530 (hm 18530 (by decide)), lw_id s18523 (hm 18523 (by decide)), lw_id s18531 (hm 18531 (by decide)), lw_id s18524 (hm 18524 (by decide)), lw_id s18532 (hm 18532 (by decide)), lw_id s18525 (hm 18525 (by decide)), lw_id s18533 (hm 18533 (by decide)), lw_id s18526 (hm 18526 (by decide)), lw_id s18534 (hm 18534 (by decide)), lw_id s18527 (hm 18527 (by decide)), lw_id s18535 (hm 18535 (by decide))⟩
    clear hf hm hs
    exact Or.inr ⟨by omega, by omega, by omega⟩
set_option maxHeartbeats 8000000 in
theorem lw_feedm {as : List rv_A} {σ σ' : Nat → Int} {o : rv_O} {x : Int32} {a1 a2 a3 a4 a5 : Int} (hx : o.1 = some (.inl x)) (h1 : lw_av as 1 = a1) (h2 : lw_av as 2 = a2) (h3 : lw_av as 3 = a3) (h4 : lw_av as 4 = a4) (h5 : lw_av as 5 = a5) (hb : ∀ s, (sx_sr s).1 ≤ σ s ∧ σ s ≤ (sx_sr s).2) (h : lw_Qc sx_c295 as σ σ' o) : ((x.toInt = σ 12814 + 20 ∧ σ 12814 ≤ 280 ∧ σ' 12814 = σ 12814 + 20) ∨ (x.toInt = -1 ∧ 281 ≤ σ 12814 ∧ σ' 12814 = σ 12814)) ∧ σ' 133 = σ 133 ∧ σ' 12804 = σ 12804 ∧ σ' 134 = σ 134 ∧ σ' 12805 = σ 12805 ∧ σ' 10250 = σ 10250 ∧ σ' 18520 = σ 18520 ∧ σ' 18528 = σ 18528 ∧ σ' 18521 = σ 18521 ∧ σ' 18529 = σ 18529 ∧ σ' 18522 = σ 18522 ∧ σ' 18530 = σ 18530 ∧ σ' 18523 = σ 18523 ∧ σ' 18531 = σ 18531 ∧ σ' 18524 = σ 18524 ∧ σ' 18532 = σ 18532 ∧ σ' 18525 = σ 18525 ∧ σ' 18533 = σ 18533 ∧ σ' 18526 = σ 18526 ∧ σ' 18534 = σ 18534 ∧ σ' 18527 = σ 18527 ∧ σ' 18535 = σ 18535 := by
  have b12804 : 0 ≤ σ 12804 ∧ σ 12804 ≤ 8 := by
    have h0 := hb 12804
    rw [show sx_sr 12804 = (0, 8) from by decide +kernel] at h0
    exact h0
  have b12805 : 0 ≤ σ 12805 ∧ σ 12805 ≤ 12 := by
    have h0 := hb 12805
    rw [show sx_sr 12805 = (0, 12) from by decide +kernel] at h0
    exact h0
  have b12814 : 0 ≤ σ 12814 ∧ σ 12814 ≤ 300 := by
    have h0 := hb 12814
    rw [show sx_sr 12814 = (0, 300) from by decide +kernel] at h0
    exact h0
  obtain ⟨g, hg, τ, hs, ht, hf, hr, hm, hw⟩ := h
  have e1 : τ 19001 = a1 := by rw [ht 19001 (by decide) (by decide)]; exact h1
  have e2 : τ 19002 = a2 := by rw [ht 19002 (by decide) (by decide)]; exact h2
  have e3 : τ 19003 = a3 := by rw [ht 19003 (by decide) (by decide)]; exact h3
  have e4 : τ 19004 = a4 := by rw [ht 19004 (by decide) (by decide)]; exact h4
  have e5 : τ 19005 = a5 := by rw [ht 19005 (by decide) (by decide)]; exact h5
  have s133 : τ 133 = σ 133 := hs 133 (by decide)
  have s134 : τ 134 = σ 134 := hs 134 (by decide)
  have s10250 : τ 10250 = σ 10250 := hs 10250 (by decide)
  have s12804 : τ 12804 = σ 12804 := hs 12804 (by decide)
  have s12805 : τ 12805 = σ 12805 := hs 12805 (by decide)
  have s12814 : τ 12814 = σ 12814 := hs 12814 (by decide)
  have s18520 : τ 18520 = σ 18520 := hs 18520 (by decide)
  have s18521 : τ 18521 = σ 18521 := hs 18521 (by decide)
  have s18522 : τ 18522 = σ 18522 := hs 18522 (by decide)
  have s18523 : τ 18523 = σ 18523 := hs 18523 (by decide)
  have s18524 : τ 18524 = σ 18524 := hs 18524 (by decide)
  have s18525 : τ 18525 = σ 18525 := hs 18525 (by decide)
  have s18526 : τ 18526 = σ 18526 := hs 18526 (by decide)
  have s18527 : τ 18527 = σ 18527 := hs 18527 (by decide)
  have s18528 : τ 18528 = σ 18528 := hs 18528 (by decide)
  have s18529 : τ 18529 = σ 18529 := hs 18529 (by decide)
  have s18530 : τ 18530 = σ 18530 := hs 18530 (by decide)
  have s18531 : τ 18531 = σ 18531 := hs 18531 (by decide)
  have s18532 : τ 18532 = σ 18532 := hs 18532 (by decide)
  have s18533 : τ 18533 = σ 18533 := hs 18533 (by decide)
  have s18534 : τ 18534 = σ 18534 := hs 18534 (by decide)
  have s18535 : τ 18535 = σ 18535 := hs 18535 (by decide)
  clear hb ht
  rw [hx] at hr
  simp only [sx_c295, List.mem_cons, List.not_mem_nil, or_false] at hg
  rcases hg with rfl | rfl
  · obtain ⟨y, hy, hv⟩ := hr
    cases hy
    replace hv : x.toInt = 20 + (1 * τ 12814 + 0) := hv
    have f0 : 0 ≤ 280 + ((-1) * τ 12814 + 0) := hf _ (List.Mem.head _)
    have m12814 : σ' 12814 = 20 + (1 * τ 12814 + 0) := hm 12814 (by decide)
    refine ⟨?_, lw_id s133 (hm 133 (by decide)), lw_id s12804 (hm 12804 (by decide)), lw_id s134 (hm 134 (by decide)), lw_id s12805 (hm 12805 (by decide)), lw_id s10250 (hm 10250 (by decide)), lw_id s18520 (hm 18520 (by decide)), lw_id s18528 (hm 18528 (by decide)), lw_id s18521 (hm 18521 (by decide)), lw_id s18529 (hm 18529 (by decide)), lw_id s18522 (hm 18522 (by decide)), lw_id s18530 (hm 18530 (by decide)), lw_id s18523 (hm 18523 (by decide)), lw_id s18531 (hm 18531 (by decide)), lw_id s18524 (hm 18524 (by decide)), lw_id s18532 (hm 18532 (by decide)), lw_id s18525 (hm 18525 (by decide)), lw_id s18533 (hm 18533 (by decide)), lw_id s18526 (hm 18526 (by decide)), lw_id s18534 (hm 18534 (by decide)), lw_id s18527 (hm 18527 (by decide)), lw_id s18535 (hm 18535 (by decide))⟩
    clear hf hm hs
    exact Or.inl ⟨by omega, by omega, by omega⟩
  · obtain ⟨y, hy, hv⟩ := hr
    cases hy
    replace hv : x.toInt = (-1) + 0 := hv
    have f0 : 0 ≤ (-281) + (1 * τ 12814 + 0) := hf _ (List.Mem.head _)
    have m12814 : σ' 12814 = 0 + (1 * τ 12814 + 0) := hm 12814 (by decide)
    refine ⟨?_, lw_id s133 (hm 133 (by decide)), lw_id s12804 (hm 12804 (by decide)), lw_id s134 (hm 134 (by decide)), lw_id s12805 (hm 12805 (by decide)), lw_id s10250 (hm 10250 (by decide)), lw_id s18520 (hm 18520 (by decide)), lw_id s18528 (hm 18528 (by decide)), lw_id s18521 (hm 18521 (by decide)), lw_id s18529 (hm 18529 (by decide)), lw_id s18522 (hm 18522 (by decide)), lw_id s18530 (hm 18530 (by decide)), lw_id s18523 (hm 18523 (by decide)), lw_id s18531 (hm 18531 (by decide)), lw_id s18524 (hm 18524 (by decide)), lw_id s18532 (hm 18532 (by decide)), lw_id s18525 (hm 18525 (by decide)), lw_id s18533 (hm 18533 (by decide)), lw_id s18526 (hm 18526 (by decide)), lw_id s18534 (hm 18534 (by decide)), lw_id s18527 (hm 18527 (by decide)), lw_id s18535 (hm 18535 (by decide))⟩
    clear hf hm hs
    exact Or.inr ⟨by omega, by omega, by omega⟩
set_option maxHeartbeats 8000000 in
theorem lw_pq8 {y1 y2 y3 y4 y5 : Int32} {o1 o2 : rv_O} {h0 : List rv_C} {σ σ1 σ2 : Nat → Int} {z1 z2 : Int32} (hz1 : o1.1 = some (.inl z1)) (hz2 : o2.1 = some (.inl z2)) (h1 : lw_Qc sx_c209 [rv_ref 0, .inl y1, .inl y2, .inl y3, .inl y4, .inl y5] σ σ1 o1) (h2 : lw_Qc sx_c295 [rv_ref 100, .inl y1, .inl y2, .inl y3, .inl y4, .inl y5] σ1 σ2 o2) (hR : lw_R σ) (hJ : lw_Js σ h0) (hJ1 : lw_Js σ1 o1.2) (hJ2 : lw_Js σ2 o2.2) : z1.toInt = z2.toInt ∧ lw_R σ2 := by
  obtain ⟨g1, u133, u12804, u134, u12805, u12814, u18520, u18528, u18521, u18529, u18522, u18530, u18523, u18531, u18524, u18532, u18525, u18533, u18526, u18534, u18527, u18535⟩ := lw_feedx (a1 := y1.toInt) (a2 := y2.toInt) (a3 := y3.toInt) (a4 := y4.toInt) (a5 := y5.toInt) hz1 rfl rfl rfl rfl rfl hJ.2.1 h1
  obtain ⟨g2, v133, v12804, v134, v12805, v10250, v18520, v18528, v18521, v18529, v18522, v18530, v18523, v18531, v18524, v18532, v18525, v18533, v18526, v18534, v18527, v18535⟩ := lw_feedm (a1 := y1.toInt) (a2 := y2.toInt) (a3 := y3.toInt) (a4 := y4.toInt) (a5 := y5.toInt) hz2 rfl rfl rfl rfl rfl hJ1.2.1 h2
  obtain ⟨r0, r1, r2, k0, k1, k2, k3, k4, k5, k6, k7⟩ := hR
  clear h1 h2 hJ hJ1 hJ2 hz1 hz2
  have e1 := u12814
  have e2 := v10250
  have hz : z1.toInt = z2.toInt := by clear k0 k1 k2 k3 k4 k5 k6 k7 u133 u12804 u134 u12805 u12814 u18520 u18528 u18521 u18529 u18522 u18530 u18523 u18531 u18524 u18532 u18525 u18533 u18526 u18534 u18527 u18535 v133 v12804 v134 v12805 v10250 v18520 v18528 v18521 v18529 v18522 v18530 v18523 v18531 v18524 v18532 v18525 v18533 v18526 v18534 v18527 v18535; omega
  have hn : σ2 10250 = σ2 12814 := by clear k0 k1 k2 k3 k4 k5 k6 k7 u133 u12804 u134 u12805 u12814 u18520 u18528 u18521 u18529 u18522 u18530 u18523 u18531 u18524 u18532 u18525 u18533 u18526 u18534 u18527 u18535 v133 v12804 v134 v12805 v10250 v18520 v18528 v18521 v18529 v18522 v18530 v18523 v18531 v18524 v18532 v18525 v18533 v18526 v18534 v18527 v18535; omega
  exact ⟨hz, ⟨(by rw [v133, u133, v12804, u12804]; exact r0), (by rw [v134, u134, v12805, u12805]; exact r1), hn, (by rw [v133, u133, v18520, u18520, v18528, u18528]; exact k0), (by rw [v133, u133, v18521, u18521, v18529, u18529]; exact k1), (by rw [v133, u133, v18522, u18522, v18530, u18530]; exact k2), (by rw [v133, u133, v18523, u18523, v18531, u18531]; exact k3), (by rw [v133, u133, v18524, u18524, v18532, u18532]; exact k4), (by rw [v133, u133, v18525, u18525, v18533, u18533]; exact k5), (by rw [v133, u133, v18526, u18526, v18534, u18534]; exact k6), (by rw [v133, u133, v18527, u18527, v18535, u18535]; exact k7)⟩⟩
theorem lw_same8 {y1 y2 y3 y4 y5 : Int32} {o1 o2 : rv_O} {h0 : List rv_C} {σ σ1 σ2 : Nat → Int} {z1 z2 : Int32} (hz1 : o1.1 = some (.inl z1)) (hz2 : o2.1 = some (.inl z2)) (h1 : lw_Qc sx_c209 [rv_ref 0, .inl y1, .inl y2, .inl y3, .inl y4, .inl y5] σ σ1 o1) (h2 : lw_Qc sx_c295 [rv_ref 100, .inl y1, .inl y2, .inl y3, .inl y4, .inl y5] σ1 σ2 o2) (hR : lw_R σ) (hJ : lw_Js σ h0) (hJ1 : lw_Js σ1 o1.2) (hJ2 : lw_Js σ2 o2.2) : z1 = z2 := Int32.toInt_inj.mp (lw_pq8 hz1 hz2 h1 h2 hR hJ hJ1 hJ2).1
theorem lw_sp8 {y1 y2 y3 y4 y5 : Int32} {o1 o2 : rv_O} {h0 : List rv_C} {σ σ1 σ2 : Nat → Int} {z1 z2 : Int32} (hz1 : o1.1 = some (.inl z1)) (hz2 : o2.1 = some (.inl z2)) (h1 : lw_Qc sx_c209 [rv_ref 0, .inl y1, .inl y2, .inl y3, .inl y4, .inl y5] σ σ1 o1) (h2 : lw_Qc sx_c295 [rv_ref 100, .inl y1, .inl y2, .inl y3, .inl y4, .inl y5] σ1 σ2 o2) (hR : lw_R σ) (hJ : lw_Js σ h0) (hJ1 : lw_Js σ1 o1.2) (hJ2 : lw_Js σ2 o2.2) : lw_R σ2 := (lw_pq8 hz1 hz2 h1 h2 hR hJ hJ1 hJ2).2
set_option maxHeartbeats 8000000 in
theorem lw_wishx {as : List rv_A} {σ σ' : Nat → Int} {o : rv_O} {x : Int32} {a1 a2 : Int} (hx : o.1 = some (.inl x)) (h1 : lw_av as 1 = a1) (h2 : lw_av as 2 = a2) (hb : ∀ s, (sx_sr s).1 ≤ σ s ∧ σ s ≤ (sx_sr s).2) (h : lw_Qc sx_c244 as σ σ' o) : (((0 ≤ a1 ∧ a1 < σ 133 ∧ 0 ≤ a2 ∧ a2 ≤ σ 10250) ∧ σ' 10250 = 0) ∨ (¬ (0 ≤ a1 ∧ a1 < σ 133 ∧ 0 ≤ a2 ∧ a2 ≤ σ 10250) ∧ σ' 10250 = σ 10250)) ∧ σ' 133 = σ 133 ∧ σ' 12804 = σ 12804 ∧ σ' 134 = σ 134 ∧ σ' 12805 = σ 12805 ∧ σ' 12814 = σ 12814 ∧ σ' 18520 = σ 18520 ∧ σ' 18528 = σ 18528 ∧ σ' 18521 = σ 18521 ∧ σ' 18529 = σ 18529 ∧ σ' 18522 = σ 18522 ∧ σ' 18530 = σ 18530 ∧ σ' 18523 = σ 18523 ∧ σ' 18531 = σ 18531 ∧ σ' 18524 = σ 18524 ∧ σ' 18532 = σ 18532 ∧ σ' 18525 = σ 18525 ∧ σ' 18533 = σ 18533 ∧ σ' 18526 = σ 18526 ∧ σ' 18534 = σ 18534 ∧ σ' 18527 = σ 18527 ∧ σ' 18535 = σ 18535 := by
  have b133 : 0 ≤ σ 133 ∧ σ 133 ≤ 8 := by
    have h0 := hb 133
    rw [show sx_sr 133 = (0, 8) from by decide +kernel] at h0
    exact h0
  have b134 : 0 ≤ σ 134 ∧ σ 134 ≤ 12 := by
    have h0 := hb 134
    rw [show sx_sr 134 = (0, 12) from by decide +kernel] at h0
    exact h0
  have b10250 : 0 ≤ σ 10250 ∧ σ 10250 ≤ 300 := by
    have h0 := hb 10250
    rw [show sx_sr 10250 = (0, 300) from by decide +kernel] at h0
    exact h0
  obtain ⟨g, hg, τ, hs, ht, hf, hr, hm, hw⟩ := h
  have e1 : τ 19001 = a1 := by rw [ht 19001 (by decide) (by decide)]; exact h1
  have e2 : τ 19002 = a2 := by rw [ht 19002 (by decide) (by decide)]; exact h2
  have s133 : τ 133 = σ 133 := hs 133 (by decide)
  have s134 : τ 134 = σ 134 := hs 134 (by decide)
  have s10250 : τ 10250 = σ 10250 := hs 10250 (by decide)
  have s12804 : τ 12804 = σ 12804 := hs 12804 (by decide)
  have s12805 : τ 12805 = σ 12805 := hs 12805 (by decide)
  have s12814 : τ 12814 = σ 12814 := hs 12814 (by decide)
  have s18520 : τ 18520 = σ 18520 := hs 18520 (by decide)
  have s18521 : τ 18521 = σ 18521 := hs 18521 (by decide)
  have s18522 : τ 18522 = σ 18522 := hs 18522 (by decide)
  have s18523 : τ 18523 = σ 18523 := hs 18523 (by decide)
  have s18524 : τ 18524 = σ 18524 := hs 18524 (by decide)
  have s18525 : τ 18525 = σ 18525 := hs 18525 (by decide)
  have s18526 : τ 18526 = σ 18526 := hs 18526 (by decide)
  have s18527 : τ 18527 = σ 18527 := hs 18527 (by decide)
  have s18528 : τ 18528 = σ 18528 := hs 18528 (by decide)
  have s18529 : τ 18529 = σ 18529 := hs 18529 (by decide)
  have s18530 : τ 18530 = σ 18530 := hs 18530 (by decide)
  have s18531 : τ 18531 = σ 18531 := hs 18531 (by decide)
  have s18532 : τ 18532 = σ 18532 := hs 18532 (by decide)
  have s18533 : τ 18533 = σ 18533 := hs 18533 (by decide)
  have s18534 : τ 18534 = σ 18534 := hs 18534 (by decide)
  have s18535 : τ 18535 = σ 18535 := hs 18535 (by decide)
  clear hb ht
  rw [hx] at hr
  simp only [sx_c244, List.mem_cons, List.not_mem_nil, or_false] at hg
  rcases hg with rfl | rfl | rfl | rfl | rfl
  · obtain ⟨y, hy, hv⟩ := hr
    cases hy
    replace hv : x.toInt = (-1) + 0 := hv
    have f0 : 0 ≤ (-1) + (1 * τ 133 + 0) := hf _ (List.Mem.head _)
    have f1 : 0 ≤ 0 + (1 * τ 19001 + 0) := hf _ (List.Mem.tail _ (List.Mem.head _))
    have f2 : 0 ≤ 7 + ((-1) * τ 19001 + 0) := hf _ (List.Mem.tail _ (List.Mem.tail _ (List.Mem.head _)))
    have f3 : 0 ≤ (-1) + ((-1) * τ 19002 + 0) := hf _ (List.Mem.tail _ (List.Mem.tail _ (List.Mem.tail _ (List.Mem.head _))))
    have f4 : 0 ≤ (-1) + (1 * τ 133 + ((-1) * τ 19001 + 0)) := hf _ (List.Mem.tail _ (List.Mem.tail _ (List.Mem.tail _ (List.Mem.tail _ (List.Mem.head _)))))
    have m10250 : σ' 10250 = 0 + (1 * τ 10250 + 0) := hm 10250 (by decide)
    refine ⟨?_, lw_id s133 (hm 133 (by decide)), lw_id s12804 (hm 12804 (by decide)), lw_id s134 (hm 134 (by decide)), lw_id s12805 (hm 12805 (by decide)), lw_id s12814 (hm 12814 (by decide)), lw_id s18520 (hm 18520 (by decide)), lw_id s18528 (hm 18528 (by decide)), lw_id s18521 (hm 18521 (by decide)), lw_id s18529 (hm 18529 (by decide)), lw_id s18522 (hm 18522 (by decide)), lw_id s18530 (hm 18530 (by decide)), lw_id s18523 (hm 18523 (by decide)), lw_id s18531 (hm 18531 (by decide)), lw_id s18524 (hm 18524 (by decide)), lw_id s18532 (hm 18532 (by decide)), lw_id s18525 (hm 18525 (by decide)), lw_id s18533 (hm 18533 (by decide)), lw_id s18526 (hm 18526 (by decide)), lw_id s18534 (hm 18534 (by decide)), lw_id s18527 (hm 18527 (by decide)), lw_id s18535 (hm 18535 (by decide))⟩
    clear hf hm hs
    exact Or.inr ⟨fun h => (by omega), by omega⟩
  · obtain ⟨y, hy, hv⟩ := hr
    cases hy
    replace hv : x.toInt = (-1) + 0 := hv
    have f0 : 0 ≤ (-1) + (1 * τ 133 + 0) := hf _ (List.Mem.head _)
    have f1 : 0 ≤ 0 + (1 * τ 19001 + 0) := hf _ (List.Mem.tail _ (List.Mem.head _))
    have f2 : 0 ≤ 7 + ((-1) * τ 19001 + 0) := hf _ (List.Mem.tail _ (List.Mem.tail _ (List.Mem.head _)))
    have f3 : 0 ≤ (-1) + (1 * τ 19002 + 0) := hf _ (List.Mem.tail _ (List.Mem.tail _ (List.Mem.tail _ (List.Mem.head _))))
    have f4 : 0 ≤ (-1) + ((-1) * τ 10250 + (1 * τ 19002 + 0)) := hf _ (List.Mem.tail _ (List.Mem.tail _ (List.Mem.tail _ (List.Mem.tail _ (List.Mem.head _)))))
    have f5 : 0 ≤ (-1) + (1 * τ 133 + ((-1) * τ 19001 + 0)) := hf _ (List.Mem.tail _ (List.Mem.tail _ (List.Mem.tail _ (List.Mem.tail _ (List.Mem.tail _ (List.Mem.head _))))))
    have m10250 : σ' 10250 = 0 + (1 * τ 10250 + 0) := hm 10250 (by decide)
    refine ⟨?_, lw_id s133 (hm 133 (by decide)), lw_id s12804 (hm 12804 (by decide)), lw_id s134 (hm 134 (by decide)), lw_id s12805 (hm 12805 (by decide)), lw_id s12814 (hm 12814 (by decide)), lw_id s18520 (hm 18520 (by decide)), lw_id s18528 (hm 18528 (by decide)), lw_id s18521 (hm 18521 (by decide)), lw_id s18529 (hm 18529 (by decide)), lw_id s18522 (hm 18522 (by decide)), lw_id s18530 (hm 18530 (by decide)), lw_id s18523 (hm 18523 (by decide)), lw_id s18531 (hm 18531 (by decide)), lw_id s18524 (hm 18524 (by decide)), lw_id s18532 (hm 18532 (by decide)), lw_id s18525 (hm 18525 (by decide)), lw_id s18533 (hm 18533 (by decide)), lw_id s18526 (hm 18526 (by decide)), lw_id s18534 (hm 18534 (by decide)), lw_id s18527 (hm 18527 (by decide)), lw_id s18535 (hm 18535 (by decide))⟩
    clear hf hm hs
    exact Or.inr ⟨fun h => (by omega), by omega⟩
  · obtain ⟨y, hy, hv⟩ := hr
    cases hy
    replace hv : x.toInt = (-1) + 0 := hv
    have f0 : 0 ≤ (-1) + ((-1) * τ 19001 + 0) := hf _ (List.Mem.head _)
    have m10250 : σ' 10250 = 0 + (1 * τ 10250 + 0) := hm 10250 (by decide)
    refine ⟨?_, lw_id s133 (hm 133 (by decide)), lw_id s12804 (hm 12804 (by decide)), lw_id s134 (hm 134 (by decide)), lw_id s12805 (hm 12805 (by decide)), lw_id s12814 (hm 12814 (by decide)), lw_id s18520 (hm 18520 (by decide)), lw_id s18528 (hm 18528 (by decide)), lw_id s18521 (hm 18521 (by decide)), lw_id s18529 (hm 18529 (by decide)), lw_id s18522 (hm 18522 (by decide)), lw_id s18530 (hm 18530 (by decide)), lw_id s18523 (hm 18523 (by decide)), lw_id s18531 (hm 18531 (by decide)), lw_id s18524 (hm 18524 (by decide)), lw_id s18532 (hm 18532 (by decide)), lw_id s18525 (hm 18525 (by decide)), lw_id s18533 (hm 18533 (by decide)), lw_id s18526 (hm 18526 (by decide)), lw_id s18534 (hm 18534 (by decide)), lw_id s18527 (hm 18527 (by decide)), lw_id s18535 (hm 18535 (by decide))⟩
    clear hf hm hs
    exact Or.inr ⟨fun h => (by omega), by omega⟩
  · obtain ⟨y, hy, hv⟩ := hr
    cases hy
    replace hv : x.toInt = (-1) + 0 := hv
    have f0 : 0 ≤ 0 + (1 * τ 19001 + 0) := hf _ (List.Mem.head _)
    have f1 : 0 ≤ 0 + ((-1) * τ 133 + (1 * τ 19001 + 0)) := hf _ (List.Mem.tail _ (List.Mem.head _))
    have m10250 : σ' 10250 = 0 + (1 * τ 10250 + 0) := hm 10250 (by decide)
    refine ⟨?_, lw_id s133 (hm 133 (by decide)), lw_id s12804 (hm 12804 (by decide)), lw_id s134 (hm 134 (by decide)), lw_id s12805 (hm 12805 (by decide)), lw_id s12814 (hm 12814 (by decide)), lw_id s18520 (hm 18520 (by decide)), lw_id s18528 (hm 18528 (by decide)), lw_id s18521 (hm 18521 (by decide)), lw_id s18529 (hm 18529 (by decide)), lw_id s18522 (hm 18522 (by decide)), lw_id s18530 (hm 18530 (by decide)), lw_id s18523 (hm 18523 (by decide)), lw_id s18531 (hm 18531 (by decide)), lw_id s18524 (hm 18524 (by decide)), lw_id s18532 (hm 18532 (by decide)), lw_id s18525 (hm 18525 (by decide)), lw_id s18533 (hm 18533 (by decide)), lw_id s18526 (hm 18526 (by decide)), lw_id s18534 (hm 18534 (by decide)), lw_id s18527 (hm 18527 (by decide)), lw_id s18535 (hm 18535 (by decide))⟩
    clear hf hm hs
    exact Or.inr ⟨fun h => (by omega), by omega⟩
  · obtain ⟨y, hy, hv⟩ := hr
    cases hy
    replace hv : x.toInt = 0 + (1 * τ 1000032 + 0) := hv
    have f0 : 0 ≤ 0 + (1 * τ 7048 + ((-1) * τ 1000017 + 0)) := hf _ (List.Mem.head _)
    have f1 : 0 ≤ 0 + (1 * τ 7049 + ((-1) * τ 1000018 + 0)) := hf _ (List.Mem.tail _ (List.Mem.head _))
    have f2 : 0 ≤ 1 + ((-1) * τ 8069 + (1 * τ 1000019 + 0)) := hf _ (List.Mem.tail _ (List.Mem.tail _ (List.Mem.head _)))
    have f3 : 0 ≤ 0 + (1 * τ 8069 + ((-1) * τ 1000019 + 0)) := hf _ (List.Mem.tail _ (List.Mem.tail _ (List.Mem.tail _ (List.Mem.head _))))
    have f4 : 0 ≤ 0 + (1 * τ 11396 + ((-1) * τ 1000028 + 0)) := hf _ (List.Mem.tail _ (List.Mem.tail _ (List.Mem.tail _ (List.Mem.tail _ (List.Mem.head _)))))
    have f5 : 0 ≤ (-1) + (1 * τ 133 + 0) := hf _ (List.Mem.tail _ (List.Mem.tail _ (List.Mem.tail _ (List.Mem.tail _ (List.Mem.tail _ (List.Mem.head _))))))
    have f6 : 0 ≤ 0 + (1 * τ 19001 + 0) := hf _ (List.Mem.tail _ (List.Mem.tail _ (List.Mem.tail _ (List.Mem.tail _ (List.Mem.tail _ (List.Mem.tail _ (List.Mem.head _)))))))
    have f7 : 0 ≤ 7 + ((-1) * τ 19001 + 0) := hf _ (List.Mem.tail _ (List.Mem.tail _ (List.Mem.tail _ (List.Mem.tail _ (List.Mem.tail _ (List.Mem.tail _ (List.Mem.tail _ (List.Mem.head _))))))))
    have f8 : 0 ≤ 0 + (1 * τ 19002 + 0) := hf _ (List.Mem.tail _ (List.Mem.tail _ (List.Mem.tail _ (List.Mem.tail _ (List.Mem.tail _ (List.Mem.tail _ (List.Mem.tail _ (List.Mem.tail _ (List.Mem.head _)))))))))
    have f9 : 0 ≤ 300 + ((-1) * τ 19002 + 0) := hf _ (List.Mem.tail _ (List.Mem.tail _ (List.Mem.tail _ (List.Mem.tail _ (List.Mem.tail _ (List.Mem.tail _ (List.Mem.tail _ (List.Mem.tail _ (List.Mem.tail _ (List.Mem.head _))))))))))
    have f10 : 0 ≤ 0 + (1 * τ 10250 + ((-1) * τ 19002 + 0)) := hf _ (List.Mem.tail _ (List.Mem.tail _ (List.Mem.tail _ (List.Mem.tail _ (List.Mem.tail _ (List.Mem.tail _ (List.Mem.tail _ (List.Mem.tail _ (List.Mem.tail _ (List.Mem.tail _ (List.Mem.head _)))))))))))
    have f11 : 0 ≤ (-1) + (1 * τ 133 + ((-1) * τ 19001 + 0)) := hf _ (List.Mem.tail _ (List.Mem.tail _ (List.Mem.tail _ (List.Mem.tail _ (List.Mem.tail _ (List.Mem.tail _ (List.Mem.tail _ (List.Mem.tail _ (List.Mem.tail _ (List.Mem.tail _ (List.Mem.tail _ (List.Mem.head _))))))))))))
    have m10250 : σ' 10250 = 0 + 0 := hm 10250 (by decide)
    refine ⟨?_, lw_id s133 (hm 133 (by decide)), lw_id s12804 (hm 12804 (by decide)), lw_id s134 (hm 134 (by decide)), lw_id s12805 (hm 12805 (by decide)), lw_id s12814 (hm 12814 (by decide)), lw_id s18520 (hm 18520 (by decide)), lw_id s18528 (hm 18528 (by decide)), lw_id s18521 (hm 18521 (by decide)), lw_id s18529 (hm 18529 (by decide)), lw_id s18522 (hm 18522 (by decide)), lw_id s18530 (hm 18530 (by decide)), lw_id s18523 (hm 18523 (by decide)), lw_id s18531 (hm 18531 (by decide)), lw_id s18524 (hm 18524 (by decide)), lw_id s18532 (hm 18532 (by decide)), lw_id s18525 (hm 18525 (by decide)), lw_id s18533 (hm 18533 (by decide)), lw_id s18526 (hm 18526 (by decide)), lw_id s18534 (hm 18534 (by decide)), lw_id s18527 (hm 18527 (by decide)), lw_id s18535 (hm 18535 (by decide))⟩
    clear hf hm hs
    exact Or.inl ⟨⟨by omega, by omega, by omega, by omega⟩, by omega⟩
set_option maxHeartbeats 8000000 in
theorem lw_wishm {as : List rv_A} {σ σ' : Nat → Int} {o : rv_O} {x : Int32} {a1 a2 : Int} (hx : o.1 = some (.inl x)) (h1 : lw_av as 1 = a1) (h2 : lw_av as 2 = a2) (hb : ∀ s, (sx_sr s).1 ≤ σ s ∧ σ s ≤ (sx_sr s).2) (h : lw_Qc sx_c345 as σ σ' o) : (((0 ≤ a1 ∧ a1 < σ 12804 ∧ 0 ≤ a2 ∧ a2 ≤ σ 12814) ∧ σ' 12814 = 0) ∨ (¬ (0 ≤ a1 ∧ a1 < σ 12804 ∧ 0 ≤ a2 ∧ a2 ≤ σ 12814) ∧ σ' 12814 = σ 12814)) ∧ σ' 133 = σ 133 ∧ σ' 12804 = σ 12804 ∧ σ' 134 = σ 134 ∧ σ' 12805 = σ 12805 ∧ σ' 10250 = σ 10250 ∧ σ' 18520 = σ 18520 ∧ σ' 18528 = σ 18528 ∧ σ' 18521 = σ 18521 ∧ σ' 18529 = σ 18529 ∧ σ' 18522 = σ 18522 ∧ σ' 18530 = σ 18530 ∧ σ' 18523 = σ 18523 ∧ σ' 18531 = σ 18531 ∧ σ' 18524 = σ 18524 ∧ σ' 18532 = σ 18532 ∧ σ' 18525 = σ 18525 ∧ σ' 18533 = σ 18533 ∧ σ' 18526 = σ 18526 ∧ σ' 18534 = σ 18534 ∧ σ' 18527 = σ 18527 ∧ σ' 18535 = σ 18535 := by
  have b12804 : 0 ≤ σ 12804 ∧ σ 12804 ≤ 8 := by
    have h0 := hb 12804
    rw [show sx_sr 12804 = (0, 8) from by decide +kernel] at h0
    exact h0
  have b12805 : 0 ≤ σ 12805 ∧ σ 12805 ≤ 12 := by
    have h0 := hb 12805
    rw [show sx_sr 12805 = (0, 12) from by decide +kernel] at h0
    exact h0
  have b12814 : 0 ≤ σ 12814 ∧ σ 12814 ≤ 300 := by
    have h0 := hb 12814
    rw [show sx_sr 12814 = (0, 300) from by decide +kernel] at h0
    exact h0
  obtain ⟨g, hg, τ, hs, ht, hf, hr, hm, hw⟩ := h
  have e1 : τ 19001 = a1 := by rw [ht 19001 (by decide) (by decide)]; exact h1
  have e2 : τ 19002 = a2 := by rw [ht 19002 (by decide) (by decide)]; exact h2
  have s133 : τ 133 = σ 133 := hs 133 (by decide)
  have s134 : τ 134 = σ 134 := hs 134 (by decide)
  have s10250 : τ 10250 = σ 10250 := hs 10250 (by decide)
  have s12804 : τ 12804 = σ 12804 := hs 12804 (by decide)
  have s12805 : τ 12805 = σ 12805 := hs 12805 (by decide)
  have s12814 : τ 12814 = σ 12814 := hs 12814 (by decide)
  have s18520 : τ 18520 = σ 18520 := hs 18520 (by decide)
  have s18521 : τ 18521 = σ 18521 := hs 18521 (by decide)
  have s18522 : τ 18522 = σ 18522 := hs 18522 (by decide)
  have s18523 : τ 18523 = σ 18523 := hs 18523 (by decide)
  have s18524 : τ 18524 = σ 18524 := hs 18524 (by decide)
  have s18525 : τ 18525 = σ 18525 := hs 18525 (by decide)
  have s18526 : τ 18526 = σ 18526 := hs 18526 (by decide)
  have s18527 : τ 18527 = σ 18527 := hs 18527 (by decide)
  have s18528 : τ 18528 = σ 18528 := hs 18528 (by decide)
  have s18529 : τ 18529 = σ 18529 := hs 18529 (by decide)
  have s18530 : τ 18530 = σ 18530 := hs 18530 (by decide)
  have s18531 : τ 18531 = σ 18531 := hs 18531 (by decide)
  have s18532 : τ 18532 = σ 18532 := hs 18532 (by decide)
  have s18533 : τ 18533 = σ 18533 := hs 18533 (by decide)
  have s18534 : τ 18534 = σ 18534 := hs 18534 (by decide)
  have s18535 : τ 18535 = σ 18535 := hs 18535 (by decide)
  clear hb ht
  rw [hx] at hr
  simp only [sx_c345, List.mem_cons, List.not_mem_nil, or_false] at hg
  rcases hg with rfl | rfl | rfl | rfl | rfl
  · obtain ⟨y, hy, hv⟩ := hr
    cases hy
    replace hv : x.toInt = (-1) + 0 := hv
    have f0 : 0 ≤ (-1) + (1 * τ 12804 + 0) := hf _ (List.Mem.head _)
    have f1 : 0 ≤ 0 + (1 * τ 19001 + 0) := hf _ (List.Mem.tail _ (List.Mem.head _))
    have f2 : 0 ≤ 7 + ((-1) * τ 19001 + 0) := hf _ (List.Mem.tail _ (List.Mem.tail _ (List.Mem.head _)))
    have f3 : 0 ≤ (-1) + ((-1) * τ 19002 + 0) := hf _ (List.Mem.tail _ (List.Mem.tail _ (List.Mem.tail _ (List.Mem.head _))))
    have f4 : 0 ≤ (-1) + (1 * τ 12804 + ((-1) * τ 19001 + 0)) := hf _ (List.Mem.tail _ (List.Mem.tail _ (List.Mem.tail _ (List.Mem.tail _ (List.Mem.head _)))))
    have m12814 : σ' 12814 = 0 + (1 * τ 12814 + 0) := hm 12814 (by decide)
    refine ⟨?_, lw_id s133 (hm 133 (by decide)), lw_id s12804 (hm 12804 (by decide)), lw_id s134 (hm 134 (by decide)), lw_id s12805 (hm 12805 (by decide)), lw_id s10250 (hm 10250 (by decide)), lw_id s18520 (hm 18520 (by decide)), lw_id s18528 (hm 18528 (by decide)), lw_id s18521 (hm 18521 (by decide)), lw_id s18529 (hm 18529 (by decide)), lw_id s18522 (hm 18522 (by decide)), lw_id s18530 (hm 18530 (by decide)), lw_id s18523 (hm 18523 (by decide)), lw_id s18531 (hm 18531 (by decide)), lw_id s18524 (hm 18524 (by decide)), lw_id s18532 (hm 18532 (by decide)), lw_id s18525 (hm 18525 (by decide)), lw_id s18533 (hm 18533 (by decide)), lw_id s18526 (hm 18526 (by decide)), lw_id s18534 (hm 18534 (by decide)), lw_id s18527 (hm 18527 (by decide)), lw_id s18535 (hm 18535 (by decide))⟩
    clear hf hm hs
    exact Or.inr ⟨fun h => (by omega), by omega⟩
  · obtain ⟨y, hy, hv⟩ := hr
    cases hy
    replace hv : x.toInt = (-1) + 0 := hv
    have f0 : 0 ≤ (-1) + (1 * τ 12804 + 0) := hf _ (List.Mem.head _)
    have f1 : 0 ≤ 0 + (1 * τ 19001 + 0) := hf _ (List.Mem.tail _ (List.Mem.head _))
    have f2 : 0 ≤ 7 + ((-1) * τ 19001 + 0) := hf _ (List.Mem.tail _ (List.Mem.tail _ (List.Mem.head _)))
    have f3 : 0 ≤ (-1) + (1 * τ 19002 + 0) := hf _ (List.Mem.tail _ (List.Mem.tail _ (List.Mem.tail _ (List.Mem.head _))))
    have f4 : 0 ≤ (-1) + ((-1) * τ 12814 + (1 * τ 19002 + 0)) := hf _ (List.Mem.tail _ (List.Mem.tail _ (List.Mem.tail _ (List.Mem.tail _ (List.Mem.head _)))))
    have f5 : 0 ≤ (-1) + (1 * τ 12804 + ((-1) * τ 19001 + 0)) := hf _ (List.Mem.tail _ (List.Mem.tail _ (List.Mem.tail _ (List.Mem.tail _ (List.Mem.tail _ (List.Mem.head _))))))
    have m12814 : σ' 12814 = 0 + (1 * τ 12814 + 0) := hm 12814 (by decide)
    refine ⟨?_, lw_id s133 (hm 133 (by decide)), lw_id s12804 (hm 12804 (by decide)), lw_id s134 (hm 134 (by decide)), lw_id s12805 (hm 12805 (by decide)), lw_id s10250 (hm 10250 (by decide)), lw_id s18520 (hm 18520 (by decide)), lw_id s18528 (hm 18528 (by decide)), lw_id s18521 (hm 18521 (by decide)), lw_id s18529 (hm 18529 (by decide)), lw_id s18522 (hm 18522 (by decide)), lw_id s18530 (hm 18530 (by decide)), lw_id s18523 (hm 18523 (by decide)), lw_id s18531 (hm 18531 (by decide)), lw_id s18524 (hm 18524 (by decide)), lw_id s18532 (hm 18532 (by decide)), lw_id s18525 (hm 18525 (by decide)), lw_id s18533 (hm 18533 (by decide)), lw_id s18526 (hm 18526 (by decide)), lw_id s18534 (hm 18534 (by decide)), lw_id s18527 (hm 18527 (by decide)), lw_id s18535 (hm 18535 (by decide))⟩
    clear hf hm hs
    exact Or.inr ⟨fun h => (by omega), by omega⟩
  · obtain ⟨y, hy, hv⟩ := hr
    cases hy
    replace hv : x.toInt = (-1) + 0 := hv
    have f0 : 0 ≤ (-1) + ((-1) * τ 19001 + 0) := hf _ (List.Mem.head _)
    have m12814 : σ' 12814 = 0 + (1 * τ 12814 + 0) := hm 12814 (by decide)
    refine ⟨?_, lw_id s133 (hm 133 (by decide)), lw_id s12804 (hm 12804 (by decide)), lw_id s134 (hm 134 (by decide)), lw_id s12805 (hm 12805 (by decide)), lw_id s10250 (hm 10250 (by decide)), lw_id s18520 (hm 18520 (by decide)), lw_id s18528 (hm 18528 (by decide)), lw_id s18521 (hm 18521 (by decide)), lw_id s18529 (hm 18529 (by decide)), lw_id s18522 (hm 18522 (by decide)), lw_id s18530 (hm 18530 (by decide)), lw_id s18523 (hm 18523 (by decide)), lw_id s18531 (hm 18531 (by decide)), lw_id s18524 (hm 18524 (by decide)), lw_id s18532 (hm 18532 (by decide)), lw_id s18525 (hm 18525 (by decide)), lw_id s18533 (hm 18533 (by decide)), lw_id s18526 (hm 18526 (by decide)), lw_id s18534 (hm 18534 (by decide)), lw_id s18527 (hm 18527 (by decide)), lw_id s18535 (hm 18535 (by decide))⟩
    clear hf hm hs
    exact Or.inr ⟨fun h => (by omega), by omega⟩
  · obtain ⟨y, hy, hv⟩ := hr
    cases hy
    replace hv : x.toInt = (-1) + 0 := hv
    have f0 : 0 ≤ 0 + (1 * τ 19001 + 0) := hf _ (List.Mem.head _)
    have f1 : 0 ≤ 0 + ((-1) * τ 12804 + (1 * τ 19001 + 0)) := hf _ (List.Mem.tail _ (List.Mem.head _))
    have m12814 : σ' 12814 = 0 + (1 * τ 12814 + 0) := hm 12814 (by decide)
    refine ⟨?_, lw_id s133 (hm 133 (by decide)), lw_id s12804 (hm 12804 (by decide)), lw_id s134 (hm 134 (by decide)), lw_id s12805 (hm 12805 (by decide)), lw_id s10250 (hm 10250 (by decide)), lw_id s18520 (hm 18520 (by decide)), lw_id s18528 (hm 18528 (by decide)), lw_id s18521 (hm 18521 (by decide)), lw_id s18529 (hm 18529 (by decide)), lw_id s18522 (hm 18522 (by decide)), lw_id s18530 (hm 18530 (by decide)), lw_id s18523 (hm 18523 (by decide)), lw_id s18531 (hm 18531 (by decide)), lw_id s18524 (hm 18524 (by decide)), lw_id s18532 (hm 18532 (by decide)), lw_id s18525 (hm 18525 (by decide)), lw_id s18533 (hm 18533 (by decide)), lw_id s18526 (hm 18526 (by decide)), lw_id s18534 (hm 18534 (by decide)), lw_id s18527 (hm 18527 (by decide)), lw_id s18535 (hm 18535 (by decide))⟩
    clear hf hm hs
    exact Or.inr ⟨fun h => (by omega), by omega⟩
  · obtain ⟨y, hy, hv⟩ := hr
    cases hy
    replace hv : x.toInt = 0 + (1 * τ 1000059 + 0) := hv
    have f0 : 0 ≤ 1 + ((-1) * τ 18439 + (1 * τ 1000011 + 0)) := hf _ (List.Mem.head _)
    have f1 : 0 ≤ 1 + (1 * τ 18439 + ((-1) * τ 1000011 + 0)) := hf _ (List.Mem.tail _ (List.Mem.head _))
    have f2 : 0 ≤ 1 + ((-1) * τ 18440 + (1 * τ 1000012 + 0)) := hf _ (List.Mem.tail _ (List.Mem.tail _ (List.Mem.head _)))
    have f3 : 0 ≤ 1 + (1 * τ 18440 + ((-1) * τ 1000012 + 0)) := hf _ (List.Mem.tail _ (List.Mem.tail _ (List.Mem.tail _ (List.Mem.head _))))
    have f4 : 0 ≤ 1 + ((-1) * τ 18441 + (1 * τ 1000013 + 0)) := hf _ (List.Mem.tail _ (List.Mem.tail _ (List.Mem.tail _ (List.Mem.tail _ (List.Mem.head _)))))
    have f5 : 0 ≤ 1 + (1 * τ 18441 + ((-1) * τ 1000013 + 0)) := hf _ (List.Mem.tail _ (List.Mem.tail _ (List.Mem.tail _ (List.Mem.tail _ (List.Mem.tail _ (List.Mem.head _))))))
    have f6 : 0 ≤ 1 + ((-1) * τ 18442 + (1 * τ 1000014 + 0)) := hf _ (List.Mem.tail _ (List.Mem.tail _ (List.Mem.tail _ (List.Mem.tail _ (List.Mem.tail _ (List.Mem.tail _ (List.Mem.head _)))))))
    have f7 : 0 ≤ 1 + (1 * τ 18442 + ((-1) * τ 1000014 + 0)) := hf _ (List.Mem.tail _ (List.Mem.tail _ (List.Mem.tail _ (List.Mem.tail _ (List.Mem.tail _ (List.Mem.tail _ (List.Mem.tail _ (List.Mem.head _))))))))
    have f8 : 0 ≤ 1 + ((-1) * τ 18443 + (1 * τ 1000015 + 0)) := hf _ (List.Mem.tail _ (List.Mem.tail _ (List.Mem.tail _ (List.Mem.tail _ (List.Mem.tail _ (List.Mem.tail _ (List.Mem.tail _ (List.Mem.tail _ (List.Mem.head _)))))))))
    have f9 : 0 ≤ 1 + (1 * τ 18443 + ((-1) * τ 1000015 + 0)) := hf _ (List.Mem.tail _ (List.Mem.tail _ (List.Mem.tail _ (List.Mem.tail _ (List.Mem.tail _ (List.Mem.tail _ (List.Mem.tail _ (List.Mem.tail _ (List.Mem.tail _ (List.Mem.head _))))))))))
    have f10 : 0 ≤ 1 + ((-1) * τ 18444 + (1 * τ 1000016 + 0)) := hf _ (List.Mem.tail _ (List.Mem.tail _ (List.Mem.tail _ (List.Mem.tail _ (List.Mem.tail _ (List.Mem.tail _ (List.Mem.tail _ (List.Mem.tail _ (List.Mem.tail _ (List.Mem.tail _ (List.Mem.head _)))))))))))
    have f11 : 0 ≤ 1 + (1 * τ 18444 + ((-1) * τ 1000016 + 0)) := hf _ (List.Mem.tail _ (List.Mem.tail _ (List.Mem.tail _ (List.Mem.tail _ (List.Mem.tail _ (List.Mem.tail _ (List.Mem.tail _ (List.Mem.tail _ (List.Mem.tail _ (List.Mem.tail _ (List.Mem.tail _ (List.Mem.head _))))))))))))
    have f12 : 0 ≤ 1 + ((-1) * τ 18445 + (1 * τ 1000017 + 0)) := hf _ (List.Mem.tail _ (List.Mem.tail _ (List.Mem.tail _ (List.Mem.tail _ (List.Mem.tail _ (List.Mem.tail _ (List.Mem.tail _ (List.Mem.tail _ (List.Mem.tail _ (List.Mem.tail _ (List.Mem.tail _ (List.Mem.tail _ (List.Mem.head _)))))))))))))
    have f13 : 0 ≤ 1 + (1 * τ 18445 + ((-1) * τ 1000017 + 0)) := hf _ (List.Mem.tail _ (List.Mem.tail _ (List.Mem.tail _ (List.Mem.tail _ (List.Mem.tail _ (List.Mem.tail _ (List.Mem.tail _ (List.Mem.tail _ (List.Mem.tail _ (List.Mem.tail _ (List.Mem.tail _ (List.Mem.tail _ (List.Mem.tail _ (List.Mem.head _))))))))))))))
    have f14 : 0 ≤ 1 + ((-1) * τ 18446 + (1 * τ 1000018 + 0)) := hf _ (List.Mem.tail _ (List.Mem.tail _ (List.Mem.tail _ (List.Mem.tail _ (List.Mem.tail _ (List.Mem.tail _ (List.Mem.tail _ (List.Mem.tail _ (List.Mem.tail _ (List.Mem.tail _ (List.Mem.tail _ (List.Mem.tail _ (List.Mem.tail _ (List.Mem.tail _ (List.Mem.head _)))))))))))))))
    have f15 : 0 ≤ 1 + (1 * τ 18446 + ((-1) * τ 1000018 + 0)) := hf _ (List.Mem.tail _ (List.Mem.tail _ (List.Mem.tail _ (List.Mem.tail _ (List.Mem.tail _ (List.Mem.tail _ (List.Mem.tail _ (List.Mem.tail _ (List.Mem.tail _ (List.Mem.tail _ (List.Mem.tail _ (List.Mem.tail _ (List.Mem.tail _ (List.Mem.tail _ (List.Mem.tail _ (List.Mem.head _))))))))))))))))
    have f16 : 0 ≤ 1 + ((-1) * τ 18447 + (1 * τ 1000019 + 0)) := hf _ (List.Mem.tail _ (List.Mem.tail _ (List.Mem.tail _ (List.Mem.tail _ (List.Mem.tail _ (List.Mem.tail _ (List.Mem.tail _ (List.Mem.tail _ (List.Mem.tail _ (List.Mem.tail _ (List.Mem.tail _ (List.Mem.tail _ (List.Mem.tail _ (List.Mem.tail _ (List.Mem.tail _ (List.Mem.tail _ (List.Mem.head _)))))))))))))))))
    have f17 : 0 ≤ 1 + (1 * τ 18447 + ((-1) * τ 1000019 + 0)) := hf _ (List.Mem.tail _ (List.Mem.tail _ (List.Mem.tail _ (List.Mem.tail _ (List.Mem.tail _ (List.Mem.tail _ (List.Mem.tail _ (List.Mem.tail _ (List.Mem.tail _ (List.Mem.tail _ (List.Mem.tail _ (List.Mem.tail _ (List.Mem.tail _ (List.Mem.tail _ (List.Mem.tail _ (List.Mem.tail _ (List.Mem.tail _ (List.Mem.head _))))))))))))))))))
    have f18 : 0 ≤ 1 + ((-1) * τ 18448 + (1 * τ 1000020 + 0)) := hf _ (List.Mem.tail _ (List.Mem.tail _ (List.Mem.tail _ (List.Mem.tail _ (List.Mem.tail _ (List.Mem.tail _ (List.Mem.tail _ (List.Mem.tail _ (List.Mem.tail _ (List.Mem.tail _ (List.Mem.tail _ (List.Mem.tail _ (List.Mem.tail _ (List.Mem.tail _ (List.Mem.tail _ (List.Mem.tail _ (List.Mem.tail _ (List.Mem.tail _ (List.Mem.head _)))))))))))))))))))
    have f19 : 0 ≤ 1 + (1 * τ 18448 + ((-1) * τ 1000020 + 0)) := hf _ (List.Mem.tail _ (List.Mem.tail _ (List.Mem.tail _ (List.Mem.tail _ (List.Mem.tail _ (List.Mem.tail _ (List.Mem.tail _ (List.Mem.tail _ (List.Mem.tail _ (List.Mem.tail _ (List.Mem.tail _ (List.Mem.tail _ (List.Mem.tail _ (List.Mem.tail _ (List.Mem.tail _ (List.Mem.tail _ (List.Mem.tail _ (List.Mem.tail _ (List.Mem.tail _ (List.Mem.head _))))))))))))))))))))
    have f20 : 0 ≤ 1 + ((-1) * τ 18449 + (1 * τ 1000021 + 0)) := hf _ (List.Mem.tail _ (List.Mem.tail _ (List.Mem.tail _ (List.Mem.tail _ (List.Mem.tail _ (List.Mem.tail _ (List.Mem.tail _ (List.Mem.tail _ (List.Mem.tail _ (List.Mem.tail _ (List.Mem.tail _ (List.Mem.tail _ (List.Mem.tail _ (List.Mem.tail _ (List.Mem.tail _ (List.Mem.tail _ (List.Mem.tail _ (List.Mem.tail _ (List.Mem.tail _ (List.Mem.tail _ (List.Mem.head _)))))))))))))))))))))
    have f21 : 0 ≤ 1 + (1 * τ 18449 + ((-1) * τ 1000021 + 0)) := hf _ (List.Mem.tail _ (List.Mem.tail _ (List.Mem.tail _ (List.Mem.tail _ (List.Mem.tail _ (List.Mem.tail _ (List.Mem.tail _ (List.Mem.tail _ (List.Mem.tail _ (List.Mem.tail _ (List.Mem.tail _ (List.Mem.tail _ (List.Mem.tail _ (List.Mem.tail _ (List.Mem.tail _ (List.Mem.tail _ (List.Mem.tail _ (List.Mem.tail _ (List.Mem.tail _ (List.Mem.tail _ (List.Mem.tail _ (List.Mem.head _))))))))))))))))))))))
    have f22 : 0 ≤ 1 + ((-1) * τ 18450 + (1 * τ 1000022 + 0)) := hf _ (List.Mem.tail _ (List.Mem.tail _ (List.Mem.tail _ (List.Mem.tail _ (List.Mem.tail _ (List.Mem.tail _ (List.Mem.tail _ (List.Mem.tail _ (List.Mem.tail _ (List.Mem.tail _ (List.Mem.tail _ (List.Mem.tail _ (List.Mem.tail _ (List.Mem.tail _ (List.Mem.tail _ (List.Mem.tail _ (List.Mem.tail _ (List.Mem.tail _ (List.Mem.tail _ (List.Mem.tail _ (List.Mem.tail _ (List.Mem.tail _ (List.Mem.head _)))))))))))))))))))))))
    have f23 : 0 ≤ 1 + (1 * τ 18450 + ((-1) * τ 1000022 + 0)) := hf _ (List.Mem.tail _ (List.Mem.tail _ (List.Mem.tail _ (List.Mem.tail _ (List.Mem.tail _ (List.Mem.tail _ (List.Mem.tail _ (List.Mem.tail _ (List.Mem.tail _ (List.Mem.tail _ (List.Mem.tail _ (List.Mem.tail _ (List.Mem.tail _ (List.Mem.tail _ (List.Mem.tail _ (List.Mem.tail _ (List.Mem.tail _ (List.Mem.tail _ (List.Mem.tail _ (List.Mem.tail _ (List.Mem.tail _ (List.Mem.tail _ (List.Mem.tail _ (List.Mem.head _))))))))))))))))))))))))
    have f24 : 0 ≤ 1 + ((-1) * τ 18451 + (1 * τ 1000023 + 0)) := hf _ (List.Mem.tail _ (List.Mem.tail _ (List.Mem.tail _ (List.Mem.tail _ (List.Mem.tail _ (List.Mem.tail _ (List.Mem.tail _ (List.Mem.tail _ (List.Mem.tail _ (List.Mem.tail _ (List.Mem.tail _ (List.Mem.tail _ (List.Mem.tail _ (List.Mem.tail _ (List.Mem.tail _ (List.Mem.tail _ (List.Mem.tail _ (List.Mem.tail _ (List.Mem.tail _ (List.Mem.tail _ (List.Mem.tail _ (List.Mem.tail _ (List.Mem.tail _ (List.Mem.tail _ (List.Mem.head _)))))))))))))))))))))))))
    have f25 : 0 ≤ 1 + (1 * τ 18451 + ((-1) * τ 1000023 + 0)) := hf _ (List.Mem.tail _ (List.Mem.tail _ (List.Mem.tail _ (List.Mem.tail _ (List.Mem.tail _ (List.Mem.tail _ (List.Mem.tail _ (List.Mem.tail _ (List.Mem.tail _ (List.Mem.tail _ (List.Mem.tail _ (List.Mem.tail _ (List.Mem.tail _ (List.Mem.tail _ (List.Mem.tail _ (List.Mem.tail _ (List.Mem.tail _ (List.Mem.tail _ (List.Mem.tail _ (List.Mem.tail _ (List.Mem.tail _ (List.Mem.tail _ (List.Mem.tail _ (List.Mem.tail _ (List.Mem.tail _ (List.Mem.head _))))))))))))))))))))))))))
    have f26 : 0 ≤ 1 + ((-1) * τ 18452 + (1 * τ 1000024 + 0)) := hf _ (List.Mem.tail _ (List.Mem.tail _ (List.Mem.tail _ (List.Mem.tail _ (List.Mem.tail _ (List.Mem.tail _ (List.Mem.tail _ (List.Mem.tail _ (List.Mem.tail _ (List.Mem.tail _ (List.Mem.tail _ (List.Mem.tail _ (List.Mem.tail _ (List.Mem.tail _ (List.Mem.tail _ (List.Mem.tail _ (List.Mem.tail _ (List.Mem.tail _ (List.Mem.tail _ (List.Mem.tail _ (List.Mem.tail _ (List.Mem.tail _ (List.Mem.tail _ (List.Mem.tail _ (List.Mem.tail _ (List.Mem.tail _ (List.Mem.head _)))))))))))))))))))))))))))
    have f27 : 0 ≤ 1 + (1 * τ 18452 + ((-1) * τ 1000024 + 0)) := hf _ (List.Mem.tail _ (List.Mem.tail _ (List.Mem.tail _ (List.Mem.tail _ (List.Mem.tail _ (List.Mem.tail _ (List.Mem.tail _ (List.Mem.tail _ (List.Mem.tail _ (List.Mem.tail _ (List.Mem.tail _ (List.Mem.tail _ (List.Mem.tail _ (List.Mem.tail _ (List.Mem.tail _ (List.Mem.tail _ (List.Mem.tail _ (List.Mem.tail _ (List.Mem.tail _ (List.Mem.tail _ (List.Mem.tail _ (List.Mem.tail _ (List.Mem.tail _ (List.Mem.tail _ (List.Mem.tail _ (List.Mem.tail _ (List.Mem.tail _ (List.Mem.head _))))))))))))))))))))))))))))
    have f28 : 0 ≤ (-1) + (1 * τ 12804 + 0) := hf _ (List.Mem.tail _ (List.Mem.tail _ (List.Mem.tail _ (List.Mem.tail _ (List.Mem.tail _ (List.Mem.tail _ (List.Mem.tail _ (List.Mem.tail _ (List.Mem.tail _ (List.Mem.tail _ (List.Mem.tail _ (List.Mem.tail _ (List.Mem.tail _ (List.Mem.tail _ (List.Mem.tail _ (List.Mem.tail _ (List.Mem.tail _ (List.Mem.tail _ (List.Mem.tail _ (List.Mem.tail _ (List.Mem.tail _ (List.Mem.tail _ (List.Mem.tail _ (List.Mem.tail _ (List.Mem.tail _ (List.Mem.tail _ (List.Mem.tail _ (List.Mem.tail _ (List.Mem.head _)))))))))))))))))))))))))))))
    have f29 : 0 ≤ 0 + (1 * τ 19001 + 0) := hf _ (List.Mem.tail _ (List.Mem.tail _ (List.Mem.tail _ (List.Mem.tail _ (List.Mem.tail _ (List.Mem.tail _ (List.Mem.tail _ (List.Mem.tail _ (List.Mem.tail _ (List.Mem.tail _ (List.Mem.tail _ (List.Mem.tail _ (List.Mem.tail _ (List.Mem.tail _ (List.Mem.tail _ (List.Mem.tail _ (List.Mem.tail _ (List.Mem.tail _ (List.Mem.tail _ (List.Mem.tail _ (List.Mem.tail _ (List.Mem.tail _ (List.Mem.tail _ (List.Mem.tail _ (List.Mem.tail _ (List.Mem.tail _ (List.Mem.tail _ (List.Mem.tail _ (List.Mem.tail _ (List.Mem.head _))))))))))))))))))))))))))))))
    have f30 : 0 ≤ 7 + ((-1) * τ 19001 + 0) := hf _ (List.Mem.tail _ (List.Mem.tail _ (List.Mem.tail _ (List.Mem.tail _ (List.Mem.tail _ (List.Mem.tail _ (List.Mem.tail _ (List.Mem.tail _ (List.Mem.tail _ (List.Mem.tail _ (List.Mem.tail _ (List.Mem.tail _ (List.Mem.tail _ (List.Mem.tail _ (List.Mem.tail _ (List.Mem.tail _ (List.Mem.tail _ (List.Mem.tail _ (List.Mem.tail _ (List.Mem.tail _ (List.Mem.tail _ (List.Mem.tail _ (List.Mem.tail _ (List.Mem.tail _ (List.Mem.tail _ (List.Mem.tail _ (List.Mem.tail _ (List.Mem.tail _ (List.Mem.tail _ (List.Mem.tail _ (List.Mem.head _)))))))))))))))))))))))))))))))
    have f31 : 0 ≤ 0 + (1 * τ 19002 + 0) := hf _ (List.Mem.tail _ (List.Mem.tail _ (List.Mem.tail _ (List.Mem.tail _ (List.Mem.tail _ (List.Mem.tail _ (List.Mem.tail _ (List.Mem.tail _ (List.Mem.tail _ (List.Mem.tail _ (List.Mem.tail _ (List.Mem.tail _ (List.Mem.tail _ (List.Mem.tail _ (List.Mem.tail _ (List.Mem.tail _ (List.Mem.tail _ (List.Mem.tail _ (List.Mem.tail _ (List.Mem.tail _ (List.Mem.tail _ (List.Mem.tail _ (List.Mem.tail _ (List.Mem.tail _ (List.Mem.tail _ (List.Mem.tail _ (List.Mem.tail _ (List.Mem.tail _ (List.Mem.tail _ (List.Mem.tail _ (List.Mem.tail _ (List.Mem.head _))))))))))))))))))))))))))))))))
    have f32 : 0 ≤ 300 + ((-1) * τ 19002 + 0) := hf _ (List.Mem.tail _ (List.Mem.tail _ (List.Mem.tail _ (List.Mem.tail _ (List.Mem.tail _ (List.Mem.tail _ (List.Mem.tail _ (List.Mem.tail _ (List.Mem.tail _ (List.Mem.tail _ (List.Mem.tail _ (List.Mem.tail _ (List.Mem.tail _ (List.Mem.tail _ (List.Mem.tail _ (List.Mem.tail _ (List.Mem.tail _ (List.Mem.tail _ (List.Mem.tail _ (List.Mem.tail _ (List.Mem.tail _ (List.Mem.tail _ (List.Mem.tail _ (List.Mem.tail _ (List.Mem.tail _ (List.Mem.tail _ (List.Mem.tail _ (List.Mem.tail _ (List.Mem.tail _ (List.Mem.tail _ (List.Mem.tail _ (List.Mem.tail _ (List.Mem.head _)))))))))))))))))))))))))))))))))
    have f33 : 0 ≤ (-1) + (1 * τ 12804 + ((-1) * τ 19001 + 0)) := hf _ (List.Mem.tail _ (List.Mem.tail _ (List.Mem.tail _ (List.Mem.tail _ (List.Mem.tail _ (List.Mem.tail _ (List.Mem.tail _ (List.Mem.tail _ (List.Mem.tail _ (List.Mem.tail _ (List.Mem.tail _ (List.Mem.tail _ (List.Mem.tail _ (List.Mem.tail _ (List.Mem.tail _ (List.Mem.tail _ (List.Mem.tail _ (List.Mem.tail _ (List.Mem.tail _ (List.Mem.tail _ (List.Mem.tail _ (List.Mem.tail _ (List.Mem.tail _ (List.Mem.tail _ (List.Mem.tail _ (List.Mem.tail _ (List.Mem.tail _ (List.Mem.tail _ (List.Mem.tail _ (List.Mem.tail _ (List.Mem.tail _ (List.Mem.tail _ (List.Mem.tail _ (List.Mem.head _))))))))))))))))))))))))))))))))))
    have f34 : 0 ≤ 0 + (1 * τ 12814 + ((-1) * τ 19002 + 0)) := hf _ (List.Mem.tail _ (List.Mem.tail _ (List.Mem.tail _ (List.Mem.tail _ (List.Mem.tail _ (List.Mem.tail _ (List.Mem.tail _ (List.Mem.tail _ (List.Mem.tail _ (List.Mem.tail _ (List.Mem.tail _ (List.Mem.tail _ (List.Mem.tail _ (List.Mem.tail _ (List.Mem.tail _ (List.Mem.tail _ (List.Mem.tail _ (List.Mem.tail _ (List.Mem.tail _ (List.Mem.tail _ (List.Mem.tail _ (List.Mem.tail _ (List.Mem.tail _ (List.Mem.tail _ (List.Mem.tail _ (List.Mem.tail _ (List.Mem.tail _ (List.Mem.tail _ (List.Mem.tail _ (List.Mem.tail _ (List.Mem.tail _ (List.Mem.tail _ (List.Mem.tail _ (List.Mem.tail _ (List.Mem.head _)))))))))))))))))))))))))))))))))))
    have m12814 : σ' 12814 = 0 + 0 := hm 12814 (by decide)
    refine ⟨?_, lw_id s133 (hm 133 (by decide)), lw_id s12804 (hm 12804 (by decide)), lw_id s134 (hm 134 (by decide)), lw_id s12805 (hm 12805 (by decide)), lw_id s10250 (hm 10250 (by decide)), lw_id s18520 (hm 18520 (by decide)), lw_id s18528 (hm 18528 (by decide)), lw_id s18521 (hm 18521 (by decide)), lw_id s18529 (hm 18529 (by decide)), lw_id s18522 (hm 18522 (by decide)), lw_id s18530 (hm 18530 (by decide)), lw_id s18523 (hm 18523 (by decide)), lw_id s18531 (hm 18531 (by decide)), lw_id s18524 (hm 18524 (by decide)), lw_id s18532 (hm 18532 (by decide)), lw_id s18525 (hm 18525 (by decide)), lw_id s18533 (hm 18533 (by decide)), lw_id s18526 (hm 18526 (by decide)), lw_id s18534 (hm 18534 (by decide)), lw_id s18527 (hm 18527 (by decide)), lw_id s18535 (hm 18535 (by decide))⟩
    clear hf hm hs
    exact Or.inl ⟨⟨by omega, by omega, by omega, by omega⟩, by omega⟩
set_option maxHeartbeats 8000000 in
theorem lw_pq9 {y1 y2 : Int32} {o1 o2 : rv_O} {h0 : List rv_C} {σ σ1 σ2 : Nat → Int} {z1 z2 : Int32} (hz1 : o1.1 = some (.inl z1)) (hz2 : o2.1 = some (.inl z2)) (h1 : lw_Qc sx_c244 [rv_ref 0, .inl y1, .inl y2] σ σ1 o1) (h2 : lw_Qc sx_c345 [rv_ref 100, .inl y1, .inl y2] σ1 σ2 o2) (hR : lw_R σ) (hJ : lw_Js σ h0) (hJ1 : lw_Js σ1 o1.2) (hJ2 : lw_Js σ2 o2.2) : lw_R σ2 := by
  obtain ⟨g1, u133, u12804, u134, u12805, u12814, u18520, u18528, u18521, u18529, u18522, u18530, u18523, u18531, u18524, u18532, u18525, u18533, u18526, u18534, u18527, u18535⟩ := lw_wishx (a1 := y1.toInt) (a2 := y2.toInt) hz1 rfl rfl hJ.2.1 h1
  obtain ⟨g2, v133, v12804, v134, v12805, v10250, v18520, v18528, v18521, v18529, v18522, v18530, v18523, v18531, v18524, v18532, v18525, v18533, v18526, v18534, v18527, v18535⟩ := lw_wishm (a1 := y1.toInt) (a2 := y2.toInt) hz2 rfl rfl hJ1.2.1 h2
  obtain ⟨r0, r1, r2, k0, k1, k2, k3, k4, k5, k6, k7⟩ := hR
  clear h1 h2 hJ hJ1 hJ2 hz1 hz2
  have e0 := u12804
  have e1 := u12814
  have e2 := v10250
  have hn : σ2 10250 = σ2 12814 := by clear k0 k1 k2 k3 k4 k5 k6 k7 u133 u12804 u134 u12805 u12814 u18520 u18528 u18521 u18529 u18522 u18530 u18523 u18531 u18524 u18532 u18525 u18533 u18526 u18534 u18527 u18535 v133 v12804 v134 v12805 v10250 v18520 v18528 v18521 v18529 v18522 v18530 v18523 v18531 v18524 v18532 v18525 v18533 v18526 v18534 v18527 v18535; omega
  exact ⟨(by rw [v133, u133, v12804, u12804]; exact r0), (by rw [v134, u134, v12805, u12805]; exact r1), hn, (by rw [v133, u133, v18520, u18520, v18528, u18528]; exact k0), (by rw [v133, u133, v18521, u18521, v18529, u18529]; exact k1), (by rw [v133, u133, v18522, u18522, v18530, u18530]; exact k2), (by rw [v133, u133, v18523, u18523, v18531, u18531]; exact k3), (by rw [v133, u133, v18524, u18524, v18532, u18532]; exact k4), (by rw [v133, u133, v18525, u18525, v18533, u18533]; exact k5), (by rw [v133, u133, v18526, u18526, v18534, u18534]; exact k6), (by rw [v133, u133, v18527, u18527, v18535, u18535]; exact k7)⟩
theorem lw_sp9 {y1 y2 : Int32} {o1 o2 : rv_O} {h0 : List rv_C} {σ σ1 σ2 : Nat → Int} {z1 z2 : Int32} (hz1 : o1.1 = some (.inl z1)) (hz2 : o2.1 = some (.inl z2)) (h1 : lw_Qc sx_c244 [rv_ref 0, .inl y1, .inl y2] σ σ1 o1) (h2 : lw_Qc sx_c345 [rv_ref 100, .inl y1, .inl y2] σ1 σ2 o2) (hR : lw_R σ) (hJ : lw_Js σ h0) (hJ1 : lw_Js σ1 o1.2) (hJ2 : lw_Js σ2 o2.2) : lw_R σ2 := lw_pq9 hz1 hz2 h1 h2 hR hJ hJ1 hJ2
