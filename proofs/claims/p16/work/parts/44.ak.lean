theorem lw_mwm_22 {as : List rv_A} {σ σ' : Nat → Int} {o : rv_O} {x : Int32} {a1 a2 : Int} {τ : Nat → Int} (hx : o.1 = some (.inl x)) (h1 : lw_av as 1 = a1) (h2 : lw_av as 2 = a2) (hb : ∀ s, (sx_sr s).1 ≤ σ s ∧ σ s ≤ (sx_sr s).2) (hW : lw_W ([], [((-1), [(12804, 1)]), ((-5), [(12805, 1)]), (5, [(12805, (-1))]), ((-1), [(19001, 1)]), (7, [(19001, (-1))]), (0, [(19002, 1)]), (6, [(19002, (-1))]), ((-1), [(19001, 1), (19002, (-1))]), ((-1), [(12804, 1), (19002, (-1))]), ((-1), [(12804, 1), (19001, (-1))])], [(12800, (0, [])), (12805, (1, [(12805, 1)])), (18557, (0, [(19001, 1)])), (18569, (0, [(19002, 1)])), (18581, (0, [(19003, 1)]))], some (false, (1, []))) as σ σ' τ o) : lw_mwm_C a1 a2 x.toInt σ σ' := by
  unfold lw_mwm_C
  have b12804 : 0 ≤ σ 12804 ∧ σ 12804 ≤ 8 := by
    have h0 := hb 12804
    rw [show sx_sr 12804 = (0, 8) from by decide +kernel] at h0
    exact h0
  have b12805 : 0 ≤ σ 12805 ∧ σ 12805 ≤ 12 := by
    have h0 := hb 12805
    rw [show sx_sr 12805 = (0, 12) from by decide +kernel] at h0
    exact h0
  obtain ⟨hs, ht, hf, hr, hm, hw⟩ := hW
  have e1 : τ 19001 = a1 := by rw [ht 19001 (by decide) (by decide)]; exact h1
  have e2 : τ 19002 = a2 := by rw [ht 19002 (by decide) (by decide)]; exact h2
  have s12804 : τ 12804 = σ 12804 := hs 12804 (by decide)
  have s12805 : τ 12805 = σ 12805 := hs 12805 (by decide)
  clear hs ht hb
  rw [hx] at hr
  obtain ⟨y, hy, hv⟩ := hr
  cases hy
  replace hv : x.toInt = 1 + 0 := hv
  have f0 : 0 ≤ (-1) + (1 * τ 12804 + 0) := hf _ (List.Mem.head _)
  have f1 : 0 ≤ (-5) + (1 * τ 12805 + 0) := hf _ (List.Mem.tail _ (List.Mem.head _))
  have f2 : 0 ≤ 5 + ((-1) * τ 12805 + 0) := hf _ (List.Mem.tail _ (List.Mem.tail _ (List.Mem.head _)))
  have f3 : 0 ≤ (-1) + (1 * τ 19001 + 0) := hf _ (List.Mem.tail _ (List.Mem.tail _ (List.Mem.tail _ (List.Mem.head _))))
  have f4 : 0 ≤ 7 + ((-1) * τ 19001 + 0) := hf _ (List.Mem.tail _ (List.Mem.tail _ (List.Mem.tail _ (List.Mem.tail _ (List.Mem.head _)))))
  have f5 : 0 ≤ 0 + (1 * τ 19002 + 0) := hf _ (List.Mem.tail _ (List.Mem.tail _ (List.Mem.tail _ (List.Mem.tail _ (List.Mem.tail _ (List.Mem.head _))))))
  have f6 : 0 ≤ 6 + ((-1) * τ 19002 + 0) := hf _ (List.Mem.tail _ (List.Mem.tail _ (List.Mem.tail _ (List.Mem.tail _ (List.Mem.tail _ (List.Mem.tail _ (List.Mem.head _)))))))
  have f7 : 0 ≤ (-1) + (1 * τ 19001 + ((-1) * τ 19002 + 0)) := hf _ (List.Mem.tail _ (List.Mem.tail _ (List.Mem.tail _ (List.Mem.tail _ (List.Mem.tail _ (List.Mem.tail _ (List.Mem.tail _ (List.Mem.head _))))))))
  have f8 : 0 ≤ (-1) + (1 * τ 12804 + ((-1) * τ 19002 + 0)) := hf _ (List.Mem.tail _ (List.Mem.tail _ (List.Mem.tail _ (List.Mem.tail _ (List.Mem.tail _ (List.Mem.tail _ (List.Mem.tail _ (List.Mem.tail _ (List.Mem.head _)))))))))
  have f9 : 0 ≤ (-1) + (1 * τ 12804 + ((-1) * τ 19001 + 0)) := hf _ (List.Mem.tail _ (List.Mem.tail _ (List.Mem.tail _ (List.Mem.tail _ (List.Mem.tail _ (List.Mem.tail _ (List.Mem.tail _ (List.Mem.tail _ (List.Mem.tail _ (List.Mem.head _))))))))))
  have m12805 : σ' 12805 = 1 + (1 * τ 12805 + 0) := hm 12805 (by decide)
  clear hf hm
  exact Or.inl ⟨by omega, ⟨by omega, by omega, by omega, by omega, by omega, by omega⟩, by omega⟩
theorem lw_mwm_23 {as : List rv_A} {σ σ' : Nat → Int} {o : rv_O} {x : Int32} {a1 a2 : Int} {τ : Nat → Int} (hx : o.1 = some (.inl x)) (h1 : lw_av as 1 = a1) (h2 : lw_av as 2 = a2) (hb : ∀ s, (sx_sr s).1 ≤ σ s ∧ σ s ≤ (sx_sr s).2) (hW : lw_W ([], [((-1), [(12804, 1)]), ((-6), [(12805, 1)]), (6, [(12805, (-1))]), (0, [(19001, 1)]), (6, [(19001, (-1))]), ((-1), [(19002, 1)]), (7, [(19002, (-1))]), ((-1), [(19001, (-1)), (19002, 1)]), ((-1), [(12804, 1), (19002, (-1))]), ((-1), [(12804, 1), (19001, (-1))])], [(12800, (0, [])), (12805, (1, [(12805, 1)])), (18558, (0, [(19001, 1)])), (18570, (0, [(19002, 1)])), (18582, (0, [(19003, 1)]))], some (false, (1, []))) as σ σ' τ o) : lw_mwm_C a1 a2 x.toInt σ σ' := by
  unfold lw_mwm_C
  have b12804 : 0 ≤ σ 12804 ∧ σ 12804 ≤ 8 := by
    have h0 := hb 12804
    rw [show sx_sr 12804 = (0, 8) from by decide +kernel] at h0
    exact h0
  have b12805 : 0 ≤ σ 12805 ∧ σ 12805 ≤ 12 := by
    have h0 := hb 12805
    rw [show sx_sr 12805 = (0, 12) from by decide +kernel] at h0
    exact h0
  obtain ⟨hs, ht, hf, hr, hm, hw⟩ := hW
  have e1 : τ 19001 = a1 := by rw [ht 19001 (by decide) (by decide)]; exact h1
  have e2 : τ 19002 = a2 := by rw [ht 19002 (by decide) (by decide)]; exact h2
  have s12804 : τ 12804 = σ 12804 := hs 12804 (by decide)
  have s12805 : τ 12805 = σ 12805 := hs 12805 (by decide)
  clear hs ht hb
  rw [hx] at hr
  obtain ⟨y, hy, hv⟩ := hr
  cases hy
  replace hv : x.toInt = 1 + 0 := hv
  have f0 : 0 ≤ (-1) + (1 * τ 12804 + 0) := hf _ (List.Mem.head _)
  have f1 : 0 ≤ (-6) + (1 * τ 12805 + 0) := hf _ (List.Mem.tail _ (List.Mem.head _))
  have f2 : 0 ≤ 6 + ((-1) * τ 12805 + 0) := hf _ (List.Mem.tail _ (List.Mem.tail _ (List.Mem.head _)))
  have f3 : 0 ≤ 0 + (1 * τ 19001 + 0) := hf _ (List.Mem.tail _ (List.Mem.tail _ (List.Mem.tail _ (List.Mem.head _))))
  have f4 : 0 ≤ 6 + ((-1) * τ 19001 + 0) := hf _ (List.Mem.tail _ (List.Mem.tail _ (List.Mem.tail _ (List.Mem.tail _ (List.Mem.head _)))))
  have f5 : 0 ≤ (-1) + (1 * τ 19002 + 0) := hf _ (List.Mem.tail _ (List.Mem.tail _ (List.Mem.tail _ (List.Mem.tail _ (List.Mem.tail _ (List.Mem.head _))))))
  have f6 : 0 ≤ 7 + ((-1) * τ 19002 + 0) := hf _ (List.Mem.tail _ (List.Mem.tail _ (List.Mem.tail _ (List.Mem.tail _ (List.Mem.tail _ (List.Mem.tail _ (List.Mem.head _)))))))
  have f7 : 0 ≤ (-1) + ((-1) * τ 19001 + (1 * τ 19002 + 0)) := hf _ (List.Mem.tail _ (List.Mem.tail _ (List.Mem.tail _ (List.Mem.tail _ (List.Mem.tail _ (List.Mem.tail _ (List.Mem.tail _ (List.Mem.head _))))))))
  have f8 : 0 ≤ (-1) + (1 * τ 12804 + ((-1) * τ 19002 + 0)) := hf _ (List.Mem.tail _ (List.Mem.tail _ (List.Mem.tail _ (List.Mem.tail _ (List.Mem.tail _ (List.Mem.tail _ (List.Mem.tail _ (List.Mem.tail _ (List.Mem.head _)))))))))
  have f9 : 0 ≤ (-1) + (1 * τ 12804 + ((-1) * τ 19001 + 0)) := hf _ (List.Mem.tail _ (List.Mem.tail _ (List.Mem.tail _ (List.Mem.tail _ (List.Mem.tail _ (List.Mem.tail _ (List.Mem.tail _ (List.Mem.tail _ (List.Mem.tail _ (List.Mem.head _))))))))))
  have m12805 : σ' 12805 = 1 + (1 * τ 12805 + 0) := hm 12805 (by decide)
  clear hf hm
  exact Or.inl ⟨by omega, ⟨by omega, by omega, by omega, by omega, by omega, by omega⟩, by omega⟩
theorem lw_mwm_24 {as : List rv_A} {σ σ' : Nat → Int} {o : rv_O} {x : Int32} {a1 a2 : Int} {τ : Nat → Int} (hx : o.1 = some (.inl x)) (h1 : lw_av as 1 = a1) (h2 : lw_av as 2 = a2) (hb : ∀ s, (sx_sr s).1 ≤ σ s ∧ σ s ≤ (sx_sr s).2) (hW : lw_W ([], [((-1), [(12804, 1)]), ((-6), [(12805, 1)]), (6, [(12805, (-1))]), ((-1), [(19001, 1)]), (7, [(19001, (-1))]), (0, [(19002, 1)]), (6, [(19002, (-1))]), ((-1), [(19001, 1), (19002, (-1))]), ((-1), [(12804, 1), (19002, (-1))]), ((-1), [(12804, 1), (19001, (-1))])], [(12800, (0, [])), (12805, (1, [(12805, 1)])), (18558, (0, [(19001, 1)])), (18570, (0, [(19002, 1)])), (18582, (0, [(19003, 1)]))], some (false, (1, []))) as σ σ' τ o) : lw_mwm_C a1 a2 x.toInt σ σ' := by
  unfold lw_mwm_C
  have b12804 : 0 ≤ σ 12804 ∧ σ 12804 ≤ 8 := by
    have h0 := hb 12804
    rw [show sx_sr 12804 = (0, 8) from by decide +kernel] at h0
    exact h0
  have b12805 : 0 ≤ σ 12805 ∧ σ 12805 ≤ 12 := by
    have h0 := hb 12805
    rw [show sx_sr 12805 = (0, 12) from by decide +kernel] at h0
    exact h0
  obtain ⟨hs, ht, hf, hr, hm, hw⟩ := hW
  have e1 : τ 19001 = a1 := by rw [ht 19001 (by decide) (by decide)]; exact h1
  have e2 : τ 19002 = a2 := by rw [ht 19002 (by decide) (by decide)]; exact h2
  have s12804 : τ 12804 = σ 12804 := hs 12804 (by decide)
  have s12805 : τ 12805 = σ 12805 := hs 12805 (by decide)
  clear hs ht hb
  rw [hx] at hr
  obtain ⟨y, hy, hv⟩ := hr
  cases hy
  replace hv : x.toInt = 1 + 0 := hv
  have f0 : 0 ≤ (-1) + (1 * τ 12804 + 0) := hf _ (List.Mem.head _)
  have f1 : 0 ≤ (-6) + (1 * τ 12805 + 0) := hf _ (List.Mem.tail _ (List.Mem.head _))
  have f2 : 0 ≤ 6 + ((-1) * τ 12805 + 0) := hf _ (List.Mem.tail _ (List.Mem.tail _ (List.Mem.head _)))
  have f3 : 0 ≤ (-1) + (1 * τ 19001 + 0) := hf _ (List.Mem.tail _ (List.Mem.tail _ (List.Mem.tail _ (List.Mem.head _))))
  have f4 : 0 ≤ 7 + ((-1) * τ 19001 + 0) := hf _ (List.Mem.tail _ (List.Mem.tail _ (List.Mem.tail _ (List.Mem.tail _ (List.Mem.head _)))))
  have f5 : 0 ≤ 0 + (1 * τ 19002 + 0) := hf _ (List.Mem.tail _ (List.Mem.tail _ (List.Mem.tail _ (List.Mem.tail _ (List.Mem.tail _ (List.Mem.head _))))))
  have f6 : 0 ≤ 6 + ((-1) * τ 19002 + 0) := hf _ (List.Mem.tail _ (List.Mem.tail _ (List.Mem.tail _ (List.Mem.tail _ (List.Mem.tail _ (List.Mem.tail _ (List.Mem.head _)))))))
  have f7 : 0 ≤ (-1) + (1 * τ 19001 + ((-1) * τ 19002 + 0)) := hf _ (List.Mem.tail _ (List.Mem.tail _ (List.Mem.tail _ (List.Mem.tail _ (List.Mem.tail _ (List.Mem.tail _ (List.Mem.tail _ (List.Mem.head _))))))))
  have f8 : 0 ≤ (-1) + (1 * τ 12804 + ((-1) * τ 19002 + 0)) := hf _ (List.Mem.tail _ (List.Mem.tail _ (List.Mem.tail _ (List.Mem.tail _ (List.Mem.tail _ (List.Mem.tail _ (List.Mem.tail _ (List.Mem.tail _ (List.Mem.head _)))))))))
  have f9 : 0 ≤ (-1) + (1 * τ 12804 + ((-1) * τ 19001 + 0)) := hf _ (List.Mem.tail _ (List.Mem.tail _ (List.Mem.tail _ (List.Mem.tail _ (List.Mem.tail _ (List.Mem.tail _ (List.Mem.tail _ (List.Mem.tail _ (List.Mem.tail _ (List.Mem.head _))))))))))
  have m12805 : σ' 12805 = 1 + (1 * τ 12805 + 0) := hm 12805 (by decide)
  clear hf hm
  exact Or.inl ⟨by omega, ⟨by omega, by omega, by omega, by omega, by omega, by omega⟩, by omega⟩
theorem lw_mwm_25 {as : List rv_A} {σ σ' : Nat → Int} {o : rv_O} {x : Int32} {a1 a2 : Int} {τ : Nat → Int} (hx : o.1 = some (.inl x)) (h1 : lw_av as 1 = a1) (h2 : lw_av as 2 = a2) (hb : ∀ s, (sx_sr s).1 ≤ σ s ∧ σ s ≤ (sx_sr s).2) (hW : lw_W ([], [((-1), [(12804, 1)]), ((-7), [(12805, 1)]), (7, [(12805, (-1))]), (0, [(19001, 1)]), (6, [(19001, (-1))]), ((-1), [(19002, 1)]), (7, [(19002, (-1))]), ((-1), [(19001, (-1)), (19002, 1)]), ((-1), [(12804, 1), (19002, (-1))]), ((-1), [(12804, 1), (19001, (-1))])], [(12800, (0, [])), (12805, (1, [(12805, 1)])), (18559, (0, [(19001, 1)])), (18571, (0, [(19002, 1)])), (18583, (0, [(19003, 1)]))], some (false, (1, []))) as σ σ' τ o) : lw_mwm_C a1 a2 x.toInt σ σ' := by
  unfold lw_mwm_C
  have b12804 : 0 ≤ σ 12804 ∧ σ 12804 ≤ 8 := by
    have h0 := hb 12804
    rw [show sx_sr 12804 = (0, 8) from by decide +kernel] at h0
    exact h0
  have b12805 : 0 ≤ σ 12805 ∧ σ 12805 ≤ 12 := by
    have h0 := hb 12805
    rw [show sx_sr 12805 = (0, 12) from by decide +kernel] at h0
    exact h0
  obtain ⟨hs, ht, hf, hr, hm, hw⟩ := hW
  have e1 : τ 19001 = a1 := by rw [ht 19001 (by decide) (by decide)]; exact h1
  have e2 : τ 19002 = a2 := by rw [ht 19002 (by decide) (by decide)]; exact h2
  have s12804 : τ 12804 = σ 12804 := hs 12804 (by decide)
  have s12805 : τ 12805 = σ 12805 := hs 12805 (by decide)
  clear hs ht hb
  rw [hx] at hr
  obtain ⟨y, hy, hv⟩ := hr
  cases hy
  replace hv : x.toInt = 1 + 0 := hv
  have f0 : 0 ≤ (-1) + (1 * τ 12804 + 0) := hf _ (List.Mem.head _)
  have f1 : 0 ≤ (-7) + (1 * τ 12805 + 0) := hf _ (List.Mem.tail _ (List.Mem.head _))
  have f2 : 0 ≤ 7 + ((-1) * τ 12805 + 0) := hf _ (List.Mem.tail _ (List.Mem.tail _ (List.Mem.head _)))
  have f3 : 0 ≤ 0 + (1 * τ 19001 + 0) := hf _ (List.Mem.tail _ (List.Mem.tail _ (List.Mem.tail _ (List.Mem.head _))))
  have f4 : 0 ≤ 6 + ((-1) * τ 19001 + 0) := hf _ (List.Mem.tail _ (List.Mem.tail _ (List.Mem.tail _ (List.Mem.tail _ (List.Mem.head _)))))
  have f5 : 0 ≤ (-1) + (1 * τ 19002 + 0) := hf _ (List.Mem.tail _ (List.Mem.tail _ (List.Mem.tail _ (List.Mem.tail _ (List.Mem.tail _ (List.Mem.head _))))))
  have f6 : 0 ≤ 7 + ((-1) * τ 19002 + 0) := hf _ (List.Mem.tail _ (List.Mem.tail _ (List.Mem.tail _ (List.Mem.tail _ (List.Mem.tail _ (List.Mem.tail _ (List.Mem.head _)))))))
  have f7 : 0 ≤ (-1) + ((-1) * τ 19001 + (1 * τ 19002 + 0)) := hf _ (List.Mem.tail _ (List.Mem.tail _ (List.Mem.tail _ (List.Mem.tail _ (List.Mem.tail _ (List.Mem.tail _ (List.Mem.tail _ (List.Mem.head _))))))))
  have f8 : 0 ≤ (-1) + (1 * τ 12804 + ((-1) * τ 19002 + 0)) := hf _ (List.Mem.tail _ (List.Mem.tail _ (List.Mem.tail _ (List.Mem.tail _ (List.Mem.tail _ (List.Mem.tail _ (List.Mem.tail _ (List.Mem.tail _ (List.Mem.head _)))))))))
  have f9 : 0 ≤ (-1) + (1 * τ 12804 + ((-1) * τ 19001 + 0)) := hf _ (List.Mem.tail _ (List.Mem.tail _ (List.Mem.tail _ (List.Mem.tail _ (List.Mem.tail _ (List.Mem.tail _ (List.Mem.tail _ (List.Mem.tail _ (List.Mem.tail _ (List.Mem.head _))))))))))
  have m12805 : σ' 12805 = 1 + (1 * τ 12805 + 0) := hm 12805 (by decide)
  clear hf hm
  exact Or.inl ⟨by omega, ⟨by omega, by omega, by omega, by omega, by omega, by omega⟩, by omega⟩
theorem lw_mwm_26 {as : List rv_A} {σ σ' : Nat → Int} {o : rv_O} {x : Int32} {a1 a2 : Int} {τ : Nat → Int} (hx : o.1 = some (.inl x)) (h1 : lw_av as 1 = a1) (h2 : lw_av as 2 = a2) (hb : ∀ s, (sx_sr s).1 ≤ σ s ∧ σ s ≤ (sx_sr s).2) (hW : lw_W ([], [((-1), [(12804, 1)]), ((-7), [(12805, 1)]), (7, [(12805, (-1))]), ((-1), [(19001, 1)]), (7, [(19001, (-1))]), (0, [(19002, 1)]), (6, [(19002, (-1))]), ((-1), [(19001, 1), (19002, (-1))]), ((-1), [(12804, 1), (19002, (-1))]), ((-1), [(12804, 1), (19001, (-1))])], [(12800, (0, [])), (12805, (1, [(12805, 1)])), (18559, (0, [(19001, 1)])), (18571, (0, [(19002, 1)])), (18583, (0, [(19003, 1)]))], some (false, (1, []))) as σ σ' τ o) : lw_mwm_C a1 a2 x.toInt σ σ' := by
  unfold lw_mwm_C
  have b12804 : 0 ≤ σ 12804 ∧ σ 12804 ≤ 8 := by
    have h0 := hb 12804
    rw [show sx_sr 12804 = (0, 8) from by decide +kernel] at h0
    exact h0
  have b12805 : 0 ≤ σ 12805 ∧ σ 12805 ≤ 12 := by
    have h0 := hb 12805
    rw [show sx_sr 12805 = (0, 12) from by decide +kernel] at h0
    exact h0
  obtain ⟨hs, ht, hf, hr, hm, hw⟩ := hW
  have e1 : τ 19001 = a1 := by rw [ht 19001 (by decide) (by decide)]; exact h1
  have e2 : τ 19002 = a2 := by rw [ht 19002 (by decide) (by decide)]; exact h2
  have s12804 : τ 12804 = σ 12804 := hs 12804 (by decide)
  have s12805 : τ 12805 = σ 12805 := hs 12805 (by decide)
  clear hs ht hb
  rw [hx] at hr
  obtain ⟨y, hy, hv⟩ := hr
  cases hy
  replace hv : x.toInt = 1 + 0 := hv
  have f0 : 0 ≤ (-1) + (1 * τ 12804 + 0) := hf _ (List.Mem.head _)
  have f1 : 0 ≤ (-7) + (1 * τ 12805 + 0) := hf _ (List.Mem.tail _ (List.Mem.head _))
  have f2 : 0 ≤ 7 + ((-1) * τ 12805 + 0) := hf _ (List.Mem.tail _ (List.Mem.tail _ (List.Mem.head _)))
  have f3 : 0 ≤ (-1) + (1 * τ 19001 + 0) := hf _ (List.Mem.tail _ (List.Mem.tail _ (List.Mem.tail _ (List.Mem.head _))))
  have f4 : 0 ≤ 7 + ((-1) * τ 19001 + 0) := hf _ (List.Mem.tail _ (List.Mem.tail _ (List.Mem.tail _ (List.Mem.tail _ (List.Mem.head _)))))
  have f5 : 0 ≤ 0 + (1 * τ 19002 + 0) := hf _ (List.Mem.tail _ (List.Mem.tail _ (List.Mem.tail _ (List.Mem.tail _ (List.Mem.tail _ (List.Mem.head _))))))
  have f6 : 0 ≤ 6 + ((-1) * τ 19002 + 0) := hf _ (List.Mem.tail _ (List.Mem.tail _ (List.Mem.tail _ (List.Mem.tail _ (List.Mem.tail _ (List.Mem.tail _ (List.Mem.head _)))))))
  have f7 : 0 ≤ (-1) + (1 * τ 19001 + ((-1) * τ 19002 + 0)) := hf _ (List.Mem.tail _ (List.Mem.tail _ (List.Mem.tail _ (List.Mem.tail _ (List.Mem.tail _ (List.Mem.tail _ (List.Mem.tail _ (List.Mem.head _))))))))
  have f8 : 0 ≤ (-1) + (1 * τ 12804 + ((-1) * τ 19002 + 0)) := hf _ (List.Mem.tail _ (List.Mem.tail _ (List.Mem.tail _ (List.Mem.tail _ (List.Mem.tail _ (List.Mem.tail _ (List.Mem.tail _ (List.Mem.tail _ (List.Mem.head _)))))))))
  have f9 : 0 ≤ (-1) + (1 * τ 12804 + ((-1) * τ 19001 + 0)) := hf _ (List.Mem.tail _ (List.Mem.tail _ (List.Mem.tail _ (List.Mem.tail _ (List.Mem.tail _ (List.Mem.tail _ (List.Mem.tail _ (List.Mem.tail _ (List.Mem.tail _ (List.Mem.head _))))))))))
  have m12805 : σ' 12805 = 1 + (1 * τ 12805 + 0) := hm 12805 (by decide)
  clear hf hm
  exact Or.inl ⟨by omega, ⟨by omega, by omega, by omega, by omega, by omega, by omega⟩, by omega⟩
theorem lw_mwm_27 {as : List rv_A} {σ σ' : Nat → Int} {o : rv_O} {x : Int32} {a1 a2 : Int} {τ : Nat → Int} (hx : o.1 = some (.inl x)) (h1 : lw_av as 1 = a1) (h2 : lw_av as 2 = a2) (hb : ∀ s, (sx_sr s).1 ≤ σ s ∧ σ s ≤ (sx_sr s).2) (hW : lw_W ([], [((-1), [(12804, 1)]), ((-8), [(12805, 1)]), (8, [(12805, (-1))]), (0, [(19001, 1)]), (6, [(19001, (-1))]), ((-1), [(19002, 1)]), (7, [(19002, (-1))]), ((-1), [(19001, (-1)), (19002, 1)]), ((-1), [(12804, 1), (19002, (-1))]), ((-1), [(12804, 1), (19001, (-1))])], [(12800, (0, [])), (12805, (1, [(12805, 1)])), (18560, (0, [(19001, 1)])), (18572, (0, [(19002, 1)])), (18584, (0, [(19003, 1)]))], some (false, (1, []))) as σ σ' τ o) : lw_mwm_C a1 a2 x.toInt σ σ' := by
  unfold lw_mwm_C
  have b12804 : 0 ≤ σ 12804 ∧ σ 12804 ≤ 8 := by
    have h0 := hb 12804
    rw [show sx_sr 12804 = (0, 8) from by decide +kernel] at h0
    exact h0
  have b12805 : 0 ≤ σ 12805 ∧ σ 12805 ≤ 12 := by
    have h0 := hb 12805
    rw [show sx_sr 12805 = (0, 12) from by decide +kernel] at h0
    exact h0
  obtain ⟨hs, ht, hf, hr, hm, hw⟩ := hW
  have e1 : τ 19001 = a1 := by rw [ht 19001 (by decide) (by decide)]; exact h1
  have e2 : τ 19002 = a2 := by rw [ht 19002 (by decide) (by decide)]; exact h2
  have s12804 : τ 12804 = σ 12804 := hs 12804 (by decide)
  have s12805 : τ 12805 = σ 12805 := hs 12805 (by decide)
  clear hs ht hb
  rw [hx] at hr
  obtain ⟨y, hy, hv⟩ := hr
  cases hy
  replace hv : x.toInt = 1 + 0 := hv
  have f0 : 0 ≤ (-1) + (1 * τ 12804 + 0) := hf _ (List.Mem.head _)
  have f1 : 0 ≤ (-8) + (1 * τ 12805 + 0) := hf _ (List.Mem.tail _ (List.Mem.head _))
  have f2 : 0 ≤ 8 + ((-1) * τ 12805 + 0) := hf _ (List.Mem.tail _ (List.Mem.tail _ (List.Mem.head _)))
  have f3 : 0 ≤ 0 + (1 * τ 19001 + 0) := hf _ (List.Mem.tail _ (List.Mem.tail _ (List.Mem.tail _ (List.Mem.head _))))
  have f4 : 0 ≤ 6 + ((-1) * τ 19001 + 0) := hf _ (List.Mem.tail _ (List.Mem.tail _ (List.Mem.tail _ (List.Mem.tail _ (List.Mem.head _)))))
  have f5 : 0 ≤ (-1) + (1 * τ 19002 + 0) := hf _ (List.Mem.tail _ (List.Mem.tail _ (List.Mem.tail _ (List.Mem.tail _ (List.Mem.tail _ (List.Mem.head _))))))
  have f6 : 0 ≤ 7 + ((-1) * τ 19002 + 0) := hf _ (List.Mem.tail _ (List.Mem.tail _ (List.Mem.tail _ (List.Mem.tail _ (List.Mem.tail _ (List.Mem.tail _ (List.Mem.head _)))))))
  have f7 : 0 ≤ (-1) + ((-1) * τ 19001 + (1 * τ 19002 + 0)) := hf _ (List.Mem.tail _ (List.Mem.tail _ (List.Mem.tail _ (List.Mem.tail _ (List.Mem.tail _ (List.Mem.tail _ (List.Mem.tail _ (List.Mem.head _))))))))
  have f8 : 0 ≤ (-1) + (1 * τ 12804 + ((-1) * τ 19002 + 0)) := hf _ (List.Mem.tail _ (List.Mem.tail _ (List.Mem.tail _ (List.Mem.tail _ (List.Mem.tail _ (List.Mem.tail _ (List.Mem.tail _ (List.Mem.tail _ (List.Mem.head _)))))))))
  have f9 : 0 ≤ (-1) + (1 * τ 12804 + ((-1) * τ 19001 + 0)) := hf _ (List.Mem.tail _ (List.Mem.tail _ (List.Mem.tail _ (List.Mem.tail _ (List.Mem.tail _ (List.Mem.tail _ (List.Mem.tail _ (List.Mem.tail _ (List.Mem.tail _ (List.Mem.head _))))))))))
  have m12805 : σ' 12805 = 1 + (1 * τ 12805 + 0) := hm 12805 (by decide)
  clear hf hm
  exact Or.inl ⟨by omega, ⟨by omega, by omega, by omega, by omega, by omega, by omega⟩, by omega⟩
theorem lw_mwm_28 {as : List rv_A} {σ σ' : Nat → Int} {o : rv_O} {x : Int32} {a1 a2 : Int} {τ : Nat → Int} (hx : o.1 = some (.inl x)) (h1 : lw_av as 1 = a1) (h2 : lw_av as 2 = a2) (hb : ∀ s, (sx_sr s).1 ≤ σ s ∧ σ s ≤ (sx_sr s).2) (hW : lw_W ([], [((-1), [(12804, 1)]), ((-8), [(12805, 1)]), (8, [(12805, (-1))]), ((-1), [(19001, 1)]), (7, [(19001, (-1))]), (0, [(19002, 1)]), (6, [(19002, (-1))]), ((-1), [(19001, 1), (19002, (-1))]), ((-1), [(12804, 1), (19002, (-1))]), ((-1), [(12804, 1), (19001, (-1))])], [(12800, (0, [])), (12805, (1, [(12805, 1)])), (18560, (0, [(19001, 1)])), (18572, (0, [(19002, 1)])), (18584, (0, [(19003, 1)]))], some (false, (1, []))) as σ σ' τ o) : lw_mwm_C a1 a2 x.toInt σ σ' := by
  unfold lw_mwm_C
  have b12804 : 0 ≤ σ 12804 ∧ σ 12804 ≤ 8 := by
    have h0 := hb 12804
    rw [show sx_sr 12804 = (0, 8) from by decide +kernel] at h0
    exact h0
  have b12805 : 0 ≤ σ 12805 ∧ σ 12805 ≤ 12 := by
    have h0 := hb 12805
    rw [show sx_sr 12805 = (0, 12) from by decide +kernel] at h0
    exact h0
  obtain ⟨hs, ht, hf, hr, hm, hw⟩ := hW
  have e1 : τ 19001 = a1 := by rw [ht 19001 (by decide) (by decide)]; exact h1
  have e2 : τ 19002 = a2 := by rw [ht 19002 (by decide) (by decide)]; exact h2
  have s12804 : τ 12804 = σ 12804 := hs 12804 (by decide)
  have s12805 : τ 12805 = σ 12805 := hs 12805 (by decide)
  clear hs ht hb
  rw [hx] at hr
  obtain ⟨y, hy, hv⟩ := hr
  cases hy
  replace hv : x.toInt = 1 + 0 := hv
  have f0 : 0 ≤ (-1) + (1 * τ 12804 + 0) := hf _ (List.Mem.head _)
  have f1 : 0 ≤ (-8) + (1 * τ 12805 + 0) := hf _ (List.Mem.tail _ (List.Mem.head _))
  have f2 : 0 ≤ 8 + ((-1) * τ 12805 + 0) := hf _ (List.Mem.tail _ (List.Mem.tail _ (List.Mem.head _)))
  have f3 : 0 ≤ (-1) + (1 * τ 19001 + 0) := hf _ (List.Mem.tail _ (List.Mem.tail _ (List.Mem.tail _ (List.Mem.head _))))
  have f4 : 0 ≤ 7 + ((-1) * τ 19001 + 0) := hf _ (List.Mem.tail _ (List.Mem.tail _ (List.Mem.tail _ (List.Mem.tail _ (List.Mem.head _)))))
  have f5 : 0 ≤ 0 + (1 * τ 19002 + 0) := hf _ (List.Mem.tail _ (List.Mem.tail _ (List.Mem.tail _ (List.Mem.tail _ (List.Mem.tail _ (List.Mem.head _))))))
  have f6 : 0 ≤ 6 + ((-1) * τ 19002 + 0) := hf _ (List.Mem.tail _ (List.Mem.tail _ (List.Mem.tail _ (List.Mem.tail _ (List.Mem.tail _ (List.Mem.tail _ (List.Mem.head _)))))))
  have f7 : 0 ≤ (-1) + (1 * τ 19001 + ((-1) * τ 19002 + 0)) := hf _ (List.Mem.tail _ (List.Mem.tail _ (List.Mem.tail _ (List.Mem.tail _ (List.Mem.tail _ (List.Mem.tail _ (List.Mem.tail _ (List.Mem.head _))))))))
  have f8 : 0 ≤ (-1) + (1 * τ 12804 + ((-1) * τ 19002 + 0)) := hf _ (List.Mem.tail _ (List.Mem.tail _ (List.Mem.tail _ (List.Mem.tail _ (List.Mem.tail _ (List.Mem.tail _ (List.Mem.tail _ (List.Mem.tail _ (List.Mem.head _)))))))))
  have f9 : 0 ≤ (-1) + (1 * τ 12804 + ((-1) * τ 19001 + 0)) := hf _ (List.Mem.tail _ (List.Mem.tail _ (List.Mem.tail _ (List.Mem.tail _ (List.Mem.tail _ (List.Mem.tail _ (List.Mem.tail _ (List.Mem.tail _ (List.Mem.tail _ (List.Mem.head _))))))))))
  have m12805 : σ' 12805 = 1 + (1 * τ 12805 + 0) := hm 12805 (by decide)
  clear hf hm
  exact Or.inl ⟨by omega, ⟨by omega, by omega, by omega, by omega, by omega, by omega⟩, by omega⟩
theorem lw_mwm_29 {as : List rv_A} {σ σ' : Nat → Int} {o : rv_O} {x : Int32} {a1 a2 : Int} {τ : Nat → Int} (hx : o.1 = some (.inl x)) (h1 : lw_av as 1 = a1) (h2 : lw_av as 2 = a2) (hb : ∀ s, (sx_sr s).1 ≤ σ s ∧ σ s ≤ (sx_sr s).2) (hW : lw_W ([], [((-1), [(12804, 1)]), ((-9), [(12805, 1)]), (9, [(12805, (-1))]), (0, [(19001, 1)]), (6, [(19001, (-1))]), ((-1), [(19002, 1)]), (7, [(19002, (-1))]), ((-1), [(19001, (-1)), (19002, 1)]), ((-1), [(12804, 1), (19002, (-1))]), ((-1), [(12804, 1), (19001, (-1))])], [(12800, (0, [])), (12805, (1, [(12805, 1)])), (18561, (0, [(19001, 1)])), (18573, (0, [(19002, 1)])), (18585, (0, [(19003, 1)]))], some (false, (1, []))) as σ σ' τ o) : lw_mwm_C a1 a2 x.toInt σ σ' := by
  unfold lw_mwm_C
  have b12804 : 0 ≤ σ 12804 ∧ σ 12804 ≤ 8 := by
    have h0 := hb 12804
    rw [show sx_sr 12804 = (0, 8) from by decide +kernel] at h0
    exact h0
  have b12805 : 0 ≤ σ 12805 ∧ σ 12805 ≤ 12 := by
    have h0 := hb 12805
    rw [show sx_sr 12805 = (0, 12) from by decide +kernel] at h0
    exact h0
  obtain ⟨hs, ht, hf, hr, hm, hw⟩ := hW
  have e1 : τ 19001 = a1 := by rw [ht 19001 (by decide) (by decide)]; exact h1
  have e2 : τ 19002 = a2 := by rw [ht 19002 (by decide) (by decide)]; exact h2
  have s12804 : τ 12804 = σ 12804 := hs 12804 (by decide)
  have s12805 : τ 12805 = σ 12805 := hs 12805 (by decide)
  clear hs ht hb
  rw [hx] at hr
  obtain ⟨y, hy, hv⟩ := hr
  cases hy
  replace hv : x.toInt = 1 + 0 := hv
  have f0 : 0 ≤ (-1) + (1 * τ 12804 + 0) := hf _ (List.Mem.head _)
  have f1 : 0 ≤ (-9) + (1 * τ 12805 + 0) := hf _ (List.Mem.tail _ (List.Mem.head _))
  have f2 : 0 ≤ 9 + ((-1) * τ 12805 + 0) := hf _ (List.Mem.tail _ (List.Mem.tail _ (List.Mem.head _)))
  have f3 : 0 ≤ 0 + (1 * τ 19001 + 0) := hf _ (List.Mem.tail _ (List.Mem.tail _ (List.Mem.tail _ (List.Mem.head _))))
  have f4 : 0 ≤ 6 + ((-1) * τ 19001 + 0) := hf _ (List.Mem.tail _ (List.Mem.tail _ (List.Mem.tail _ (List.Mem.tail _ (List.Mem.head _)))))
  have f5 : 0 ≤ (-1) + (1 * τ 19002 + 0) := hf _ (List.Mem.tail _ (List.Mem.tail _ (List.Mem.tail _ (List.Mem.tail _ (List.Mem.tail _ (List.Mem.head _))))))
  have f6 : 0 ≤ 7 + ((-1) * τ 19002 + 0) := hf _ (List.Mem.tail _ (List.Mem.tail _ (List.Mem.tail _ (List.Mem.tail _ (List.Mem.tail _ (List.Mem.tail _ (List.Mem.head _)))))))
  have f7 : 0 ≤ (-1) + ((-1) * τ 19001 + (1 * τ 19002 + 0)) := hf _ (List.Mem.tail _ (List.Mem.tail _ (List.Mem.tail _ (List.Mem.tail _ (List.Mem.tail _ (List.Mem.tail _ (List.Mem.tail _ (List.Mem.head _))))))))
  have f8 : 0 ≤ (-1) + (1 * τ 12804 + ((-1) * τ 19002 + 0)) := hf _ (List.Mem.tail _ (List.Mem.tail _ (List.Mem.tail _ (List.Mem.tail _ (List.Mem.tail _ (List.Mem.tail _ (List.Mem.tail _ (List.Mem.tail _ (List.Mem.head _)))))))))
  have f9 : 0 ≤ (-1) + (1 * τ 12804 + ((-1) * τ 19001 + 0)) := hf _ (List.Mem.tail _ (List.Mem.tail _ (List.Mem.tail _ (List.Mem.tail _ (List.Mem.tail _ (List.Mem.tail _ (List.Mem.tail _ (List.Mem.tail _ (List.Mem.tail _ (List.Mem.head _))))))))))
  have m12805 : σ' 12805 = 1 + (1 * τ 12805 + 0) := hm 12805 (by decide)
  clear hf hm
  exact Or.inl ⟨by omega, ⟨by omega, by omega, by omega, by omega, by omega, by omega⟩, by omega⟩
theorem lw_mwm_30 {as : List rv_A} {σ σ' : Nat → Int} {o : rv_O} {x : Int32} {a1 a2 : Int} {τ : Nat → Int} (hx : o.1 = some (.inl x)) (h1 : lw_av as 1 = a1) (h2 : lw_av as 2 = a2) (hb : ∀ s, (sx_sr s).1 ≤ σ s ∧ σ s ≤ (sx_sr s).2) (hW : lw_W ([], [((-1), [(12804, 1)]), ((-9), [(12805, 1)]), (9, [(12805, (-1))]), ((-1), [(19001, 1)]), (7, [(19001, (-1))]), (0, [(19002, 1)]), (6, [(19002, (-1))]), ((-1), [(19001, 1), (19002, (-1))]), ((-1), [(12804, 1), (19002, (-1))]), ((-1), [(12804, 1), (19001, (-1))])], [(12800, (0, [])), (12805, (1, [(12805, 1)])), (18561, (0, [(19001, 1)])), (18573, (0, [(19002, 1)])), (18585, (0, [(19003, 1)]))], some (false, (1, []))) as σ σ' τ o) : lw_mwm_C a1 a2 x.toInt σ σ' := by
  unfold lw_mwm_C
  have b12804 : 0 ≤ σ 12804 ∧ σ 12804 ≤ 8 := by
    have h0 := hb 12804
    rw [show sx_sr 12804 = (0, 8) from by decide +kernel] at h0
    exact h0
  have b12805 : 0 ≤ σ 12805 ∧ σ 12805 ≤ 12 := by
    have h0 := hb 12805
    rw [show sx_sr 12805 = (0, 12) from by decide +kernel] at h0
    exact h0
  obtain ⟨hs, ht, hf, hr, hm, hw⟩ := hW
  have e1 : τ 19001 = a1 := by rw [ht 19001 (by decide) (by decide)]; exact h1
  have e2 : τ 19002 = a2 := by rw [ht 19002 (by decide) (by decide)]; exact h2
  have s12804 : τ 12804 = σ 12804 := hs 12804 (by decide)
  have s12805 : τ 12805 = σ 12805 := hs 12805 (by decide)
  clear hs ht hb
  rw [hx] at hr
  obtain ⟨y, hy, hv⟩ := hr
  cases hy
  replace hv : x.toInt = 1 + 0 := hv
  have f0 : 0 ≤ (-1) + (1 * τ 12804 + 0) := hf _ (List.Mem.head _)
  have f1 : 0 ≤ (-9) + (1 * τ 12805 + 0) := hf _ (List.Mem.tail _ (List.Mem.head _))
  have f2 : 0 ≤ 9 + ((-1) * τ 12805 + 0) := hf _ (List.Mem.tail _ (List.Mem.tail _ (List.Mem.head _)))
  have f3 : 0 ≤ (-1) + (1 * τ 19001 + 0) := hf _ (List.Mem.tail _ (List.Mem.tail _ (List.Mem.tail _ (List.Mem.head _))))
  have f4 : 0 ≤ 7 + ((-1) * τ 19001 + 0) := hf _ (List.Mem.tail _ (List.Mem.tail _ (List.Mem.tail _ (List.Mem.tail _ (List.Mem.head _)))))
  have f5 : 0 ≤ 0 + (1 * τ 19002 + 0) := hf _ (List.Mem.tail _ (List.Mem.tail _ (List.Mem.tail _ (List.Mem.tail _ (List.Mem.tail _ (List.Mem.head _))))))
  have f6 : 0 ≤ 6 + ((-1) * τ 19002 + 0) := hf _ (List.Mem.tail _ (List.Mem.tail _ (List.Mem.tail _ (List.Mem.tail _ (List.Mem.tail _ (List.Mem.tail _ (List.Mem.head _)))))))
  have f7 : 0 ≤ (-1) + (1 * τ 19001 + ((-1) * τ 19002 + 0)) := hf _ (List.Mem.tail _ (List.Mem.tail _ (List.Mem.tail _ (List.Mem.tail _ (List.Mem.tail _ (List.Mem.tail _ (List.Mem.tail _ (List.Mem.head _))))))))
  have f8 : 0 ≤ (-1) + (1 * τ 12804 + ((-1) * τ 19002 + 0)) := hf _ (List.Mem.tail _ (List.Mem.tail _ (List.Mem.tail _ (List.Mem.tail _ (List.Mem.tail _ (List.Mem.tail _ (List.Mem.tail _ (List.Mem.tail _ (List.Mem.head _)))))))))
  have f9 : 0 ≤ (-1) + (1 * τ 12804 + ((-1) * τ 19001 + 0)) := hf _ (List.Mem.tail _ (List.Mem.tail _ (List.Mem.tail _ (List.Mem.tail _ (List.Mem.tail _ (List.Mem.tail _ (List.Mem.tail _ (List.Mem.tail _ (List.Mem.tail _ (List.Mem.head _))))))))))
  have m12805 : σ' 12805 = 1 + (1 * τ 12805 + 0) := hm 12805 (by decide)
  clear hf hm
  exact Or.inl ⟨by omega, ⟨by omega, by omega, by omega, by omega, by omega, by omega⟩, by omega⟩
set_option maxHeartbeats 4000000 in
set_option maxRecDepth 100000 in
theorem lw_mwm {as : List rv_A} {σ σ' : Nat → Int} {o : rv_O} {x : Int32} {a1 a2 : Int} (hx : o.1 = some (.inl x)) (h1 : lw_av as 1 = a1) (h2 : lw_av as 2 = a2) (hb : ∀ s, (sx_sr s).1 ≤ σ s ∧ σ s ≤ (sx_sr s).2) (h : lw_Qc sx_c316 as σ σ' o) : lw_mwm_C a1 a2 x.toInt σ σ' := by
  obtain ⟨g, hg, τ, hW⟩ := h
  simp only [sx_c316, List.mem_cons, List.not_mem_nil, or_false] at hg
  rcases hg with rfl | rfl | rfl | rfl | rfl | rfl | rfl | rfl | rfl | rfl | rfl | rfl | rfl | rfl | rfl | rfl | rfl | rfl | rfl | rfl | rfl | rfl | rfl | rfl | rfl | rfl | rfl | rfl | rfl | rfl | rfl
  · exact lw_mwm_0 hx h1 h2 hb hW
  · exact lw_mwm_1 hx h1 h2 hb hW
  · exact lw_mwm_2 hx h1 h2 hb hW
  · exact lw_mwm_3 hx h1 h2 hb hW
  · exact lw_mwm_4 hx h1 h2 hb hW
  · exact lw_mwm_5 hx h1 h2 hb hW
  · exact lw_mwm_6 hx h1 h2 hb hW
  · exact lw_mwm_7 hx h1 h2 hb hW
  · exact lw_mwm_8 hx h1 h2 hb hW
  · exact lw_mwm_9 hx h1 h2 hb hW
  · exact lw_mwm_10 hx h1 h2 hb hW
  · exact lw_mwm_11 hx h1 h2 hb hW
  · exact lw_mwm_12 hx h1 h2 hb hW
  · exact lw_mwm_13 hx h1 h2 hb hW
  · exact lw_mwm_14 hx h1 h2 hb hW
  · exact lw_mwm_15 hx h1 h2 hb hW
  · exact lw_mwm_16 hx h1 h2 hb hW
  · exact lw_mwm_17 hx h1 h2 hb hW
  · exact lw_mwm_18 hx h1 h2 hb hW
  · exact lw_mwm_19 hx h1 h2 hb hW
  · exact lw_mwm_20 hx h1 h2 hb hW
  · exact lw_mwm_21 hx h1 h2 hb hW
  · exact lw_mwm_22 hx h1 h2 hb hW
  · exact lw_mwm_23 hx h1 h2 hb hW
  · exact lw_mwm_24 hx h1 h2 hb hW
  · exact lw_mwm_25 hx h1 h2 hb hW
  · exact lw_mwm_26 hx h1 h2 hb hW
  · exact lw_mwm_27 hx h1 h2 hb hW
  · exact lw_mwm_28 hx h1 h2 hb hW
  · exact lw_mwm_29 hx h1 h2 hb hW
  · exact lw_mwm_30 hx h1 h2 hb hW
theorem lw_mustm {as : List rv_A} {σ σ' : Nat → Int} {o : rv_O} {x : Int32} {a1 a2 : Int} (hx : o.1 = some (.inl x)) (h1 : lw_av as 1 = a1) (h2 : lw_av as 2 = a2) (hb : ∀ s, (sx_sr s).1 ≤ σ s ∧ σ s ≤ (sx_sr s).2) (h : lw_Qc sx_c316 as σ σ' o) : ((x.toInt = 1 ∧ (0 ≤ a1 ∧ a1 < σ 12804 ∧ 0 ≤ a2 ∧ a2 < σ 12804 ∧ a1 ≠ a2 ∧ σ 12805 ≤ 11) ∧ σ' 12805 = σ 12805 + 1) ∨ (x.toInt = 0 ∧ ¬ (0 ≤ a1 ∧ a1 < σ 12804 ∧ 0 ≤ a2 ∧ a2 < σ 12804 ∧ a1 ≠ a2 ∧ σ 12805 ≤ 11) ∧ σ' 12805 = σ 12805)) ∧ σ' 133 = σ 133 ∧ σ' 12804 = σ 12804 ∧ σ' 134 = σ 134 ∧ σ' 10250 = σ 10250 ∧ σ' 12814 = σ 12814 ∧ σ' 18520 = σ 18520 ∧ σ' 18528 = σ 18528 ∧ σ' 18521 = σ 18521 ∧ σ' 18529 = σ 18529 ∧ σ' 18522 = σ 18522 ∧ σ' 18530 = σ 18530 ∧ σ' 18523 = σ 18523 ∧ σ' 18531 = σ 18531 ∧ σ' 18524 = σ 18524 ∧ σ' 18532 = σ 18532 ∧ σ' 18525 = σ 18525 ∧ σ' 18533 = σ 18533 ∧ σ' 18526 = σ 18526 ∧ σ' 18534 = σ 18534 ∧ σ' 18527 = σ 18527 ∧ σ' 18535 = σ 18535 := by
  have k := lw_kl (L := [133, 12804, 134, 10250, 12814, 18520, 18528, 18521, 18529, 18522, 18530, 18523, 18531, 18524, 18532, 18525, 18533, 18526, 18534, 18527, 18535]) (by decide +kernel) h
  exact ⟨lw_mwm hx h1 h2 hb h, k 133 (by decide), k 12804 (by decide), k 134 (by decide), k 10250 (by decide), k 12814 (by decide), k 18520 (by decide), k 18528 (by decide), k 18521 (by decide), k 18529 (by decide), k 18522 (by decide), k 18530 (by decide), k 18523 (by decide), k 18531 (by decide), k 18524 (by decide), k 18532 (by decide), k 18525 (by decide), k 18533 (by decide), k 18526 (by decide), k 18534 (by decide), k 18527 (by decide), k 18535 (by decide)⟩
set_option maxHeartbeats 8000000 in
theorem lw_pq7 {y1 y2 y3 y4 : Int32} {o1 o2 : rv_O} {h0 : List rv_C} {σ σ1 σ2 : Nat → Int} {z1 z2 : Int32} (hz1 : o1.1 = some (.inl z1)) (hz2 : o2.1 = some (.inl z2)) (h1 : lw_Qc sx_c219 [rv_ref 0, .inl y1, .inl y2, .inl y3] σ σ1 o1) (h2 : lw_Qc sx_c316 [rv_ref 100, .inl y1, .inl y2, .inl y4] σ1 σ2 o2) (hR : lw_R σ) (hJ : lw_Js σ h0) (hJ1 : lw_Js σ1 o1.2) (hJ2 : lw_Js σ2 o2.2) : z1.toInt = z2.toInt ∧ lw_R σ2 := by
  obtain ⟨g1, u133, u12804, u12805, u10250, u12814, u18520, u18528, u18521, u18529, u18522, u18530, u18523, u18531, u18524, u18532, u18525, u18533, u18526, u18534, u18527, u18535⟩ := lw_mustx (a1 := y1.toInt) (a2 := y2.toInt) hz1 rfl rfl hJ.2.1 h1
  obtain ⟨g2, v133, v12804, v134, v10250, v12814, v18520, v18528, v18521, v18529, v18522, v18530, v18523, v18531, v18524, v18532, v18525, v18533, v18526, v18534, v18527, v18535⟩ := lw_mustm (a1 := y1.toInt) (a2 := y2.toInt) hz2 rfl rfl hJ1.2.1 h2
  obtain ⟨r0, r1, r2, k0, k1, k2, k3, k4, k5, k6, k7⟩ := hR
  clear h1 h2 hJ hJ1 hJ2 hz1 hz2
  have e0 := u12804
  have e1 := u12805
  have e2 := v134
  have hz : z1.toInt = z2.toInt := by clear k0 k1 k2 k3 k4 k5 k6 k7 u133 u12804 u12805 u10250 u12814 u18520 u18528 u18521 u18529 u18522 u18530 u18523 u18531 u18524 u18532 u18525 u18533 u18526 u18534 u18527 u18535 v133 v12804 v134 v10250 v12814 v18520 v18528 v18521 v18529 v18522 v18530 v18523 v18531 v18524 v18532 v18525 v18533 v18526 v18534 v18527 v18535; omega
  have hn : σ2 134 = σ2 12805 := by clear k0 k1 k2 k3 k4 k5 k6 k7 u133 u12804 u12805 u10250 u12814 u18520 u18528 u18521 u18529 u18522 u18530 u18523 u18531 u18524 u18532 u18525 u18533 u18526 u18534 u18527 u18535 v133 v12804 v134 v10250 v12814 v18520 v18528 v18521 v18529 v18522 v18530 v18523 v18531 v18524 v18532 v18525 v18533 v18526 v18534 v18527 v18535; omega
  exact ⟨hz, ⟨(by rw [v133, u133, v12804, u12804]; exact r0), hn, (by rw [v10250, u10250, v12814, u12814]; exact r2), (by rw [v133, u133, v18520, u18520, v18528, u18528]; exact k0), (by rw [v133, u133, v18521, u18521, v18529, u18529]; exact k1), (by rw [v133, u133, v18522, u18522, v18530, u18530]; exact k2), (by rw [v133, u133, v18523, u18523, v18531, u18531]; exact k3), (by rw [v133, u133, v18524, u18524, v18532, u18532]; exact k4), (by rw [v133, u133, v18525, u18525, v18533, u18533]; exact k5), (by rw [v133, u133, v18526, u18526, v18534, u18534]; exact k6), (by rw [v133, u133, v18527, u18527, v18535, u18535]; exact k7)⟩⟩
theorem lw_same7 {y1 y2 y3 y4 : Int32} {o1 o2 : rv_O} {h0 : List rv_C} {σ σ1 σ2 : Nat → Int} {z1 z2 : Int32} (hz1 : o1.1 = some (.inl z1)) (hz2 : o2.1 = some (.inl z2)) (h1 : lw_Qc sx_c219 [rv_ref 0, .inl y1, .inl y2, .inl y3] σ σ1 o1) (h2 : lw_Qc sx_c316 [rv_ref 100, .inl y1, .inl y2, .inl y4] σ1 σ2 o2) (hR : lw_R σ) (hJ : lw_Js σ h0) (hJ1 : lw_Js σ1 o1.2) (hJ2 : lw_Js σ2 o2.2) : z1 = z2 := Int32.toInt_inj.mp (lw_pq7 hz1 hz2 h1 h2 hR hJ hJ1 hJ2).1
theorem lw_sp7 {y1 y2 y3 y4 : Int32} {o1 o2 : rv_O} {h0 : List rv_C} {σ σ1 σ2 : Nat → Int} {z1 z2 : Int32} (hz1 : o1.1 = some (.inl z1)) (hz2 : o2.1 = some (.inl z2)) (h1 : lw_Qc sx_c219 [rv_ref 0, .inl y1, .inl y2, .inl y3] σ σ1 o1) (h2 : lw_Qc sx_c316 [rv_ref 100, .inl y1, .inl y2, .inl y4] σ1 σ2 o2) (hR : lw_R σ) (hJ : lw_Js σ h0) (hJ1 : lw_Js σ1 o1.2) (hJ2 : lw_Js σ2 o2.2) : lw_R σ2 := (lw_pq7 hz1 hz2 h1 h2 hR hJ hJ1 hJ2).2
set_option maxHeartbeats 8000000 in
theorem lw_feedx {as : List rv_A} {σ σ' : Nat → Int} {o : rv_O} {x : Int32} {a1 a2 a3 a4 a5 : Int} (hx : o.1 = some (.inl x)) (h1 : lw_av as 1 = a1) (h2 : lw_av as 2 = a2) (h3 : lw_av as 3 = a3) (h4 : lw_av as 4 = a4) (h5 : lw_av as 5 = a5) (hb : ∀ s, (sx_sr s).1 ≤ σ s ∧ σ s ≤ (sx_sr s).2) (h : lw_Qc sx_c210 as σ σ' o) : ((x.toInt = σ 10250 + 20 ∧ σ 10250 ≤ 280 ∧ σ' 10250 = σ 10250 + 20) ∨ (x.toInt = -1 ∧ 281 ≤ σ 10250 ∧ σ' 10250 = σ 10250)) ∧ σ' 133 = σ 133 ∧ σ' 12804 = σ 12804 ∧ σ' 134 = σ 134 ∧ σ' 12805 = σ 12805 ∧ σ' 12814 = σ 12814 ∧ σ' 18520 = σ 18520 ∧ σ' 18528 = σ 18528 ∧ σ' 18521 = σ 18521 ∧ σ' 18529 = σ 18529 ∧ σ' 18522 = σ 18522 ∧ σ' 18530 = σ 18530 ∧ σ' 18523 = σ 18523 ∧ σ' 18531 = σ 18531 ∧ σ' 18524 = σ 18524 ∧ σ' 18532 = σ 18532 ∧ σ' 18525 = σ 18525 ∧ σ' 18533 = σ 18533 ∧ σ' 18526 = σ 18526 ∧ σ' 18534 = σ 18534 ∧ σ' 18527 = σ 18527 ∧ σ' 18535 = σ 18535 := by
  have b133 : 0 ≤ σ 133 ∧ σ 133 ≤ 8 := by
    have h0 := hb 133
    rw [show sx_sr 133 = (0, 8) from by decide +kernel] at h0
    exact h0
  have b134 : 0 ≤ σ 134 ∧ σ 134 ≤ 12 := by
    have h0 := hb 134
    rw [show sx_sr 134 = (0, 12) from by decide +kernel] at h0
    exact h0
  have b10250 : 0 ≤ σ 10250 ∧ σ 10250 ≤ 300 := by
    have h0 := hb 10250
    rw [show sx_sr 10250 = (0, 300) from by decide +kernel] at h0
    exact h0
  obtain ⟨g, hg, τ, hs, ht, hf, hr, hm, hw⟩ := h
  have e1 : τ 19001 = a1 := by rw [ht 19001 (by decide) (by decide)]; exact h1
  have e2 : τ 19002 = a2 := by rw [ht 19002 (by decide) (by decide)]; exact h2
  have e3 : τ 19003 = a3 := by rw [ht 19003 (by decide) (by decide)]; exact h3
  have e4 : τ 19004 = a4 := by rw [ht 19004 (by decide) (by decide)]; exact h4
  have e5 : τ 19005 = a5 := by rw [ht 19005 (by decide) (by decide)]; exact h5
  have s133 : τ 133 = σ 133 := hs 133 (by decide)
  have s134 : τ 134 = σ 134 := hs 134 (by decide)
  have s10250 : τ 10250 = σ 10250 := hs 10250 (by decide)
  have s12804 : τ 12804 = σ 12804 := hs 12804 (by decide)
  have s12805 : τ 12805 = σ 12805 := hs 12805 (by decide)
  have s12814 : τ 12814 = σ 12814 := hs 12814 (by decide)
  have s18520 : τ 18520 = σ 18520 := hs 18520 (by decide)
  have s18521 : τ 18521 = σ 18521 := hs 18521 (by decide)
  have s18522 : τ 18522 = σ 18522 := hs 18522 (by decide)
  have s18523 : τ 18523 = σ 18523 := hs 18523 (by decide)
  have s18524 : τ 18524 = σ 18524 := hs 18524 (by decide)
  have s18525 : τ 18525 = σ 18525 := hs 18525 (by decide)
  have s18526 : τ 18526 = σ 18526 := hs 18526 (by decide)
  have s18527 : τ 18527 = σ 18527 := hs 18527 (by decide)
  have s18528 : τ 18528 = σ 18528 := hs 18528 (by decide)
  have s18529 : τ 18529 = σ 18529 := hs 18529 (by decide)
  have s18530 : τ 18530 = σ 18530 := hs 18530 (by decide)
  have s18531 : τ 18531 = σ 18531 := hs 18531 (by decide)
  have s18532 : τ 18532 = σ 18532 := hs 18532 (by decide)
  have s18533 : τ 18533 = σ 18533 := hs 18533 (by decide)
  have s18534 : τ 18534 = σ 18534 := hs 18534 (by decide)
  have s18535 : τ 18535 = σ 18535 := hs 18535 (by decide)
  clear hb ht
  rw [hx] at hr
  simp only [sx_c210, List.mem_cons, List.not_mem_nil, or_false] at hg
  rcases hg with rfl | rfl
  · obtain ⟨y, hy, hv⟩ := hr
    cases hy
    replace hv : x.toInt = 20 + (1 * τ 10250 + 0) := hv
    have f0 : 0 ≤ 280 + ((-1) * τ 10250 + 0) := hf _ (List.Mem.head _)
    have m10250 : σ' 10250 = 20 + (1 * τ 10250 + 0) := hm 10250 (by decide)
    refine ⟨?_, lw_id s133 (hm 133 (by decide)), lw_id s12804 (hm 12804 (by decide)), lw_id s134 (hm 134 (by decide)), lw_id s12805 (hm 12805 (by decide)), lw_id s12814 (hm 12814 (by decide)), lw_id s18520 (hm 18520 (by decide)), lw_id s18528 (hm 18528 (by decide)), lw_id s18521 (hm 18521 (by decide)), lw_id s18529 (hm 18529 (by decide)), lw_id s18522 (hm 18522 (by decide)), lw_id s18530 (hm 18530 (by decide)), lw_id s18523 (hm 18523 (by decide)), lw_id s18531 (hm 18531 (by decide)), lw_id s18524 (hm 18524 (by decide)), lw_id s18532 (hm 18532 (by decide)), lw_id s18525 (hm 18525 (by decide)), lw_id s18533 (hm 18533 (by decide)), lw_id s18526 (hm 18526 (by decide)), lw_id s18534 (hm 18534 (by decide)), lw_id s18527 (hm 18527 (by decide)), lw_id s18535 (hm 18535 (by decide))⟩
    clear hf hm hs
    exact Or.inl ⟨by omega, by omega, by omega⟩
  · obtain ⟨y, hy, hv⟩ := hr
    cases hy
    replace hv : x.toInt = (-1) + 0 := hv
    have f0 : 0 ≤ (-281) + (1 * τ 10250 + 0) := hf _ (List.Mem.head _)
    have m10250 : σ' 10250 = 0 + (1 * τ 10250 + 0) := hm 10250 (by decide)
    refine ⟨?_, lw_id s133 (hm 133 (by decide)), lw_id s12804 (hm 12804 (by decide)), lw_id s134 (hm 134 (by decide)), lw_id s12805 (hm 12805 (by decide)), lw_id s12814 (hm 12814 (by decide)), lw_id s18520 (hm 18520 (by decide)), lw_id s18528 (hm 18528 (by decide)), lw_id s18521 (hm 18521 (by decide)), lw_id s18529 (hm 18529 (by decide)), lw_id s18522 (hm 18522 (by decide)), lw_id s18530 (hm 18530 (by decide)), lw_id s18523 (hm 18523 (by decide)), lw_id s18531 (hm 18531 (by decide)), lw_id s18524 (hm 18524 (by decide)), lw_id s18532 (hm 18532 (by decide)), lw_id s18525 (hm 18525 (by decide)), lw_id s18533 (hm 18533 (by decide)), lw_id s18526 (hm 18526 (by decide)), lw_id s18534 (hm 18534 (by decide)), lw_id s18527 (hm 18527 (by decide)), lw_id s18535 (hm 18535 (by decide))⟩
    clear hf hm hs
    exact Or.inr ⟨by omega, by omega, by omega⟩
set_option maxHeartbeats 8000000 in
theorem lw_feedm {as : List rv_A} {σ σ' : Nat → Int} {o : rv_O} {x : Int32} {a1 a2 a3 a4 a5 : Int} (hx : o.1 = some (.inl x)) (h1 : lw_av as 1 = a1) (h2 : lw_av as 2 = a2) (h3 : lw_av as 3 = a3) (h4 : lw_av as 4 = a4) (h5 : lw_av as 5 = a5) (hb : ∀ s, (sx_sr s).1 ≤ σ s ∧ σ s ≤ (sx_sr s).2) (h : lw_Qc sx_c297 as σ σ' o) : ((x.toInt = σ 12814 + 20 ∧ σ 12814 ≤ 280 ∧ σ' 12814 = σ 12814 + 20) ∨ (x.toInt = -1 ∧ 281 ≤ σ 12814 ∧ σ' 12814 = σ 12814)) ∧ σ' 133 = σ 133 ∧ σ' 12804 = σ 12804 ∧ σ' 134 = σ 134 ∧ σ' 12805 = σ 12805 ∧ σ' 10250 = σ 10250 ∧ σ' 18520 = σ 18520 ∧ σ' 18528 = σ 18528 ∧ σ' 18521 = σ 18521 ∧ σ' 18529 = σ 18529 ∧ σ' 18522 = σ 18522 ∧ σ' 18530 = σ 18530 ∧ σ' 18523 = σ 18523 ∧ σ' 18531 = σ 18531 ∧ σ' 18524 = σ 18524 ∧ σ' 18532 = σ 18532 ∧ σ' 18525 = σ 18525 ∧ σ' 18533 = σ 18533 ∧ σ' 18526 = σ 18526 ∧ σ' 18534 = σ 18534 ∧ σ' 18527 = σ 18527 ∧ σ' 18535 = σ 18535 := by
  have b12804 : 0 ≤ σ 12804 ∧ σ 12804 ≤ 8 := by
    have h0 := hb 12804
    rw [show sx_sr 12804 = (0, 8) from by decide +kernel] at h0
    exact h0
  have b12805 : 0 ≤ σ 12805 ∧ σ 12805 ≤ 12 := by
    have h0 := hb 12805
    rw [show sx_sr 12805 = (0, 12) from by decide +kernel] at h0
    exact h0
  have b12814 : 0 ≤ σ 12814 ∧ σ 12814 ≤ 300 := by
    have h0 := hb 12814
    rw [show sx_sr 12814 = (0, 300) from by decide +kernel] at h0
    exact h0
  obtain ⟨g, hg, τ, hs, ht, hf, hr, hm, hw⟩ := h
  have e1 : τ 19001 = a1 := by rw [ht 19001 (by decide) (by decide)]; exact h1
  have e2 : τ 19002 = a2 := by rw [ht 19002 (by decide) (by decide)]; exact h2
  have e3 : τ 19003 = a3 := by rw [ht 19003 (by decide) (by decide)]; exact h3
  have e4 : τ 19004 = a4 := by rw [ht 19004 (by decide) (by decide)]; exact h4
  have e5 : τ 19005 = a5 := by rw [ht 19005 (by decide) (by decide)]; exact h5
  have s133 : τ 133 = σ 133 := hs 133 (by decide)
  have s134 : τ 134 = σ 134 := hs 134 (by decide)
  have s10250 : τ 10250 = σ 10250 := hs 10250 (by decide)
  have s12804 : τ 12804 = σ 12804 := hs 12804 (by decide)
  have s12805 : τ 12805 = σ 12805 := hs 12805 (by decide)
  have s12814 : τ 12814 = σ 12814 := hs 12814 (by decide)
  have s18520 : τ 18520 = σ 18520 := hs 18520 (by decide)
  have s18521 : τ 18521 = σ 18521 := hs 18521 (by decide)
  have s18522 : τ 18522 = σ 18522 := hs 18522 (by decide)
  have s18523 : τ 18523 = σ 18523 := hs 18523 (by decide)
  have s18524 : τ 18524 = σ 18524 := hs 18524 (by decide)
  have s18525 : τ 18525 = σ 18525 := hs 18525 (by decide)
  have s18526 : τ 18526 = σ 18526 := hs 18526 (by decide)
  have s18527 : τ 18527 = σ 18527 := hs 18527 (by decide)
  have s18528 : τ 18528 = σ 18528 := hs 18528 (by decide)
  have s18529 : τ 18529 = σ 18529 := hs 18529 (by decide)
  have s18530 : τ 18530 = σ 18530 := hs 18530 (by decide)
  have s18531 : τ 18531 = σ 18531 := hs 18531 (by decide)
  have s18532 : τ 18532 = σ 18532 := hs 18532 (by decide)
  have s18533 : τ 18533 = σ 18533 := hs 18533 (by decide)
  have s18534 : τ 18534 = σ 18534 := hs 18534 (by decide)
  have s18535 : τ 18535 = σ 18535 := hs 18535 (by decide)
  clear hb ht
  rw [hx] at hr
  simp only [sx_c297, List.mem_cons, List.not_mem_nil, or_false] at hg
  rcases hg with rfl | rfl
  · obtain ⟨y, hy, hv⟩ := hr
    cases hy
    replace hv : x.toInt = 20 + (1 * τ 12814 + 0) := hv
    have f0 : 0 ≤ 280 + ((-1) * τ 12814 + 0) := hf _ (List.Mem.head _)
    have m12814 : σ' 12814 = 20 + (1 * τ 12814 + 0) := hm 12814 (by decide)
    refine ⟨?_, lw_id s133 (hm 133 (by decide)), lw_id s12804 (hm 12804 (by decide)), lw_id s134 (hm 134 (by decide)), lw_id s12805 (hm 12805 (by decide)), lw_id s10250 (hm 10250 (by decide)), lw_id s18520 (hm 18520 (by decide)), lw_id s18528 (hm 18528 (by decide)), lw_id s18521 (hm 18521 (by decide)), lw_id s18529 (hm 18529 (by decide)), lw_id s18522 (hm 18522 (by decide)), lw_id s18530 (hm 18530 (by decide)), lw_id s18523 (hm 18523 (by decide)), lw_id s18531 (hm 18531 (by decide)), lw_id s18524 (hm 18524 (by decide)), lw_id s18532 (hm 18532 (by decide)), lw_id s18525 (hm 18525 (by decide)), lw_id s18533 (hm 18533 (by decide)), lw_id s18526 (hm 18526 (by decide)), lw_id s18534 (hm 18534 (by decide)), lw_id s18527 (hm 18527 (by decide)), lw_id s18535 (hm 18535 (by decide))⟩
    clear hf hm hs
    exact Or.inl ⟨by omega, by omega, by omega⟩
  · obtain ⟨y, hy, hv⟩ := hr
    cases hy
    replace hv : x.toInt = (-1) + 0 := hv
    have f0 : 0 ≤ (-281) + (1 * τ 12814 + 0) := hf _ (List.Mem.head _)
    have m12814 : σ' 12814 = 0 + (1 * τ 12814 + 0) := hm 12814 (by decide)
    refine ⟨?_, lw_id s133 (hm 133 (by decide)), lw_id s12804 (hm 12804 (by decide)), lw_id s134 (hm 134 (by decide)), lw_id s12805 (hm 12805 (by decide)), lw_id s10250 (hm 10250 (by decide)), lw_id s18520 (hm 18520 (by decide)), lw_id s18528 (hm 18528 (by decide)), lw_id s18521 (hm 18521 (by decide)), lw_id s18529 (hm 18529 (by decide)), lw_id s18522 (hm 18522 (by decide)), lw_id s18530 (hm 18530 (by decide)), lw_id s18523 (hm 18523 (by decide)), lw_id s18531 (hm 18531 (by decide)), lw_id s18524 (hm 18524 (by decide)), lw_id s18532 (hm 18532 (by decide)), lw_id s18525 (hm 18525 (by decide)), lw_id s18533 (hm 18533 (by decide)), lw_id s18526 (hm 18526 (by decide)), lw_id s18534 (hm 18534 (by decide)), lw_id s18527 (hm 18527 (by decide)), lw_id s18535 (hm 18535 (by decide))⟩
    clear hf hm hs
    exact Or.inr ⟨by omega, by omega, by omega⟩
set_option maxHeartbeats 8000000 in
theorem lw_pq8 {y1 y2 y3 y4 y5 : Int32} {o1 o2 : rv_O} {h0 : List rv_C} {σ σ1 σ2 : Nat → Int} {z1 z2 : Int32} (hz1 : o1.1 = some (.inl z1)) (hz2 : o2.1 = some (.inl z2)) (h1 : lw_Qc sx_c210 [rv_ref 0, .inl y1, .inl y2, .inl y3, .inl y4, .inl y5] σ σ1 o1) (h2 : lw_Qc sx_c297 [rv_ref 100, .inl y1, .inl y2, .inl y3, .inl y4, .inl y5] σ1 σ2 o2) (hR : lw_R σ) (hJ : lw_Js σ h0) (hJ1 : lw_Js σ1 o1.2) (hJ2 : lw_Js σ2 o2.2) : z1.toInt = z2.toInt ∧ lw_R σ2 := by
  obtain ⟨g1, u133, u12804, u134, u12805, u12814, u18520, u18528, u18521, u18529, u18522, u18530, u18523, u18531, u18524, u18532, u18525, u18533, u18526, u18534, u18527, u18535⟩ := lw_feedx (a1 := y1.toInt) (a2 := y2.toInt) (a3 := y3.toInt) (a4 := y4.toInt) (a5 := y5.toInt) hz1 rfl rfl rfl rfl rfl hJ.2.1 h1
  obtain ⟨g2, v133, v12804, v134, v12805, v10250, v18520, v18528, v18521, v18529, v18522, v18530, v18523, v18531, v18524, v18532, v18525, v18533, v18526, v18534, v18527, v18535⟩ := lw_feedm (a1 := y1.toInt) (a2 := y2.toInt) (a3 := y3.toInt) (a4 := y4.toInt) (a5 := y5.toInt) hz2 rfl rfl rfl rfl rfl hJ1.2.1 h2
  obtain ⟨r0, r1, r2, k0, k1, k2, k3, k4, k5, k6, k7⟩ := hR
  clear h1 h2 hJ hJ1 hJ2 hz1 hz2
  have e1 := u12814
  have e2 := v10250
  have hz : z1.toInt = z2.toInt := by clear k0 k1 k2 k3 k4 k5 k6 k7 u133 u12804 u134 u12805 u12814 u18520 u18528 u18521 u18529 u18522 u18530 u18523 u18531 u18524 u18532 u18525 u18533 u18526 u18534 u18527 u18535 v133 v12804 v134 v12805 v10250 v18520 v18528 v18521 v18529 v18522 v18530 v18523 v18531 v18524 v18532 v18525 v18533 v18526 v18534 v18527 v18535; omega
  have hn : σ2 10250 = σ2 12814 := by clear k0 k1 k2 k3 k4 k5 k6 k7 u133 u12804 u134 u12805 u12814 u18520 u18528 u18521 u18529 u18522 u18530 u18523 u18531 u18524 u18532 u18525 u18533 u18526 u18534 u18527 u18535 v133 v12804 v134 v12805 v10250 v18520 v18528 v18521 v18529 v18522 v18530 v18523 v18531 v18524 v18532 v18525 v18533 v18526 v18534 v18527 v18535; omega
  exact ⟨hz, ⟨(by rw [v133, u133, v12804, u12804]; exact r0), (by rw [v134, u134, v12805, u12805]; exact r1), hn, (by rw [v133, u133, v18520, u18520, v18528, u18528]; exact k0), (by rw [v133, u133, v18521, u18521, v18529, u18529]; exact k1), (by rw [v133, u133, v18522, u18522, v18530, u18530]; exact k2), (by rw [v133, u133, v18523, u18523, v18531, u18531]; exact k3), (by rw [v133, u133, v18524, u18524, v18532, u18532]; exact k4), (by rw [v133, u133, v18525, u18525, v18533, u18533]; exact k5), (by rw [v133, u133, v18526, u18526, v18534, u18534]; exact k6), (by rw [v133, u133, v18527, u18527, v18535, u18535]; exact k7)⟩⟩
theorem lw_same8 {y1 y2 y3 y4 y5 : Int32} {o1 o2 : rv_O} {h0 : List rv_C} {σ σ1 σ2 : Nat → Int} {z1 z2 : Int32} (hz1 : o1.1 = some (.inl z1)) (hz2 : o2.1 = some (.inl z2)) (h1 : lw_Qc sx_c210 [rv_ref 0, .inl y1, .inl y2, .inl y3, .inl y4, .inl y5] σ σ1 o1) (h2 : lw_Qc sx_c297 [rv_ref 100, .inl y1, .inl y2, .inl y3, .inl y4, .inl y5] σ1 σ2 o2) (hR : lw_R σ) (hJ : lw_Js σ h0) (hJ1 : lw_Js σ1 o1.2) (hJ2 : lw_Js σ2 o2.2) : z1 = z2 := Int32.toInt_inj.mp (lw_pq8 hz1 hz2 h1 h2 hR hJ hJ1 hJ2).1
theorem lw_sp8 {y1 y2 y3 y4 y5 : Int32} {o1 o2 : rv_O} {h0 : List rv_C} {σ σ1 σ2 : Nat → Int} {z1 z2 : Int32} (hz1 : o1.1 = some (.inl z1)) (hz2 : o2.1 = some (.inl z2)) (h1 : lw_Qc sx_c210 [rv_ref 0, .inl y1, .inl y2, .inl y3, .inl y4, .inl y5] σ σ1 o1) (h2 : lw_Qc sx_c297 [rv_ref 100, .inl y1, .inl y2, .inl y3, .inl y4, .inl y5] σ1 σ2 o2) (hR : lw_R σ) (hJ : lw_Js σ h0) (hJ1 : lw_Js σ1 o1.2) (hJ2 : lw_Js σ2 o2.2) : lw_R σ2 := (lw_pq8 hz1 hz2 h1 h2 hR hJ hJ1 hJ2).2
set_option maxHeartbeats 8000000 in
theorem lw_wishx {as : List rv_A} {σ σ' : Nat → Int} {o : rv_O} {x : Int32} {a1 a2 : Int} (hx : o.1 = some (.inl x)) (h1 : lw_av as 1 = a1) (h2 : lw_av as 2 = a2) (hb : ∀ s, (sx_sr s).1 ≤ σ s ∧ σ s ≤ (sx_sr s).2) (h : lw_Qc sx_c245 as σ σ' o) : (((0 ≤ a1 ∧ a1 < σ 133 ∧ 0 ≤ a2 ∧ a2 ≤ σ 10250) ∧ σ' 10250 = 0) ∨ (¬ (0 ≤ a1 ∧ a1 < σ 133 ∧ 0 ≤ a2 ∧ a2 ≤ σ 10250) ∧ σ' 10250 = σ 10250)) ∧ σ' 133 = σ 133 ∧ σ' 12804 = σ 12804 ∧ σ' 134 = σ 134 ∧ σ' 12805 = σ 12805 ∧ σ' 12814 = σ 12814 ∧ σ' 18520 = σ 18520 ∧ σ' 18528 = σ 18528 ∧ σ' 18521 = σ 18521 ∧ σ' 18529 = σ 18529 ∧ σ' 18522 = σ 18522 ∧ σ' 18530 = σ 18530 ∧ σ' 18523 = σ 18523 ∧ σ' 18531 = σ 18531 ∧ σ' 18524 = σ 18524 ∧ σ' 18532 = σ 18532 ∧ σ' 18525 = σ 18525 ∧ σ' 18533 = σ 18533 ∧ σ' 18526 = σ 18526 ∧ σ' 18534 = σ 18534 ∧ σ' 18527 = σ 18527 ∧ σ' 18535 = σ 18535 := by
  have b133 : 0 ≤ σ 133 ∧ σ 133 ≤ 8 := by
    have h0 := hb 133
    rw [show sx_sr 133 = (0, 8) from by decide +kernel] at h0
    exact h0
  have b134 : 0 ≤ σ 134 ∧ σ 134 ≤ 12 := by
    have h0 := hb 134
    rw [show sx_sr 134 = (0, 12) from by decide +kernel] at h0
    exact h0
  have b10250 : 0 ≤ σ 10250 ∧ σ 10250 ≤ 300 := by
    have h0 := hb 10250
    rw [show sx_sr 10250 = (0, 300) from by decide +kernel] at h0
    exact h0
  obtain ⟨g, hg, τ, hs, ht, hf, hr, hm, hw⟩ := h
  have e1 : τ 19001 = a1 := by rw [ht 19001 (by decide) (by decide)]; exact h1
  have e2 : τ 19002 = a2 := by rw [ht 19002 (by decide) (by decide)]; exact h2
  have s133 : τ 133 = σ 133 := hs 133 (by decide)
  have s134 : τ 134 = σ 134 := hs 134 (by decide)
  have s10250 : τ 10250 = σ 10250 := hs 10250 (by decide)
  have s12804 : τ 12804 = σ 12804 := hs 12804 (by decide)
  have s12805 : τ 12805 = σ 12805 := hs 12805 (by decide)
  have s12814 : τ 12814 = σ 12814 := hs 12814 (by decide)
  have s18520 : τ 18520 = σ 18520 := hs 18520 (by decide)
  have s18521 : τ 18521 = σ 18521 := hs 18521 (by decide)
  have s18522 : τ 18522 = σ 18522 := hs 18522 (by decide)
  have s18523 : τ 18523 = σ 18523 := hs 18523 (by decide)
  have s18524 : τ 18524 = σ 18524 := hs 18524 (by decide)
  have s18525 : τ 18525 = σ 18525 := hs 18525 (by decide)
  have s18526 : τ 18526 = σ 18526 := hs 18526 (by decide)
  have s18527 : τ 18527 = σ 18527 := hs 18527 (by decide)
  have s18528 : τ 18528 = σ 18528 := hs 18528 (by decide)
  have s18529 : τ 18529 = σ 18529 := hs 18529 (by decide)
  have s18530 : τ 18530 = σ 18530 := hs 18530 (by decide)
  have s18531 : τ 18531 = σ 18531 := hs 18531 (by decide)
  have s18532 : τ 18532 = σ 18532 := hs 18532 (by decide)
  have s18533 : τ 18533 = σ 18533 := hs 18533 (by decide)
  have s18534 : τ 18534 = σ 18534 := hs 18534 (by decide)
  have s18535 : τ 18535 = σ 18535 := hs 18535 (by decide)
  clear hb ht
  rw [hx] at hr
  simp only [sx_c245, List.mem_cons, List.not_mem_nil, or_false] at hg
  rcases hg with rfl | rfl | rfl | rfl | rfl
  · obtain ⟨y, hy, hv⟩ := hr
    cases hy
    replace hv : x.toInt = (-1) + 0 := hv
    have f0 : 0 ≤ (-1) + (1 * τ 133 + 0) := hf _ (List.Mem.head _)
    have f1 : 0 ≤ 0 + (1 * τ 19001 + 0) := hf _ (List.Mem.tail _ (List.Mem.head _))
    have f2 : 0 ≤ 7 + ((-1) * τ 19001 + 0) := hf _ (List.Mem.tail _ (List.Mem.tail _ (List.Mem.head _)))
    have f3 : 0 ≤ (-1) + ((-1) * τ 19002 + 0) := hf _ (List.Mem.tail _ (List.Mem.tail _ (List.Mem.tail _ (List.Mem.head _))))
    have f4 : 0 ≤ (-1) + (1 * τ 133 + ((-1) * τ 19001 + 0)) := hf _ (List.Mem.tail _ (List.Mem.tail _ (List.Mem.tail _ (List.Mem.tail _ (List.Mem.head _)))))
    have m10250 : σ' 10250 = 0 + (1 * τ 10250 + 0) := hm 10250 (by decide)
    refine ⟨?_, lw_id s133 (hm 133 (by decide)), lw_id s12804 (hm 12804 (by decide)), lw_id s134 (hm 134 (by decide)), lw_id s12805 (hm 12805 (by decide)), lw_id s12814 (hm 12814 (by decide)), lw_id s18520 (hm 18520 (by decide)), lw_id s18528 (hm 18528 (by decide)), lw_id s18521 (hm 18521 (by decide)), lw_id s18529 (hm 18529 (by decide)), lw_id s18522 (hm 18522 (by decide)), lw_id s18530 (hm 18530 (by decide)), lw_id s18523 (hm 18523 (by decide)), lw_id s18531 (hm 18531 (by decide)), lw_id s18524 (hm 18524 (by decide)), lw_id s18532 (hm 18532 (by decide)), lw_id s18525 (hm 18525 (by decide)), lw_id s18533 (hm 18533 (by decide)), lw_id s18526 (hm 18526 (by decide)), lw_id s18534 (hm 18534 (by decide)), lw_id s18527 (hm 18527 (by decide)), lw_id s18535 (hm 18535 (by decide))⟩
    clear hf hm hs
    exact Or.inr ⟨fun h => (by omega), by omega⟩
  · obtain ⟨y, hy, hv⟩ := hr
    cases hy
    replace hv : x.toInt = (-1) + 0 := hv
    have f0 : 0 ≤ (-1) + (1 * τ 133 + 0) := hf _ (List.Mem.head _)
    have f1 : 0 ≤ 0 + (1 * τ 19001 + 0) := hf _ (List.Mem.tail _ (List.Mem.head _))
    have f2 : 0 ≤ 7 + ((-1) * τ 19001 + 0) := hf _ (List.Mem.tail _ (List.Mem.tail _ (List.Mem.head _)))
    have f3 : 0 ≤ (-1) + (1 * τ 19002 + 0) := hf _ (List.Mem.tail _ (List.Mem.tail _ (List.Mem.tail _ (List.Mem.head _))))
    have f4 : 0 ≤ (-1) + ((-1) * τ 10250 + (1 * τ 19002 + 0)) := hf _ (List.Mem.tail _ (List.Mem.tail _ (List.Mem.tail _ (List.Mem.tail _ (List.Mem.head _)))))
    have f5 : 0 ≤ (-1) + (1 * τ 133 + ((-1) * τ 19001 + 0)) := hf _ (List.Mem.tail _ (List.Mem.tail _ (List.Mem.tail _ (List.Mem.tail _ (List.Mem.tail _ (List.Mem.head _))))))
    have m10250 : σ' 10250 = 0 + (1 * τ 10250 + 0) := hm 10250 (by decide)
    refine ⟨?_, lw_id s133 (hm 133 (by decide)), lw_id s12804 (hm 12804 (by decide)), lw_id s134 (hm 134 (by decide)), lw_id s12805 (hm 12805 (by decide)), lw_id s12814 (hm 12814 (by decide)), lw_id s18520 (hm 18520 (by decide)), lw_id s18528 (hm 18528 (by decide)), lw_id s18521 (hm 18521 (by decide)), lw_id s18529 (hm 18529 (by decide)), lw_id s18522 (hm 18522 (by decide)), lw_id s18530 (hm 18530 (by decide)), lw_id s18523 (hm 18523 (by decide)), lw_id s18531 (hm 18531 (by decide)), lw_id s18524 (hm 18524 (by decide)), lw_id s18532 (hm 18532 (by decide)), lw_id s18525 (hm 18525 (by decide)), lw_id s18533 (hm 18533 (by decide)), lw_id s18526 (hm 18526 (by decide)), lw_id s18534 (hm 18534 (by decide)), lw_id s18527 (hm 18527 (by decide)), lw_id s18535 (hm 18535 (by decide))⟩
    clear hf hm hs
    exact Or.inr ⟨fun h => (by omega), by omega⟩
  · obtain ⟨y, hy, hv⟩ := hr
    cases hy
    replace hv : x.toInt = (-1) + 0 := hv
    have f0 : 0 ≤ (-1) + ((-1) * τ 19001 + 0) := hf _ (List.Mem.head _)
    have m10250 : σ' 10250 = 0 + (1 * τ 10250 + 0) := hm 10250 (by decide)
    refine ⟨?_, lw_id s133 (hm 133 (by decide)), lw_id s12804 (hm 12804 (by decide)), lw_id s134 (hm 134 (by decide)), lw_id s12805 (hm 12805 (by decide)), lw_id s12814 (hm 12814 (by decide)), lw_id s18520 (hm 18520 (by decide)), lw_id s18528 (hm 18528 (by decide)), lw_id s18521 (hm 18521 (by decide)), lw_id s18529 (hm 18529 (by decide)), lw_id s18522 (hm 18522 (by decide)), lw_id s18530 (hm 18530 (by decide)), lw_id s18523 (hm 18523 (by decide)), lw_id s18531 (hm 18531 (by decide)), lw_id s18524 (hm 18524 (by decide)), lw_id s18532 (hm 18532 (by decide)), lw_id s18525 (hm 18525 (by decide)), lw_id s18533 (hm 18533 (by decide)), lw_id s18526 (hm 18526 (by decide)), lw_id s18534 (hm 18534 (by decide)), lw_id s18527 (hm 18527 (by decide)), lw_id s18535 (hm 18535 (by decide))⟩
    clear hf hm hs
    exact Or.inr ⟨fun h => (by omega), by omega⟩
  · obtain ⟨y, hy, hv⟩ := hr
    cases hy
    replace hv : x.toInt = (-1) + 0 := hv
    have f0 : 0 ≤ 0 + (1 * τ 19001 + 0) := hf _ (List.Mem.head _)
    have f1 : 0 ≤ 0 + ((-1) * τ 133 + (1 * τ 19001 + 0)) := hf _ (List.Mem.tail _ (List.Mem.head _))
    have m10250 : σ' 10250 = 0 + (1 * τ 10250 + 0) := hm 10250 (by decide)
    refine ⟨?_, lw_id s133 (hm 133 (by decide)), lw_id s12804 (hm 12804 (by decide)), lw_id s134 (hm 134 (by decide)), lw_id s12805 (hm 12805 (by decide)), lw_id s12814 (hm 12814 (by decide)), lw_id s18520 (hm 18520 (by decide)), lw_id s18528 (hm 18528 (by decide)), lw_id s18521 (hm 18521 (by decide)), lw_id s18529 (hm 18529 (by decide)), lw_id s18522 (hm 18522 (by decide)), lw_id s18530 (hm 18530 (by decide)), lw_id s18523 (hm 18523 (by decide)), lw_id s18531 (hm 18531 (by decide)), lw_id s18524 (hm 18524 (by decide)), lw_id s18532 (hm 18532 (by decide)), lw_id s18525 (hm 18525 (by decide)), lw_id s18533 (hm 18533 (by decide)), lw_id s18526 (hm 18526 (by decide)), lw_id s18534 (hm 18534 (by decide)), lw_id s18527 (hm 18527 (by decide)), lw_id s18535 (hm 18535 (by decide))⟩
    clear hf hm hs
    exact Or.inr ⟨fun h => (by omega), by omega⟩
  · obtain ⟨y, hy, hv⟩ := hr
    cases hy
    replace hv : x.toInt = 0 + (1 * τ 1000032 + 0) := hv
    have f0 : 0 ≤ 0 + (1 * τ 7048 + ((-1) * τ 1000017 + 0)) := hf _ (List.Mem.head _)
    have f1 : 0 ≤ 0 + (1 * τ 7049 + ((-1) * τ 1000018 + 0)) := hf _ (List.Mem.tail _ (List.Mem.head _))
    have f2 : 0 ≤ 1 + ((-1) * τ 8069 + (1 * τ 1000019 + 0)) := hf _ (List.Mem.tail _ (List.Mem.tail _ (List.Mem.head _)))
    have f3 : 0 ≤ 0 + (1 * τ 8069 + ((-1) * τ 1000019 + 0)) := hf _ (List.Mem.tail _ (List.Mem.tail _ (List.Mem.tail _ (List.Mem.head _))))
    have f4 : 0 ≤ 0 + (1 * τ 11396 + ((-1) * τ 1000028 + 0)) := hf _ (List.Mem.tail _ (List.Mem.tail _ (List.Mem.tail _ (List.Mem.tail _ (List.Mem.head _)))))
    have f5 : 0 ≤ (-1) + (1 * τ 133 + 0) := hf _ (List.Mem.tail _ (List.Mem.tail _ (List.Mem.tail _ (List.Mem.tail _ (List.Mem.tail _ (List.Mem.head _))))))
    have f6 : 0 ≤ 0 + (1 * τ 19001 + 0) := hf _ (List.Mem.tail _ (List.Mem.tail _ (List.Mem.tail _ (List.Mem.tail _ (List.Mem.tail _ (List.Mem.tail _ (List.Mem.head _)))))))
    have f7 : 0 ≤ 7 + ((-1) * τ 19001 + 0) := hf _ (List.Mem.tail _ (List.Mem.tail _ (List.Mem.tail _ (List.Mem.tail _ (List.Mem.tail _ (List.Mem.tail _ (List.Mem.tail _ (List.Mem.head _))))))))
    have f8 : 0 ≤ 0 + (1 * τ 19002 + 0) := hf _ (List.Mem.tail _ (List.Mem.tail _ (List.Mem.tail _ (List.Mem.tail _ (List.Mem.tail _ (List.Mem.tail _ (List.Mem.tail _ (List.Mem.tail _ (List.Mem.head _)))))))))
    have f9 : 0 ≤ 300 + ((-1) * τ 19002 + 0) := hf _ (List.Mem.tail _ (List.Mem.tail _ (List.Mem.tail _ (List.Mem.tail _ (List.Mem.tail _ (List.Mem.tail _ (List.Mem.tail _ (List.Mem.tail _ (List.Mem.tail _ (List.Mem.head _))))))))))
    have f10 : 0 ≤ 0 + (1 * τ 10250 + ((-1) * τ 19002 + 0)) := hf _ (List.Mem.tail _ (List.Mem.tail _ (List.Mem.tail _ (List.Mem.tail _ (List.Mem.tail _ (List.Mem.tail _ (List.Mem.tail _ (List.Mem.tail _ (List.Mem.tail _ (List.Mem.tail _ (List.Mem.head _)))))))))))
    have f11 : 0 ≤ (-1) + (1 * τ 133 + ((-1) * τ 19001 + 0)) := hf _ (List.Mem.tail _ (List.Mem.tail _ (List.Mem.tail _ (List.Mem.tail _ (List.Mem.tail _ (List.Mem.tail _ (List.Mem.tail _ (List.Mem.tail _ (List.Mem.tail _ (List.Mem.tail _ (List.Mem.tail _ (List.Mem.head _))))))))))))
    have m10250 : σ' 10250 = 0 + 0 := hm 10250 (by decide)
    refine ⟨?_, lw_id s133 (hm 133 (by decide)), lw_id s12804 (hm 12804 (by decide)), lw_id s134 (hm 134 (by decide)), lw_id s12805 (hm 12805 (by decide)), lw_id s12814 (hm 12814 (by decide)), lw_id s18520 (hm 18520 (by decide)), lw_id s18528 (hm 18528 (by decide)), lw_id s18521 (hm 18521 (by decide)), lw_id s18529 (hm 18529 (by decide)), lw_id s18522 (hm 18522 (by decide)), lw_id s18530 (hm 18530 (by decide)), lw_id s18523 (hm 18523 (by decide)), lw_id s18531 (hm 18531 (by decide)), lw_id s18524 (hm 18524 (by decide)), lw_id s18532 (hm 18532 (by decide)), lw_id s18525 (hm 18525 (by decide)), lw_id s18533 (hm 18533 (by decide)), lw_id s18526 (hm 18526 (by decide)), lw_id s18534 (hm 18534 (by decide)), lw_id s18527 (hm 18527 (by decide)), lw_id s18535 (hm 18535 (by decide))⟩
    clear hf hm hs
    exact Or.inl ⟨⟨by omega, by omega, by omega, by omega⟩, by omega⟩
set_option maxHeartbeats 8000000 in
theorem lw_wishm {as : List rv_A} {σ σ' : Nat → Int} {o : rv_O} {x : Int32} {a1 a2 : Int} (hx : o.1 = some (.inl x)) (h1 : lw_av as 1 = a1) (h2 : lw_av as 2 = a2) (hb : ∀ s, (sx_sr s).1 ≤ σ s ∧ σ s ≤ (sx_sr s).2) (h : lw_Qc sx_c348 as σ σ' o) : (((0 ≤ a1 ∧ a1 < σ 12804 ∧ 0 ≤ a2 ∧ a2 ≤ σ 12814) ∧ σ' 12814 = 0) ∨ (¬ (0 ≤ a1 ∧ a1 < σ 12804 ∧ 0 ≤ a2 ∧ a2 ≤ σ 12814) ∧ σ' 12814 = σ 12814)) ∧ σ' 133 = σ 133 ∧ σ' 12804 = σ 12804 ∧ σ' 134 = σ 134 ∧ σ' 12805 = σ 12805 ∧ σ' 10250 = σ 10250 ∧ σ' 18520 = σ 18520 ∧ σ' 18528 = σ 18528 ∧ σ' 18521 = σ 18521 ∧ σ' 18529 = σ 18529 ∧ σ' 18522 = σ 18522 ∧ σ' 18530 = σ 18530 ∧ σ' 18523 = σ 18523 ∧ σ' 18531 = σ 18531 ∧ σ' 18524 = σ 18524 ∧ σ' 18532 = σ 18532 ∧ σ' 18525 = σ 18525 ∧ σ' 18533 = σ 18533 ∧ σ' 18526 = σ 18526 ∧ σ' 18534 = σ 18534 ∧ σ' 18527 = σ 18527 ∧ σ' 18535 = σ 18535 := by
  have b12804 : 0 ≤ σ 12804 ∧ σ 12804 ≤ 8 := by
    have h0 := hb 12804
    rw [show sx_sr 12804 = (0, 8) from by decide +kernel] at h0
    exact h0
  have b12805 : 0 ≤ σ 12805 ∧ σ 12805 ≤ 12 := by
    have h0 := hb 12805
    rw [show sx_sr 12805 = (0, 12) from by decide +kernel] at h0
    exact h0
  have b12814 : 0 ≤ σ 12814 ∧ σ 12814 ≤ 300 := by
    have h0 := hb 12814
    rw [show sx_sr 12814 = (0, 300) from by decide +kernel] at h0
    exact h0
  obtain ⟨g, hg, τ, hs, ht, hf, hr, hm, hw⟩ := h
  have e1 : τ 19001 = a1 := by rw [ht 19001 (by decide) (by decide)]; exact h1
  have e2 : τ 19002 = a2 := by rw [ht 19002 (by decide) (by decide)]; exact h2
  have s133 : τ 133 = σ 133 := hs 133 (by decide)
  have s134 : τ 134 = σ 134 := hs 134 (by decide)
  have s10250 : τ 10250 = σ 10250 := hs 10250 (by decide)
  have s12804 : τ 12804 = σ 12804 := hs 12804 (by decide)
  have s12805 : τ 12805 = σ 12805 := hs 12805 (by decide)
  have s12814 : τ 12814 = σ 12814 := hs 12814 (by decide)
  have s18520 : τ 18520 = σ 18520 := hs 18520 (by decide)
  have s18521 : τ 18521 = σ 18521 := hs 18521 (by decide)
  have s18522 : τ 18522 = σ 18522 := hs 18522 (by decide)
  have s18523 : τ 18523 = σ 18523 := hs 18523 (by decide)
  have s18524 : τ 18524 = σ 18524 := hs 18524 (by decide)
  have s18525 : τ 18525 = σ 18525 := hs 18525 (by decide)
  have s18526 : τ 18526 = σ 18526 := hs 18526 (by decide)
  have s18527 : τ 18527 = σ 18527 := hs 18527 (by decide)
  have s18528 : τ 18528 = σ 18528 := hs 18528 (by decide)
  have s18529 : τ 18529 = σ 18529 := hs 18529 (by decide)
  have s18530 : τ 18530 = σ 18530 := hs 18530 (by decide)
  have s18531 : τ 18531 = σ 18531 := hs 18531 (by decide)
  have s18532 : τ 18532 = σ 18532 := hs 18532 (by decide)
  have s18533 : τ 18533 = σ 18533 := hs 18533 (by decide)
  have s18534 : τ 18534 = σ 18534 := hs 18534 (by decide)
  have s18535 : τ 18535 = σ 18535 := hs 18535 (by decide)
  clear hb ht
  rw [hx] at hr
  simp only [sx_c348, List.mem_cons, List.not_mem_nil, or_false] at hg
  rcases hg with rfl | rfl | rfl | rfl | rfl
  · obtain ⟨y, hy, hv⟩ := hr
    cases hy
    replace hv : x.toInt = (-1) + 0 := hv
    have f0 : 0 ≤ (-1) + (1 * τ 12804 + 0) := hf _ (List.Mem.head _)
    have f1 : 0 ≤ 0 + (1 * τ 19001 + 0) := hf _ (List.Mem.tail _ (List.Mem.head _))
    have f2 : 0 ≤ 7 + ((-1) * τ 19001 + 0) := hf _ (List.Mem.tail _ (List.Mem.tail _ (List.Mem.head _)))
    have f3 : 0 ≤ (-1) + ((-1) * τ 19002 + 0) := hf _ (List.Mem.tail _ (List.Mem.tail _ (List.Mem.tail _ (List.Mem.head _))))
    have f4 : 0 ≤ (-1) + (1 * τ 12804 + ((-1) * τ 19001 + 0)) := hf _ (List.Mem.tail _ (List.Mem.tail _ (List.Mem.tail _ (List.Mem.tail _ (List.Mem.head _)))))
    have m12814 : σ' 12814 = 0 + (1 * τ 12814 + 0) := hm 12814 (by decide)
    refine ⟨?_, lw_id s133 (hm 133 (by decide)), lw_id s12804 (hm 12804 (by decide)), lw_id s134 (hm 134 (by decide)), lw_id s12805 (hm 12805 (by decide)), lw_id s10250 (hm 10250 (by decide)), lw_id s18520 (hm 18520 (by decide)), lw_id s18528 (hm 18528 (by decide)), lw_id s18521 (hm 18521 (by decide)), lw_id s18529 (hm 18529 (by decide)), lw_id s18522 (hm 18522 (by decide)), lw_id s18530 (hm 18530 (by decide)), lw_id s18523 (hm 18523 (by decide)), lw_id s18531 (hm 18531 (by decide)), lw_id s18524 (hm 18524 (by decide)), lw_id s18532 (hm 18532 (by decide)), lw_id s18525 (hm 18525 (by decide)), lw_id s18533 (hm 18533 (by decide)), lw_id s18526 (hm 18526 (by decide)), lw_id s18534 (hm 18534 (by decide)), lw_id s18527 (hm 18527 (by decide)), lw_id s18535 (hm 18535 (by decide))⟩
    clear hf hm hs
    exact Or.inr ⟨fun h => (by omega), by omega⟩
  · obtain ⟨y, hy, hv⟩ := hr
    cases hy
    replace hv : x.toInt = (-1) + 0 := hv
    have f0 : 0 ≤ (-1) + (1 * τ 12804 + 0) := hf _ (List.Mem.head _)
    have f1 : 0 ≤ 0 + (1 * τ 19001 + 0) := hf _ (List.Mem.tail _ (List.Mem.head _))
    have f2 : 0 ≤ 7 + ((-1) * τ 19001 + 0) := hf _ (List.Mem.tail _ (List.Mem.tail _ (List.Mem.head _)))
    have f3 : 0 ≤ (-1) + (1 * τ 19002 + 0) := hf _ (List.Mem.tail _ (List.Mem.tail _ (List.Mem.tail _ (List.Mem.head _))))
    have f4 : 0 ≤ (-1) + ((-1) * τ 12814 + (1 * τ 19002 + 0)) := hf _ (List.Mem.tail _ (List.Mem.tail _ (List.Mem.tail _ (List.Mem.tail _ (List.Mem.head _)))))
    have f5 : 0 ≤ (-1) + (1 * τ 12804 + ((-1) * τ 19001 + 0)) := hf _ (List.Mem.tail _ (List.Mem.tail _ (List.Mem.tail _ (List.Mem.tail _ (List.Mem.tail _ (List.Mem.head _))))))
    have m12814 : σ' 12814 = 0 + (1 * τ 12814 + 0) := hm 12814 (by decide)
    refine ⟨?_, lw_id s133 (hm 133 (by decide)), lw_id s12804 (hm 12804 (by decide)), lw_id s134 (hm 134 (by decide)), lw_id s12805 (hm 12805 (by decide)), lw_id s10250 (hm 10250 (by decide)), lw_id s18520 (hm 18520 (by decide)), lw_id s18528 (hm 18528 (by decide)), lw_id s18521 (hm 18521 (by decide)), lw_id s18529 (hm 18529 (by decide)), lw_id s18522 (hm 18522 (by decide)), lw_id s18530 (hm 18530 (by decide)), lw_id s18523 (hm 18523 (by decide)), lw_id s18531 (hm 18531 (by decide)), lw_id s18524 (hm 18524 (by decide)), lw_id s18532 (hm 18532 (by decide)), lw_id s18525 (hm 18525 (by decide)), lw_id s18533 (hm 18533 (by decide)), lw_id s18526 (hm 18526 (by decide)), lw_id s18534 (hm 18534 (by decide)), lw_id s18527 (hm 18527 (by decide)), lw_id s18535 (hm 18535 (by decide))⟩
    clear hf hm hs
    exact Or.inr ⟨fun h => (by omega), by omega⟩
  · obtain ⟨y, hy, hv⟩ := hr
    cases hy
    replace hv : x.toInt = (-1) + 0 := hv
    have f0 : 0 ≤ (-1) + ((-1) * τ 19001 + 0) := hf _ (List.Mem.head _)
    have m12814 : σ' 12814 = 0 + (1 * τ 12814 + 0) := hm 12814 (by decide)
    refine ⟨?_, lw_id s133 (hm 133 (by decide)), lw_id s12804 (hm 12804 (by decide)), lw_id s134 (hm 134 (by decide)), lw_id s12805 (hm 12805 (by decide)), lw_id s10250 (hm 10250 (by decide)), lw_id s18520 (hm 18520 (by decide)), lw_id s18528 (hm 18528 (by decide)), lw_id s18521 (hm 18521 (by decide)), lw_id s18529 (hm 18529 (by decide)), lw_id s18522 (hm 18522 (by decide)), lw_id s18530 (hm 18530 (by decide)), lw_id s18523 (hm 18523 (by decide)), lw_id s18531 (hm 18531 (by decide)), lw_id s18524 (hm 18524 (by decide)), lw_id s18532 (hm 18532 (by decide)), lw_id s18525 (hm 18525 (by decide)), lw_id s18533 (hm 18533 (by decide)), lw_id s18526 (hm 18526 (by decide)), lw_id s18534 (hm 18534 (by decide)), lw_id s18527 (hm 18527 (by decide)), lw_id s18535 (hm 18535 (by decide))⟩
    clear hf hm hs
    exact Or.inr ⟨fun h => (by omega), by omega⟩
  · obtain ⟨y, hy, hv⟩ := hr
    cases hy
    replace hv : x.toInt = (-1) + 0 := hv
    have f0 : 0 ≤ 0 + (1 * τ 19001 + 0) := hf _ (List.Mem.head _)
    have f1 : 0 ≤ 0 + ((-1) * τ 12804 + (1 * τ 19001 + 0)) := hf _ (List.Mem.tail _ (List.Mem.head _))
    have m12814 : σ' 12814 = 0 + (1 * τ 12814 + 0) := hm 12814 (by decide)
    refine ⟨?_, lw_id s133 (hm 133 (by decide)), lw_id s12804 (hm 12804 (by decide)), lw_id s134 (hm 134 (by decide)), lw_id s12805 (hm 12805 (by decide)), lw_id s10250 (hm 10250 (by decide)), lw_id s18520 (hm 18520 (by decide)), lw_id s18528 (hm 18528 (by decide)), lw_id s18521 (hm 18521 (by decide)), lw_id s18529 (hm 18529 (by decide)), lw_id s18522 (hm 18522 (by decide)), lw_id s18530 (hm 18530 (by decide)), lw_id s18523 (hm 18523 (by decide)), lw_id s18531 (hm 18531 (by decide)), lw_id s18524 (hm 18524 (by decide)), lw_id s18532 (hm 18532 (by decide)), lw_id s18525 (hm 18525 (by decide)), lw_id s18533 (hm 18533 (by decide)), lw_id s18526 (hm 18526 (by decide)), lw_id s18534 (hm 18534 (by decide)), lw_id s18527 (hm 18527 (by decide)), lw_id s18535 (hm 18535 (by decide))⟩
    clear hf hm hs
    exact Or.inr ⟨fun h => (by omega), by omega⟩
  · obtain ⟨y, hy, hv⟩ := hr
    cases hy
    replace hv : x.toInt = 0 + (1 * τ 1000059 + 0) := hv
    have f0 : 0 ≤ 1 + ((-1) * τ 18439 + (1 * τ 1000011 + 0)) := hf _ (List.Mem.head _)
    have f1 : 0 ≤ 1 + (1 * τ 18439 + ((-1) * τ 1000011 + 0)) := hf _ (List.Mem.tail _ (List.Mem.head _))
    have f2 : 0 ≤ 1 + ((-1) * τ 18440 + (1 * τ 1000012 + 0)) := hf _ (List.Mem.tail _ (List.Mem.tail _ (List.Mem.head _)))
    have f3 : 0 ≤ 1 + (1 * τ 18440 + ((-1) * τ 1000012 + 0)) := hf _ (List.Mem.tail _ (List.Mem.tail _ (List.Mem.tail _ (List.Mem.head _))))
    have f4 : 0 ≤ 1 + ((-1) * τ 18441 + (1 * τ 1000013 + 0)) := hf _ (List.Mem.tail _ (List.Mem.tail _ (List.Mem.tail _ (List.Mem.tail _ (List.Mem.head _)))))
    have f5 : 0 ≤ 1 + (1 * τ 18441 + ((-1) * τ 1000013 + 0)) := hf _ (List.Mem.tail _ (List.Mem.tail _ (List.Mem.tail _ (List.Mem.tail _ (List.Mem.tail _ (List.Mem.head _))))))
    have f6 : 0 ≤ 1 + ((-1) * τ 18442 + (1 * τ 1000014 + 0)) := hf _ (List.Mem.tail _ (List.Mem.tail _ (List.Mem.tail _ (List.Mem.tail _ (List.Mem.tail _ (List.Mem.tail _ (List.Mem.head _)))))))
    have f7 : 0 ≤ 1 + (1 * τ 18442 + ((-1) * τ 1000014 + 0)) := hf _ (List.Mem.tail _ (List.Mem.tail _ (List.Mem.tail _ (List.Mem.tail _ (List.Mem.tail _ (List.Mem.tail _ (List.Mem.tail _ (List.Mem.head _))))))))
    have f8 : 0 ≤ 1 + ((-1) * τ 18443 + (1 * τ 1000015 + 0)) := hf _ (List.Mem.tail _ (List.Mem.tail _ (List.Mem.tail _ (List.Mem.tail _ (List.Mem.tail _ (List.Mem.tail _ (List.Mem.tail _ (List.Mem.tail _ (List.Mem.head _)))))))))
    have f9 : 0 ≤ 1 + (1 * τ 18443 + ((-1) * τ 1000015 + 0)) := hf _ (List.Mem.tail _ (List.Mem.tail _ (List.Mem.tail _ (List.Mem.tail _ (List.Mem.tail _ (List.Mem.tail _ (List.Mem.tail _ (List.Mem.tail _ (List.Mem.tail _ (List.Mem.head _))))))))))
    have f10 : 0 ≤ 1 + ((-1) * τ 18444 + (1 * τ 1000016 + 0)) := hf _ (List.Mem.tail _ (List.Mem.tail _ (List.Mem.tail _ (List.Mem.tail _ (List.Mem.tail _ (List.Mem.tail _ (List.Mem.tail _ (List.Mem.tail _ (List.Mem.tail _ (List.Mem.tail _ (List.Mem.head _)))))))))))
    have f11 : 0 ≤ 1 + (1 * τ 18444 + ((-1) * τ 1000016 + 0)) := hf _ (List.Mem.tail _ (List.Mem.tail _ (List.Mem.tail _ (List.Mem.tail _ (List.Mem.tail _ (List.Mem.tail _ (List.Mem.tail _ (List.Mem.tail _ (List.Mem.tail _ (List.Mem.tail _ (List.Mem.tail _ (List.Mem.head _))))))))))))
    have f12 : 0 ≤ 1 + ((-1) * τ 18445 + (1 * τ 1000017 + 0)) := hf _ (List.Mem.tail _ (List.Mem.tail _ (List.Mem.tail _ (List.Mem.tail _ (List.Mem.tail _ (List.Mem.tail _ (List.Mem.tail _ (List.Mem.tail _ (List.Mem.tail _ (List.Mem.tail _ (List.Mem.tail _ (List.Mem.tail _ (List.Mem.head _)))))))))))))
    have f13 : 0 ≤ 1 + (1 * τ 18445 + ((-1) * τ 1000017 + 0)) := hf _ (List.Mem.tail _ (List.Mem.tail _ (List.Mem.tail _ (List.Mem.tail _ (List.Mem.tail _ (List.Mem.tail _ (List.Mem.tail _ (List.Mem.tail _ (List.Mem.tail _ (List.Mem.tail _ (List.Mem.tail _ (List.Mem.tail _ (List.Mem.tail _ (List.Mem.head _))))))))))))))
    have f14 : 0 ≤ 1 + ((-1) * τ 18446 + (1 * τ 1000018 + 0)) := hf _ (List.Mem.tail _ (List.Mem.tail _ (List.Mem.tail _ (List.Mem.tail _ (List.Mem.tail _ (List.Mem.tail _ (List.Mem.tail _ (List.Mem.tail _ (List.Mem.tail _ (List.Mem.tail _ (List.Mem.tail _ (List.Mem.tail _ (List.Mem.tail _ (List.Mem.tail _ (List.Mem.head _)))))))))))))))
    have f15 : 0 ≤ 1 + (1 * τ 18446 + ((-1) * τ 1000018 + 0)) := hf _ (List.Mem.tail _ (List.Mem.tail _ (List.Mem.tail _ (List.Mem.tail _ (List.Mem.tail _ (List.Mem.tail _ (List.Mem.tail _ (List.Mem.tail _ (List.Mem.tail _ (List.Mem.tail _ (List.Mem.tail _ (List.Mem.tail _ (List.Mem.tail _ (List.Mem.tail _ (List.Mem.tail _ (List.Mem.head _))))))))))))))))
    have f16 : 0 ≤ 1 + ((-1) * τ 18447 + (1 * τ 1000019 + 0)) := hf _ (List.Mem.tail _ (List.Mem.tail _ (List.Mem.tail _ (List.Mem.tail _ (List.Mem.tail _ (List.Mem.tail _ (List.Mem.tail _ (List.Mem.tail _ (List.Mem.tail _ (List.Mem.tail _ (List.Mem.tail _ (List.Mem.tail _ (List.Mem.tail _ (List.Mem.tail _ (List.Mem.tail _ (List.Mem.tail _ (List.Mem.head _)))))))))))))))))
    have f17 : 0 ≤ 1 + (1 * τ 18447 + ((-1) * τ 1000019 + 0)) := hf _ (List.Mem.tail _ (List.Mem.tail _ (List.Mem.tail _ (List.Mem.tail _ (List.Mem.tail _ (List.Mem.tail _ (List.Mem.tail _ (List.Mem.tail _ (List.Mem.tail _ (List.Mem.tail _ (List.Mem.tail _ (List.Mem.tail _ (List.Mem.tail _ (List.Mem.tail _ (List.Mem.tail _ (List.Mem.tail _ (List.Mem.tail _ (List.Mem.head _))))))))))))))))))
    have f18 : 0 ≤ 1 + ((-1) * τ 18448 + (1 * τ 1000020 + 0)) := hf _ (List.Mem.tail _ (List.Mem.tail _ (List.Mem.tail _ (List.Mem.tail _ (List.Mem.tail _ (List.Mem.tail _ (List.Mem.tail _ (List.Mem.tail _ (List.Mem.tail _ (List.Mem.tail _ (List.Mem.tail _ (List.Mem.tail _ (List.Mem.tail _ (List.Mem.tail _ (List.Mem.tail _ (List.Mem.tail _ (List.Mem.tail _ (List.Mem.tail _ (List.Mem.head _)))))))))))))))))))
    have f19 : 0 ≤ 1 + (1 * τ 18448 + ((-1) * τ 1000020 + 0)) := hf _ (List.Mem.tail _ (List.Mem.tail _ (List.Mem.tail _ (List.Mem.tail _ (List.Mem.tail _ (List.Mem.tail _ (List.Mem.tail _ (List.Mem.tail _ (List.Mem.tail _ (List.Mem.tail _ (List.Mem.tail _ (List.Mem.tail _ (List.Mem.tail _ (List.Mem.tail _ (List.Mem.tail _ (List.Mem.tail _ (List.Mem.tail _ (List.Mem.tail _ (List.Mem.tail _ (List.Mem.head _))))))))))))))))))))
    have f20 : 0 ≤ 1 + ((-1) * τ 18449 + (1 * τ 1000021 + 0)) := hf _ (List.Mem.tail _ (List.Mem.tail _ (List.Mem.tail _ (List.Mem.tail _ (List.Mem.tail _ (List.Mem.tail _ (List.Mem.tail _ (List.Mem.tail _ (List.Mem.tail _ (List.Mem.tail _ (List.Mem.tail _ (List.Mem.tail _ (List.Mem.tail _ (List.Mem.tail _ (List.Mem.tail _ (List.Mem.tail _ (List.Mem.tail _ (List.Mem.tail _ (List.Mem.tail _ (List.Mem.tail _ (List.Mem.head _)))))))))))))))))))))
    have f21 : 0 ≤ 1 + (1 * τ 18449 + ((-1) * τ 1000021 + 0)) := hf _ (List.Mem.tail _ (List.Mem.tail _ (List.Mem.tail _ (List.Mem.tail _ (List.Mem.tail _ (List.Mem.tail _ (List.Mem.tail _ (List.Mem.tail _ (List.Mem.tail _ (List.Mem.tail _ (List.Mem.tail _ (List.Mem.tail _ (List.Mem.tail _ (List.Mem.tail _ (List.Mem.tail _ (List.Mem.tail _ (List.Mem.tail _ (List.Mem.tail _ (List.Mem.tail _ (List.Mem.tail _ (List.Mem.tail _ (List.Mem.head _))))))))))))))))))))))
    have f22 : 0 ≤ 1 + ((-1) * τ 18450 + (1 * τ 1000022 + 0)) := hf _ (List.Mem.tail _ (List.Mem.tail _ (List.Mem.tail _ (List.Mem.tail _ (List.Mem.tail _ (List.Mem.tail _ (List.Mem.tail _ (List.Mem.tail _ (List.Mem.tail _ (List.Mem.tail _ (List.Mem.tail _ (List.Mem.tail _ (List.Mem.tail _ (List.Mem.tail _ (List.Mem.tail _ (List.Mem.tail _ (List.Mem.tail _ (List.Mem.tail _ (List.Mem.tail _ (List.Mem.tail _ (List.Mem.tail _ (List.Mem.tail _ (List.Mem.head _)))))))))))))))))))))))
    have f23 : 0 ≤ 1 + (1 * τ 18450 + ((-1) * τ 1000022 + 0)) := hf _ (List.Mem.tail _ (List.Mem.tail _ (List.Mem.tail _ (List.Mem.tail _ (List.Mem.tail _ (List.Mem.tail _ (List.Mem.tail _ (List.Mem.tail _ (List.Mem.tail _ (List.Mem.tail _ (List.Mem.tail _ (List.Mem.tail _ (List.Mem.tail _ (List.Mem.tail _ (List.Mem.tail _ (List.Mem.tail _ (List.Mem.tail _ (List.Mem.tail _ (List.Mem.tail _ (List.Mem.tail _ (List.Mem.tail _ (List.Mem.tail _ (List.Mem.tail _ (List.Mem.head _))))))))))))))))))))))))
    have f24 : 0 ≤ 1 + ((-1) * τ 18451 + (1 * τ 1000023 + 0)) := hf _ (List.Mem.tail _ (List.Mem.tail _ (List.Mem.tail _ (List.Mem.tail _ (List.Mem.tail _ (List.Mem.tail _ (List.Mem.tail _ (List.Mem.tail _ (List.Mem.tail _ (List.Mem.tail _ (List.Mem.tail _ (List.Mem.tail _ (List.Mem.tail _ (List.Mem.tail _ (List.Mem.tail _ (List.Mem.tail _ (List.Mem.tail _ (List.Mem.tail _ (List.Mem.tail _ (List.Mem.tail _ (List.Mem.tail _ (List.Mem.tail _ (List.Mem.tail _ (List.Mem.tail _ (List.Mem.head _)))))))))))))))))))))))))
    have f25 : 0 ≤ 1 + (1 * τ 18451 + ((-1) * τ 1000023 + 0)) := hf _ (List.Mem.tail _ (List.Mem.tail _ (List.Mem.tail _ (List.Mem.tail _ (List.Mem.tail _ (List.Mem.tail _ (List.Mem.tail _ (List.Mem.tail _ (List.Mem.tail _ (List.Mem.tail _ (List.Mem.tail _ (List.Mem.tail _ (List.Mem.tail _ (List.Mem.tail _ (List.Mem.tail _ (List.Mem.tail _ (List.Mem.tail _ (List.Mem.tail _ (List.Mem.tail _ (List.Mem.tail _ (List.Mem.tail _ (List.Mem.tail _ (List.Mem.tail _ (List.Mem.tail _ (List.Mem.tail _ (List.Mem.head _))))))))))))))))))))))))))
    have f26 : 0 ≤ 1 + ((-1) * τ 18452 + (1 * τ 1000024 + 0)) := hf _ (List.Mem.tail _ (List.Mem.tail _ (List.Mem.tail _ (List.Mem.tail _ (List.Mem.tail _ (List.Mem.tail _ (List.Mem.tail _ (List.Mem.tail _ (List.Mem.tail _ (List.Mem.tail _ (List.Mem.tail _ (List.Mem.tail _ (List.Mem.tail _ (List.Mem.tail _ (List.Mem.tail _ (List.Mem.tail _ (List.Mem.tail _ (List.Mem.tail _ (List.Mem.tail _ (List.Mem.tail _ (List.Mem.tail _ (List.Mem.tail _ (List.Mem.tail _ (List.Mem.tail _ (List.Mem.tail _ (List.Mem.tail _ (List.Mem.head _)))))))))))))))))))))))))))
    have f27 : 0 ≤ 1 + (1 * τ 18452 + ((-1) * τ 1000024 + 0)) := hf _ (List.Mem.tail _ (List.Mem.tail _ (List.Mem.tail _ (List.Mem.tail _ (List.Mem.tail _ (List.Mem.tail _ (List.Mem.tail _ (List.Mem.tail _ (List.Mem.tail _ (List.Mem.tail _ (List.Mem.tail _ (List.Mem.tail _ (List.Mem.tail _ (List.Mem.tail _ (List.Mem.tail _ (List.Mem.tail _ (List.Mem.tail _ (List.Mem.tail _ (List.Mem.tail _ (List.Mem.tail _ (List.Mem.tail _ (List.Mem.tail _ (List.Mem.tail _ (List.Mem.tail _ (List.Mem.tail _ (List.Mem.tail _ (List.Mem.tail _ (List.Mem.head _))))))))))))))))))))))))))))
    have f28 : 0 ≤ (-1) + (1 * τ 12804 + 0) := hf _ (List.Mem.tail _ (List.Mem.tail _ (List.Mem.tail _ (List.Mem.tail _ (List.Mem.tail _ (List.Mem.tail _ (List.Mem.tail _ (List.Mem.tail _ (List.Mem.tail _ (List.Mem.tail _ (List.Mem.tail _ (List.Mem.tail _ (List.Mem.tail _ (List.Mem.tail _ (List.Mem.tail _ (List.Mem.tail _ (List.Mem.tail _ (List.Mem.tail _ (List.Mem.tail _ (List.Mem.tail _ (List.Mem.tail _ (List.Mem.tail _ (List.Mem.tail _ (List.Mem.tail _ (List.Mem.tail _ (List.Mem.tail _ (List.Mem.tail _ (List.Mem.tail _ (List.Mem.head _)))))))))))))))))))))))))))))
    have f29 : 0 ≤ 0 + (1 * τ 19001 + 0) := hf _ (List.Mem.tail _ (List.Mem.tail _ (List.Mem.tail _ (List.Mem.tail _ (List.Mem.tail _ (List.Mem.tail _ (List.Mem.tail _ (List.Mem.tail _ (List.Mem.tail _ (List.Mem.tail _ (List.Mem.tail _ (List.Mem.tail _ (List.Mem.tail _ (List.Mem.tail _ (List.Mem.tail _ (List.Mem.tail _ (List.Mem.tail _ (List.Mem.tail _ (List.Mem.tail _ (List.Mem.tail _ (List.Mem.tail _ (List.Mem.tail _ (List.Mem.tail _ (List.Mem.tail _ (List.Mem.tail _ (List.Mem.tail _ (List.Mem.tail _ (List.Mem.tail _ (List.Mem.tail _ (List.Mem.head _))))))))))))))))))))))))))))))
    have f30 : 0 ≤ 7 + ((-1) * τ 19001 + 0) := hf _ (List.Mem.tail _ (List.Mem.tail _ (List.Mem.tail _ (List.Mem.tail _ (List.Mem.tail _ (List.Mem.tail _ (List.Mem.tail _ (List.Mem.tail _ (List.Mem.tail _ (List.Mem.tail _ (List.Mem.tail _ (List.Mem.tail _ (List.Mem.tail _ (List.Mem.tail _ (List.Mem.tail _ (List.Mem.tail _ (List.Mem.tail _ (List.Mem.tail _ (List.Mem.tail _ (List.Mem.tail _ (List.Mem.tail _ (List.Mem.tail _ (List.Mem.tail _ (List.Mem.tail _ (List.Mem.tail _ (List.Mem.tail _ (List.Mem.tail _ (List.Mem.tail _ (List.Mem.tail _ (List.Mem.tail _ (List.Mem.head _)))))))))))))))))))))))))))))))
    have f31 : 0 ≤ 0 + (1 * τ 19002 + 0) := hf _ (List.Mem.tail _ (List.Mem.tail _ (List.Mem.tail _ (List.Mem.tail _ (List.Mem.tail _ (List.Mem.tail _ (List.Mem.tail _ (List.Mem.tail _ (List.Mem.tail _ (List.Mem.tail _ (List.Mem.tail _ (List.Mem.tail _ (List.Mem.tail _ (List.Mem.tail _ (List.Mem.tail _ (List.Mem.tail _ (List.Mem.tail _ (List.Mem.tail _ (List.Mem.tail _ (List.Mem.tail _ (List.Mem.tail _ (List.Mem.tail _ (List.Mem.tail _ (List.Mem.tail _ (List.Mem.tail _ (List.Mem.tail _ (List.Mem.tail _ (List.Mem.tail _ (List.Mem.tail _ (List.Mem.tail _ (List.Mem.tail _ (List.Mem.head _))))))))))))))))))))))))))))))))
    have f32 : 0 ≤ 300 + ((-1) * τ 19002 + 0) := hf _ (List.Mem.tail _ (List.Mem.tail _ (List.Mem.tail _ (List.Mem.tail _ (List.Mem.tail _ (List.Mem.tail _ (List.Mem.tail _ (List.Mem.tail _ (List.Mem.tail _ (List.Mem.tail _ (List.Mem.tail _ (List.Mem.tail _ (List.Mem.tail _ (List.Mem.tail _ (List.Mem.tail _ (List.Mem.tail _ (List.Mem.tail _ (List.Mem.tail _ (List.Mem.tail _ (List.Mem.tail _ (List.Mem.tail _ (List.Mem.tail _ (List.Mem.tail _ (List.Mem.tail _ (List.Mem.tail _ (List.Mem.tail _ (List.Mem.tail _ (List.Mem.tail _ (List.Mem.tail _ (List.Mem.tail _ (List.Mem.tail _ (List.Mem.tail _ (List.Mem.head _)))))))))))))))))))))))))))))))))
    have f33 : 0 ≤ (-1) + (1 * τ 12804 + ((-1) * τ 19001 + 0)) := hf _ (List.Mem.tail _ (List.Mem.tail _ (List.Mem.tail _ (List.Mem.tail _ (List.Mem.tail _ (List.Mem.tail _ (List.Mem.tail _ (List.Mem.tail _ (List.Mem.tail _ (List.Mem.tail _ (List.Mem.tail _ (List.Mem.tail _ (List.Mem.tail _ (List.Mem.tail _ (List.Mem.tail _ (List.Mem.tail _ (List.Mem.tail _ (List.Mem.tail _ (List.Mem.tail _ (List.Mem.tail _ (List.Mem.tail _ (List.Mem.tail _ (List.Mem.tail _ (List.Mem.tail _ (List.Mem.tail _ (List.Mem.tail _ (List.Mem.tail _ (List.Mem.tail _ (List.Mem.tail _ (List.Mem.tail _ (List.Mem.tail _ (List.Mem.tail _ (List.Mem.tail _ (List.Mem.head _))))))))))))))))))))))))))))))))))
    have f34 : 0 ≤ 0 + (1 * τ 12814 + ((-1) * τ 19002 + 0)) := hf _ (List.Mem.tail _ (List.Mem.tail _ (List.Mem.tail _ (List.Mem.tail _ (List.Mem.tail _ (List.Mem.tail _ (List.Mem.tail _ (List.Mem.tail _ (List.Mem.tail _ (List.Mem.tail _ (List.Mem.tail _ (List.Mem.tail _ (List.Mem.tail _ (List.Mem.tail _ (List.Mem.tail _ (List.Mem.tail _ (List.Mem.tail _ (List.Mem.tail _ (List.Mem.tail _ (List.Mem.tail _ (List.Mem.tail _ (List.Mem.tail _ (List.Mem.tail _ (List.Mem.tail _ (List.Mem.tail _ (List.Mem.tail _ (List.Mem.tail _ (List.Mem.tail _ (List.Mem.tail _ (List.Mem.tail _ (List.Mem.tail _ (List.Mem.tail _ (List.Mem.tail _ (List.Mem.tail _ (List.Mem.head _)))))))))))))))))))))))))))))))))))
    have m12814 : σ' 12814 = 0 + 0 := hm 12814 (by decide)
    refine ⟨?_, lw_id s133 (hm 133 (by decide)), lw_id s12804 (hm 12804 (by decide)), lw_id s134 (hm 134 (by decide)), lw_id s12805 (hm 12805 (by decide)), lw_id s10250 (hm 10250 (by decide)), lw_id s18520 (hm 18520 (by decide)), lw_id s18528 (hm 18528 (by decide)), lw_id s18521 (hm 18521 (by decide)), lw_id s18529 (hm 18529 (by decide)), lw_id s18522 (hm 18522 (by decide)), lw_id s18530 (hm 18530 (by decide)), lw_id s18523 (hm 18523 (by decide)), lw_id s18531 (hm 18531 (by decide)), lw_id s18524 (hm 18524 (by decide)), lw_id s18532 (hm 18532 (by decide)), lw_id s18525 (hm 18525 (by decide)), lw_id s18533 (hm 18533 (by decide)), lw_id s18526 (hm 18526 (by decide)), lw_id s18534 (hm 18534 (by decide)), lw_id s18527 (hm 18527 (by decide)), lw_id s18535 (hm 18535 (by decide))⟩
    clear hf hm hs
    exact Or.inl ⟨⟨by omega, by omega, by omega, by omega⟩, by omega⟩
set_option maxHeartbeats 8000000 in
theorem lw_pq9 {y1 y2 : Int32} {o1 o2 : rv_O} {h0 : List rv_C} {σ σ1 σ2 : Nat → Int} {z1 z2 : Int32} (hz1 : o1.1 = some (.inl z1)) (hz2 : o2.1 = some (.inl z2)) (h1 : lw_Qc sx_c245 [rv_ref 0, .inl y1, .inl y2] σ σ1 o1) (h2 : lw_Qc sx_c348 [rv_ref 100, .inl y1, .inl y2] σ1 σ2 o2) (hR : lw_R σ) (hJ : lw_Js σ h0) (hJ1 : lw_Js σ1 o1.2) (hJ2 : lw_Js σ2 o2.2) : lw_R σ2 := by
  obtain ⟨g1, u133, u12804, u134, u12805, u12814, u18520, u18528, u18521, u18529, u18522, u18530, u18523, u18531, u18524, u18532, u18525, u18533, u18526, u18534, u18527, u18535⟩ := lw_wishx (a1 := y1.toInt) (a2 := y2.toInt) hz1 rfl rfl hJ.2.1 h1
  obtain ⟨g2, v133, v12804, v134, v12805, v10250, v18520, v18528, v18521, v18529, v18522, v18530, v18523, v18531, v18524, v18532, v18525, v18533, v18526, v18534, v18527, v18535⟩ := lw_wishm (a1 := y1.toInt) (a2 := y2.toInt) hz2 rfl rfl hJ1.2.1 h2
  obtain ⟨r0, r1, r2, k0, k1, k2, k3, k4, k5, k6, k7⟩ := hR
  clear h1 h2 hJ hJ1 hJ2 hz1 hz2
  have e0 := u12804
  have e1 := u12814
  have e2 := v10250
  have hn : σ2 10250 = σ2 12814 := by clear k0 k1 k2 k3 k4 k5 k6 k7 u133 u12804 u134 u12805 u12814 u18520 u18528 u18521 u18529 u18522 u18530 u18523 u18531 u18524 u18532 u18525 u18533 u18526 u18534 u18527 u18535 v133 v12804 v134 v12805 v10250 v18520 v18528 v18521 v18529 v18522 v18530 v18523 v18531 v18524 v18532 v18525 v18533 v18526 v18534 v18527 v18535; omega
  exact ⟨(by rw [v133, u133, v12804, u12804]; exact r0), (by rw [v134, u134, v12805, u12805]; exact r1), hn, (by rw [v133, u133, v18520, u18520, v18528, u18528]; exact k0), (by rw [v133, u133, v18521, u18521, v18529, u18529]; exact k1), (by rw [v133, u133, v18522, u18522, v18530, u18530]; exact k2), (by rw [v133, u133, v18523, u18523, v18531, u18531]; exact k3), (by rw [v133, u133, v18524, u18524, v18532, u18532]; exact k4), (by rw [v133, u133, v18525, u18525, v18533, u18533]; exact k5), (by rw [v133, u133, v18526, u18526, v18534, u18534]; exact k6), (by rw [v133, u133, v18527, u18527, v18535, u18535]; exact k7)⟩
theorem lw_sp9 {y1 y2 : Int32} {o1 o2 : rv_O} {h0 : List rv_C} {σ σ1 σ2 : Nat → Int} {z1 z2 : Int32} (hz1 : o1.1 = some (.inl z1)) (hz2 : o2.1 = some (.inl z2)) (h1 : lw_Qc sx_c245 [rv_ref 0, .inl y1, .inl y2] σ σ1 o1) (h2 : lw_Qc sx_c348 [rv_ref 100, .inl y1, .inl y2] σ1 σ2 o2) (hR : lw_R σ) (hJ : lw_Js σ h0) (hJ1 : lw_Js σ1 o1.2) (hJ2 : lw_Js σ2 o2.2) : lw_R σ2 := lw_pq9 hz1 hz2 h1 h2 hR hJ hJ1 hJ2
/-! MUSTS AND LAWFUL GROUPS, call by call -/
theorem lw_hh {σ : Nat → Int} {h : List rv_C} (hJ : lw_Js σ h) : sx_HH σ (sx_ga h) := sx_HH_cg (fun c _ _ => by show sx_d σ (sx_s c) = σ c; rw [sx_d_s]) ⟨rfl, rfl, rfl, rfl, rfl, rfl⟩ hJ.1.2.2.2.2.2
theorem lw_re {σ σ' : Nat → Int} {h : List rv_C} (hJ : lw_Js σ h) (hlo : ∀ c, c < 18536 → σ' c = σ c) (hb : ∀ s, 18536 ≤ s → (sx_sr s).1 ≤ σ' s ∧ σ' s ≤ (sx_sr s).2) (hH : sx_HH σ' (sx_ga h)) : lw_Js σ' h := by
  obtain ⟨⟨h1, h2, h3, h4, h5⟩, hr, hD⟩ := hJ
  have hr' : ∀ s, (sx_sr s).1 ≤ σ' s ∧ σ' s ≤ (sx_sr s).2 := fun s => by
    by_cases e : s < 18536
    · rw [hlo s e]
      exact hr s
    · exact hb s (by omega)
  refine ⟨⟨h1, fun q hq => (by cases hq), fun kk j y ht hy => ?_, fun s hs => ?_, sx_GG_cg (γ := σ') (fun c _ _ => ?_) ⟨sx_G0_cg (γ := fun c => sx_d σ (sx_hg [] c)) (fun c a b => ?_) h5.1, hH⟩⟩, hr', ?_⟩
  · have hl := sx_fv_lt h1 hy
    have h6 := h3 kk j y ht hy
    show y = sx_d σ' (sx_s (kk * 128 + j))
    rw [sx_d_s, hlo _ (by omega), h6]
    show sx_d σ (sx_s (kk * 128 + j)) = _
    rw [sx_d_s]
  · show (sx_sr s).1 ≤ sx_d σ' (sx_s s) ∧ sx_d σ' (sx_s s) ≤ (sx_sr s).2
    rw [sx_d_s]
    exact hr' s
  · show σ' c = sx_d σ' (sx_s c)
    rw [sx_d_s]
  · show sx_d σ (sx_s c) = σ' c
    rw [sx_d_s, hlo c b]
  · rw [hlo 18461 (by decide)]
    exact hD
theorem lw_RC_lo : ∀ s ∈ lw_RC, s < 18536 := by decide
/-- what the second half keeps -/
noncomputable def lw_kmo (c : sx_Cn) : Bool := c.2.2.2.2.all (fun g => lw_RCM.all (fun s => Nat.blt s 19000 && decide (sx_hg g.2.2.1 s = (0, [(s, 1)]))) && (decide (sx_hg g.2.2.1 133 = (0, [(133, 1)])) || decide (sx_hg g.2.2.1 133 = (1, [(133, 1)]))))
theorem lw_km {c : sx_Cn} {as : List rv_A} {σ σ' : Nat → Int} {o : rv_O} (hk : lw_kmo c = true) (h : lw_Qc c as σ σ' o) : (∀ s ∈ lw_RCM, σ' s = σ s) ∧ σ 133 ≤ σ' 133 := by
  obtain ⟨g, hg, τ, hs, -, -, -, hm, -⟩ := h
  have h0 := List.all_eq_true.mp hk g hg
  rw [Bool.and_eq_true, Bool.or_eq_true] at h0
  refine ⟨fun s hs2 => ?_, ?_⟩
  · have h1 := List.all_eq_true.mp h0.1 s hs2
    rw [Bool.and_eq_true] at h1
    have h3 := sx_blt h1.1
    rw [hm s h3, of_decide_eq_true h1.2]
    show sx_d τ (sx_s s) = σ s
    rw [sx_d_s]
    exact hs s h3
  · rw [hm 133 (by decide)]
    rcases h0.2 with h1 | h1
    · rw [of_decide_eq_true h1]
      show _ ≤ 0 + (1 * τ 133 + 0)
      have := hs 133 (by decide)
      omega
    · rw [of_decide_eq_true h1]
      show _ ≤ 1 + (1 * τ 133 + 0)
      have := hs 133 (by decide)
      omega
theorem lw_stayM {c1 c2 : sx_Cn} {as1 as2 : List rv_A} {σ σ1 σ2 : Nat → Int} {o1 o2 : rv_O} (k1 : lw_kmo c1 = true) (k2 : lw_kmo c2 = true) (h1 : lw_Qc c1 as1 σ σ1 o1) (h2 : lw_Qc c2 as2 σ1 σ2 o2) (hM : lw_M σ) : lw_M σ2 := lw_M_cg (fun s hs => ((lw_km k2 h2).1 s hs).trans ((lw_km k1 h1).1 s hs)) (Int.le_trans (lw_km k1 h1).2 (lw_km k2 h2).2) hM
/-- a must comes -/
theorem lw_ch7 {σ : Nat → Int} {h : List rv_C} (hJ : lw_Js σ h) (hR : lw_R σ) (hM : lw_M σ) : ∃ σ' : Nat → Int, lw_Js σ' h ∧ lw_R σ' ∧ lw_M σ' ∧ σ' 18595 = 2 ∧ σ' 18594 = 0 := by
  have hlo : ∀ c, c < 18536 → (if c = 18595 then 2 else if c = 18594 then 0 else σ c) = σ c := fun c hc => by
    rw [if_neg (by omega), if_neg (by omega)]
  have hH := lw_hh hJ
  obtain ⟨g0, g1, g2, g3, g4, g5, g6, g7, g8, g9, g10, g11, g12, g13, g14, g15, g16, g17, g18, g19, g20, g21, g22, g23, g24, g25, g26, g27, g28, g29, g30, g31, g32, g33, g34, g35, g36⟩ := hH
  refine ⟨fun c => if c = 18595 then 2 else if c = 18594 then 0 else σ c, lw_re hJ hlo (fun s hs => ?_) ⟨g0, g1, g2, g3, g4, g5, g6, g7, g8, (fun h => absurd (show (2 : Int) = 1 from h) (by decide)), (fun h => absurd (show (2 : Int) = 1 from h) (by decide)), (fun h => absurd (show (2 : Int) = 1 from h) (by decide)), (fun h => absurd (show (2 : Int) = 1 from h) (by decide)), (fun h => absurd (show (2 : Int) = 1 from h) (by decide)), (fun h => absurd (show (2 : Int) = 1 from h) (by decide)), (fun h => absurd (show (2 : Int) = 1 from h) (by decide)), (fun h => absurd (show (2 : Int) = 1 from h) (by decide)), (fun h => absurd (show (2 : Int) = 1 from h) (by decide)), (fun h => absurd (show (2 : Int) = 1 from h) (by decide)), (fun h => absurd (show (2 : Int) = 1 from h) (by decide)), (fun h => absurd (show (2 : Int) = 1 from h) (by decide)), (fun h => absurd (show (2 : Int) = 1 from h) (by decide)), (fun h => absurd (show (2 : Int) = 1 from h) (by decide)), (fun h => absurd (show (2 : Int) = 1 from h) (by decide)), (fun h => absurd (show (2 : Int) = 1 from h) (by decide)), (fun h => absurd (show (2 : Int) = 1 from h) (by decide)), (fun h => absurd (show (2 : Int) = 1 from h) (by decide)), (fun h => absurd (show (2 : Int) = 1 from h) (by decide)), (fun h => absurd (show (2 : Int) = 1 from h) (by decide)), (fun h => absurd (show (2 : Int) = 1 from h) (by decide)), (fun h => absurd (show (2 : Int) = 1 from h) (by decide)), (fun h => absurd (show (2 : Int) = 1 from h) (by decide)), (fun h => absurd (show (2 : Int) = 1 from h) (by decide)), (fun h => absurd (show (2 : Int) = 1 from h) (by decide)), (fun h => absurd (show (2 : Int) = 1 from h) (by decide)), (fun h => absurd (show (2 : Int) = 1 from h) (by decide)), (fun h => absurd (show (2 : Int) = 1 from h) (by decide))⟩, lw_R_cg (fun s hs => hlo s (lw_RC_lo s hs)) hR, lw_M_cg (fun s hs => ?_) (Int.le_of_eq rfl) hM, rfl, rfl⟩
  · by_cases e : s = 18595
    · subst e
      rw [show sx_sr 18595 = (0, 2) from by decide +kernel]
      constructor <;> simp
    · by_cases e2 : s = 18594
      · subst e2
        rw [show sx_sr 18594 = (0, 2) from by decide +kernel]
        constructor <;> simp
      · show (sx_sr s).1 ≤ (if s = 18595 then 2 else if s = 18594 then 0 else σ s) ∧ (if s = 18595 then 2 else if s = 18594 then 0 else σ s) ≤ (sx_sr s).2
        rw [if_neg e, if_neg e2]
        exact hJ.2.1 s
  · show (if s = 18595 then 2 else if s = 18594 then 0 else σ s) = σ s
    have : ∀ s ∈ lw_RCM, s ≠ 18595 ∧ s ≠ 18594 := by decide
    rw [if_neg (this s hs).1, if_neg (this s hs).2]
theorem lw_pre7x {σ : Nat → Int} (hq : σ 18595 = 2 ∧ σ 18594 = 0) {as : List rv_A} : ∀ τ : Nat → Int, (∀ s, s < 19000 → τ s = σ s) → (∀ s, 19000 ≤ s → s < 20000 → τ s = lw_av as (s - 19000)) → ∀ f ∈ sx_c219.2.2.2.1, 0 ≤ sx_d τ f := by
  intro τ ht ha f hf
  have t18594 := ht 18594 (by decide)
  have t18595 := ht 18595 (by decide)
  obtain ⟨q1, q2⟩ := hq
  replace hf : f ∈ ([((-2), [(18595, 1)]), (2, [(18595, (-1))]), (0, [(18594, (-1))])] : List sx_F) := hf
  simp only [List.mem_cons, List.not_mem_nil, or_false] at hf
  rcases hf with rfl | rfl | rfl
  · show 0 ≤ (-2) + (1 * τ 18595 + 0)
    omega
  · show 0 ≤ 2 + ((-1) * τ 18595 + 0)
    omega
  · show 0 ≤ 0 + ((-1) * τ 18594 + 0)
    omega
theorem lw_pre7m {σ : Nat → Int} (hq : σ 18595 = 2) {as : List rv_A} : ∀ τ : Nat → Int, (∀ s, s < 19000 → τ s = σ s) → (∀ s, 19000 ≤ s → s < 20000 → τ s = lw_av as (s - 19000)) → ∀ f ∈ sx_c316.2.2.2.1, 0 ≤ sx_d τ f := by
  intro τ ht ha f hf
  have t18595 := ht 18595 (by decide)
  replace hf : f ∈ ([((-2), [(18595, 1)]), (2, [(18595, (-1))])] : List sx_F) := hf
  simp only [List.mem_cons, List.not_mem_nil, or_false] at hf
  rcases hf with rfl | rfl
  · show 0 ≤ (-2) + (1 * τ 18595 + 0)
    omega
  · show 0 ≤ 2 + ((-1) * τ 18595 + 0)
    omega
theorem lw_kq7 {c : sx_Cn} {as : List rv_A} {σ σ' : Nat → Int} {o : rv_O} (hk : c.2.2.2.2.all (fun g => decide (sx_hg g.2.2.1 18595 = (0, [(18595, 1)]))) = true) (h : lw_Qc c as σ σ' o) (hq : σ 18595 = 2) : σ' 18595 = 2 := by
  obtain ⟨g, hg, τ, hs, -, -, -, hm, -⟩ := h
  rw [hm 18595 (by decide), of_decide_eq_true (List.all_eq_true.mp hk g hg)]
  show sx_d τ (sx_s 18595) = 2
  rw [sx_d_s, hs 18595 (by decide)]
  exact hq
def lw_ux_C (a1 a2 a3 z : Int) (σ σ' : Nat → Int) : Prop := ((z = 1 ∧ 0 ≤ a1 ∧ a1 ≤ 7 ∧ 0 ≤ a2 ∧ a2 ≤ 7 ∧ ((1 ≤ a3 ∧ lw_ti a1.toNat a2.toNat (fun p => σ (18544 + p)) (fun p => σ' (18544 + p)) ∧ (∀ p, p < 8 → σ' (18536 + p) = σ (18536 + p))) ∨ (a3 ≤ 0 ∧ lw_ti a1.toNat a2.toNat (fun p => σ (18536 + p)) (fun p => σ' (18536 + p)) ∧ (∀ p, p < 8 → σ' (18544 + p) = σ (18544 + p))))) ∨ (z = 0 ∧ (∀ p, p < 8 → σ' (18536 + p) = σ (18536 + p)) ∧ (∀ p, p < 8 → σ' (18544 + p) = σ (18544 + p))))
set_option maxHeartbeats 1000000 in
theorem lw_ux_0 {as : List rv_A} {σ σ' : Nat → Int} {o : rv_O} {x : Int32} {a1 a2 a3 : Int} {τ : Nat → Int} (hx : o.1 = some (.inl x)) (h1 : lw_av as 1 = a1) (h2 : lw_av as 2 = a2) (h3 : lw_av as 3 = a3) (ho1 : sy_or (σ' 18588) (σ' 18589) (σ' 18590)) (ho2 : sy_or (σ' 18591) (σ' 18592) (σ' 18593)) (hW : lw_W ([], [((-1), [(133, 1)]), ((-12), [(134, 1)]), (0, [(19001, 1)]), (6, [(19001, (-1))]), ((-1), [(19002, 1)]), (7, [(19002, (-1))]), ((-1), [(19001, (-1)), (19002, 1)]), ((-1), [(133, 1), (19002, (-1))]), ((-1), [(133, 1), (19001, (-1))])], [(9, (4, []))], some (false, (0, []))) as σ σ' τ o) : lw_ux_C a1 a2 a3 x.toInt σ σ' := by
  unfold lw_ux_C
  obtain ⟨hs, ht, hf, hr, hm, hw⟩ := hW
  have e1 : τ 19001 = a1 := by rw [ht 19001 (by decide) (by decide)]; exact h1
  have e2 : τ 19002 = a2 := by rw [ht 19002 (by decide) (by decide)]; exact h2
  have e3 : τ 19003 = a3 := by rw [ht 19003 (by decide) (by decide)]; exact h3
  rw [hx] at hr
  obtain ⟨y, hy, hv⟩ := hr
  cases hy
  replace hv : x.toInt = 0 + 0 := hv
  exact Or.inr ⟨by omega, (fun p hp => (by rcases (show p = 0 ∨ p = 1 ∨ p = 2 ∨ p = 3 ∨ p = 4 ∨ p = 5 ∨ p = 6 ∨ p = 7 by omega) with rfl | rfl | rfl | rfl | rfl | rfl | rfl | rfl <;> exact lw_id (hs _ (by decide)) (hm _ (by decide)))), (fun p hp => (by rcases (show p = 0 ∨ p = 1 ∨ p = 2 ∨ p = 3 ∨ p = 4 ∨ p = 5 ∨ p = 6 ∨ p = 7 by omega) with rfl | rfl | rfl | rfl | rfl | rfl | rfl | rfl <;> exact lw_id (hs _ (by decide)) (hm _ (by decide))))⟩
set_option maxHeartbeats 1000000 in
theorem lw_ux_1 {as : List rv_A} {σ σ' : Nat → Int} {o : rv_O} {x : Int32} {a1 a2 a3 : Int} {τ : Nat → Int} (hx : o.1 = some (.inl x)) (h1 : lw_av as 1 = a1) (h2 : lw_av as 2 = a2) (h3 : lw_av as 3 = a3) (ho1 : sy_or (σ' 18588) (σ' 18589) (σ' 18590)) (ho2 : sy_or (σ' 18591) (σ' 18592) (σ' 18593)) (hW : lw_W ([], [((-1), [(133, 1)]), ((-12), [(134, 1)]), ((-1), [(19001, 1)]), (7, [(19001, (-1))]), (0, [(19002, 1)]), (6, [(19002, (-1))]), ((-1), [(19001, 1), (19002, (-1))]), ((-1), [(133, 1), (19002, (-1))]), ((-1), [(133, 1), (19001, (-1))])], [(9, (4, []))], some (false, (0, []))) as σ σ' τ o) : lw_ux_C a1 a2 a3 x.toInt σ σ' := by
  unfold lw_ux_C
  obtain ⟨hs, ht, hf, hr, hm, hw⟩ := hW
  have e1 : τ 19001 = a1 := by rw [ht 19001 (by decide) (by decide)]; exact h1
  have e2 : τ 19002 = a2 := by rw [ht 19002 (by decide) (by decide)]; exact h2
  have e3 : τ 19003 = a3 := by rw [ht 19003 (by decide) (by decide)]; exact h3
  rw [hx] at hr
  obtain ⟨y, hy, hv⟩ := hr
  cases hy
  replace hv : x.toInt = 0 + 0 := hv
  exact Or.inr ⟨by omega, (fun p hp => (by rcases (show p = 0 ∨ p = 1 ∨ p = 2 ∨ p = 3 ∨ p = 4 ∨ p = 5 ∨ p = 6 ∨ p = 7 by omega) with rfl | rfl | rfl | rfl | rfl | rfl | rfl | rfl <;> exact lw_id (hs _ (by decide)) (hm _ (by decide)))), (fun p hp => (by rcases (show p = 0 ∨ p = 1 ∨ p = 2 ∨ p = 3 ∨ p = 4 ∨ p = 5 ∨ p = 6 ∨ p = 7 by omega) with rfl | rfl | rfl | rfl | rfl | rfl | rfl | rfl <;> exact lw_id (hs _ (by decide)) (hm _ (by decide))))⟩
set_option maxHeartbeats 1000000 in
theorem lw_ux_2 {as : List rv_A} {σ σ' : Nat → Int} {o : rv_O} {x : Int32} {a1 a2 a3 : Int} {τ : Nat → Int} (hx : o.1 = some (.inl x)) (h1 : lw_av as 1 = a1) (h2 : lw_av as 2 = a2) (h3 : lw_av as 3 = a3) (ho1 : sy_or (σ' 18588) (σ' 18589) (σ' 18590)) (ho2 : sy_or (σ' 18591) (σ' 18592) (σ' 18593)) (hW : lw_W ([], [((-1), [(133, 1)]), (0, [(19001, 1)]), (7, [(19001, (-1))]), ((-1), [(19002, (-1))]), ((-1), [(133, 1), (19001, (-1))])], [(9, (1, []))], some (false, (0, []))) as σ σ' τ o) : lw_ux_C a1 a2 a3 x.toInt σ σ' := by
  unfold lw_ux_C
  obtain ⟨hs, ht, hf, hr, hm, hw⟩ := hW
  have e1 : τ 19001 = a1 := by rw [ht 19001 (by decide) (by decide)]; exact h1
  have e2 : τ 19002 = a2 := by rw [ht 19002 (by decide) (by decide)]; exact h2
  have e3 : τ 19003 = a3 := by rw [ht 19003 (by decide) (by decide)]; exact h3
  rw [hx] at hr
  obtain ⟨y, hy, hv⟩ := hr
  cases hy
  replace hv : x.toInt = 0 + 0 := hv
  exact Or.inr ⟨by omega, (fun p hp => (by rcases (show p = 0 ∨ p = 1 ∨ p = 2 ∨ p = 3 ∨ p = 4 ∨ p = 5 ∨ p = 6 ∨ p = 7 by omega) with rfl | rfl | rfl | rfl | rfl | rfl | rfl | rfl <;> exact lw_id (hs _ (by decide)) (hm _ (by decide)))), (fun p hp => (by rcases (show p = 0 ∨ p = 1 ∨ p = 2 ∨ p = 3 ∨ p = 4 ∨ p = 5 ∨ p = 6 ∨ p = 7 by omega) with rfl | rfl | rfl | rfl | rfl | rfl | rfl | rfl <;> exact lw_id (hs _ (by decide)) (hm _ (by decide))))⟩
set_option maxHeartbeats 1000000 in
theorem lw_ux_3 {as : List rv_A} {σ σ' : Nat → Int} {o : rv_O} {x : Int32} {a1 a2 a3 : Int} {τ : Nat → Int} (hx : o.1 = some (.inl x)) (h1 : lw_av as 1 = a1) (h2 : lw_av as 2 = a2) (h3 : lw_av as 3 = a3) (ho1 : sy_or (σ' 18588) (σ' 18589) (σ' 18590)) (ho2 : sy_or (σ' 18591) (σ' 18592) (σ' 18593)) (hW : lw_W ([], [((-1), [(133, 1)]), (0, [(19001, 1)]), (7, [(19001, (-1))]), (0, [(19002, 1)]), (7, [(19002, (-1))]), (0, [(19001, (-1)), (19002, 1)]), (0, [(19001, 1), (19002, (-1))]), ((-1), [(133, 1), (19002, (-1))]), ((-1), [(133, 1), (19001, (-1))])], [(9, (1, []))], some (false, (0, []))) as σ σ' τ o) : lw_ux_C a1 a2 a3 x.toInt σ σ' := by
  unfold lw_ux_C
  obtain ⟨hs, ht, hf, hr, hm, hw⟩ := hW
  have e1 : τ 19001 = a1 := by rw [ht 19001 (by decide) (by decide)]; exact h1
  have e2 : τ 19002 = a2 := by rw [ht 19002 (by decide) (by decide)]; exact h2
  have e3 : τ 19003 = a3 := by rw [ht 19003 (by decide) (by decide)]; exact h3
  rw [hx] at hr
  obtain ⟨y, hy, hv⟩ := hr
  cases hy
  replace hv : x.toInt = 0 + 0 := hv
  exact Or.inr ⟨by omega, (fun p hp => (by rcases (show p = 0 ∨ p = 1 ∨ p = 2 ∨ p = 3 ∨ p = 4 ∨ p = 5 ∨ p = 6 ∨ p = 7 by omega) with rfl | rfl | rfl | rfl | rfl | rfl | rfl | rfl <;> exact lw_id (hs _ (by decide)) (hm _ (by decide)))), (fun p hp => (by rcases (show p = 0 ∨ p = 1 ∨ p = 2 ∨ p = 3 ∨ p = 4 ∨ p = 5 ∨ p = 6 ∨ p = 7 by omega) with rfl | rfl | rfl | rfl | rfl | rfl | rfl | rfl <;> exact lw_id (hs _ (by decide)) (hm _ (by decide))))⟩
set_option maxHeartbeats 1000000 in
theorem lw_ux_4 {as : List rv_A} {σ σ' : Nat → Int} {o : rv_O} {x : Int32} {a1 a2 a3 : Int} {τ : Nat → Int} (hx : o.1 = some (.inl x)) (h1 : lw_av as 1 = a1) (h2 : lw_av as 2 = a2) (h3 : lw_av as 3 = a3) (ho1 : sy_or (σ' 18588) (σ' 18589) (σ' 18590)) (ho2 : sy_or (σ' 18591) (σ' 18592) (σ' 18593)) (hW : lw_W ([], [((-1), [(133, 1)]), (0, [(19001, 1)]), (7, [(19001, (-1))]), ((-1), [(19002, 1)]), (0, [(133, (-1)), (19002, 1)]), ((-1), [(133, 1), (19001, (-1))])], [(9, (1, []))], some (false, (0, []))) as σ σ' τ o) : lw_ux_C a1 a2 a3 x.toInt σ σ' := by
  unfold lw_ux_C
  obtain ⟨hs, ht, hf, hr, hm, hw⟩ := hW
  have e1 : τ 19001 = a1 := by rw [ht 19001 (by decide) (by decide)]; exact h1
  have e2 : τ 19002 = a2 := by rw [ht 19002 (by decide) (by decide)]; exact h2
  have e3 : τ 19003 = a3 := by rw [ht 19003 (by decide) (by decide)]; exact h3
  rw [hx] at hr
  obtain ⟨y, hy, hv⟩ := hr
  cases hy
  replace hv : x.toInt = 0 + 0 := hv
  exact Or.inr ⟨by omega, (fun p hp => (by rcases (show p = 0 ∨ p = 1 ∨ p = 2 ∨ p = 3 ∨ p = 4 ∨ p = 5 ∨ p = 6 ∨ p = 7 by omega) with rfl | rfl | rfl | rfl | rfl | rfl | rfl | rfl <;> exact lw_id (hs _ (by decide)) (hm _ (by decide)))), (fun p hp => (by rcases (show p = 0 ∨ p = 1 ∨ p = 2 ∨ p = 3 ∨ p = 4 ∨ p = 5 ∨ p = 6 ∨ p = 7 by omega) with rfl | rfl | rfl | rfl | rfl | rfl | rfl | rfl <;> exact lw_id (hs _ (by decide)) (hm _ (by decide))))⟩
set_option maxHeartbeats 1000000 in
theorem lw_ux_5 {as : List rv_A} {σ σ' : Nat → Int} {o : rv_O} {x : Int32} {a1 a2 a3 : Int} {τ : Nat → Int} (hx : o.1 = some (.inl x)) (h1 : lw_av as 1 = a1) (h2 : lw_av as 2 = a2) (h3 : lw_av as 3 = a3) (ho1 : sy_or (σ' 18588) (σ' 18589) (σ' 18590)) (ho2 : sy_or (σ' 18591) (σ' 18592) (σ' 18593)) (hW : lw_W ([], [((-1), [(19001, (-1))])], [(9, (1, []))], some (false, (0, []))) as σ σ' τ o) : lw_ux_C a1 a2 a3 x.toInt σ σ' := by
  unfold lw_ux_C
  obtain ⟨hs, ht, hf, hr, hm, hw⟩ := hW
  have e1 : τ 19001 = a1 := by rw [ht 19001 (by decide) (by decide)]; exact h1
  have e2 : τ 19002 = a2 := by rw [ht 19002 (by decide) (by decide)]; exact h2
  have e3 : τ 19003 = a3 := by rw [ht 19003 (by decide) (by decide)]; exact h3
  rw [hx] at hr
  obtain ⟨y, hy, hv⟩ := hr
  cases hy
  replace hv : x.toInt = 0 + 0 := hv
  exact Or.inr ⟨by omega, (fun p hp => (by rcases (show p = 0 ∨ p = 1 ∨ p = 2 ∨ p = 3 ∨ p = 4 ∨ p = 5 ∨ p = 6 ∨ p = 7 by omega) with rfl | rfl | rfl | rfl | rfl | rfl | rfl | rfl <;> exact lw_id (hs _ (by decide)) (hm _ (by decide)))), (fun p hp => (by rcases (show p = 0 ∨ p = 1 ∨ p = 2 ∨ p = 3 ∨ p = 4 ∨ p = 5 ∨ p = 6 ∨ p = 7 by omega) with rfl | rfl | rfl | rfl | rfl | rfl | rfl | rfl <;> exact lw_id (hs _ (by decide)) (hm _ (by decide))))⟩
set_option maxHeartbeats 1000000 in
theorem lw_ux_6 {as : List rv_A} {σ σ' : Nat → Int} {o : rv_O} {x : Int32} {a1 a2 a3 : Int} {τ : Nat → Int} (hx : o.1 = some (.inl x)) (h1 : lw_av as 1 = a1) (h2 : lw_av as 2 = a2) (h3 : lw_av as 3 = a3) (ho1 : sy_or (σ' 18588) (σ' 18589) (σ' 18590)) (ho2 : sy_or (σ' 18591) (σ' 18592) (σ' 18593)) (hW : lw_W ([], [(0, [(19001, 1)]), (0, [(133, (-1)), (19001, 1)])], [(9, (1, []))], some (false, (0, []))) as σ σ' τ o) : lw_ux_C a1 a2 a3 x.toInt σ σ' := by
  unfold lw_ux_C
  obtain ⟨hs, ht, hf, hr, hm, hw⟩ := hW
  have e1 : τ 19001 = a1 := by rw [ht 19001 (by decide) (by decide)]; exact h1
  have e2 : τ 19002 = a2 := by rw [ht 19002 (by decide) (by decide)]; exact h2
  have e3 : τ 19003 = a3 := by rw [ht 19003 (by decide) (by decide)]; exact h3
  rw [hx] at hr
  obtain ⟨y, hy, hv⟩ := hr
  cases hy
  replace hv : x.toInt = 0 + 0 := hv
  exact Or.inr ⟨by omega, (fun p hp => (by rcases (show p = 0 ∨ p = 1 ∨ p = 2 ∨ p = 3 ∨ p = 4 ∨ p = 5 ∨ p = 6 ∨ p = 7 by omega) with rfl | rfl | rfl | rfl | rfl | rfl | rfl | rfl <;> exact lw_id (hs _ (by decide)) (hm _ (by decide)))), (fun p hp => (by rcases (show p = 0 ∨ p = 1 ∨ p = 2 ∨ p = 3 ∨ p = 4 ∨ p = 5 ∨ p = 6 ∨ p = 7 by omega) with rfl | rfl | rfl | rfl | rfl | rfl | rfl | rfl <;> exact lw_id (hs _ (by decide)) (hm _ (by decide))))⟩
set_option maxHeartbeats 1000000 in
theorem lw_ux_7 {as : List rv_A} {σ σ' : Nat → Int} {o : rv_O} {x : Int32} {a1 a2 a3 : Int} {τ : Nat → Int} (hx : o.1 = some (.inl x)) (h1 : lw_av as 1 = a1) (h2 : lw_av as 2 = a2) (h3 : lw_av as 3 = a3) (ho1 : sy_or (σ' 18588) (σ' 18589) (σ' 18590)) (ho2 : sy_or (σ' 18591) (σ' 18592) (σ' 18593)) (hW : lw_W ([(18536, 2, 255), (18537, 1, 255), (18590, 2, 255), (18593, 1, 255)], [(0, [(18536, (-1)), (1000000, 1)]), (0, [(18537, (-1)), (1000001, 1)]), ((-1), [(133, 1)]), (11, [(134, (-1))]), (0, [(19001, 1)]), (0, [(19001, (-1))]), ((-1), [(19002, 1)]), (1, [(19002, (-1))]), (0, [(19003, (-1))]), (0, [(1000000, 1), (1000002, (-1))]), (0, [(1000000, (-1)), (1000002, 1)]), (0, [(1000001, 1), (1000003, (-1))]), (0, [(1000001, (-1)), (1000003, 1)]), ((-1), [(19001, (-1)), (19002, 1)]), ((-1), [(133, 1), (19002, (-1))]), ((-1), [(133, 1), (19001, (-1))])], [(9, (0, [])), (134, (1, [(134, 1)])), (7048, ((-2), [])), (7049, ((-2), [])), (8069, (0, [])), (11396, ((-2), [])), (18536, (0, [(1000000, 1)])), (18537, (0, [(1000001, 1)])), (18588, (0, [(18536, 1)])), (18589, (2, [])), (18590, (0, [(1000002, 1)])), (18591, (0, [(18537, 1)])), (18592, (1, [])), (18593, (0, [(1000003, 1)])), (18594, (2, []))], some (false, (1, []))) as σ σ' τ o) : lw_ux_C a1 a2 a3 x.toInt σ σ' := by
  unfold lw_ux_C
  obtain ⟨hs, ht, hf, hr, hm, hw⟩ := hW
  have e1 : τ 19001 = a1 := by rw [ht 19001 (by decide) (by decide)]; exact h1
  have e2 : τ 19002 = a2 := by rw [ht 19002 (by decide) (by decide)]; exact h2
  have e3 : τ 19003 = a3 := by rw [ht 19003 (by decide) (by decide)]; exact h3
  rw [hx] at hr
  obtain ⟨y, hy, hv⟩ := hr
  cases hy
  replace hv : x.toInt = 1 + 0 := hv
  have f0 : 0 ≤ 0 + ((-1) * τ 18536 + (1 * τ 1000000 + 0)) := hf _ (List.Mem.head _)
  have f1 : 0 ≤ 0 + ((-1) * τ 18537 + (1 * τ 1000001 + 0)) := hf _ (List.Mem.tail _ (List.Mem.head _))
  have f2 : 0 ≤ (-1) + (1 * τ 133 + 0) := hf _ (List.Mem.tail _ (List.Mem.tail _ (List.Mem.head _)))
  have f3 : 0 ≤ 11 + ((-1) * τ 134 + 0) := hf _ (List.Mem.tail _ (List.Mem.tail _ (List.Mem.tail _ (List.Mem.head _))))
  have f4 : 0 ≤ 0 + (1 * τ 19001 + 0) := hf _ (List.Mem.tail _ (List.Mem.tail _ (List.Mem.tail _ (List.Mem.tail _ (List.Mem.head _)))))
  have f5 : 0 ≤ 0 + ((-1) * τ 19001 + 0) := hf _ (List.Mem.tail _ (List.Mem.tail _ (List.Mem.tail _ (List.Mem.tail _ (List.Mem.tail _ (List.Mem.head _))))))
  have f6 : 0 ≤ (-1) + (1 * τ 19002 + 0) := hf _ (List.Mem.tail _ (List.Mem.tail _ (List.Mem.tail _ (List.Mem.tail _ (List.Mem.tail _ (List.Mem.tail _ (List.Mem.head _)))))))
  have f7 : 0 ≤ 1 + ((-1) * τ 19002 + 0) := hf _ (List.Mem.tail _ (List.Mem.tail _ (List.Mem.tail _ (List.Mem.tail _ (List.Mem.tail _ (List.Mem.tail _ (List.Mem.tail _ (List.Mem.head _))))))))
  have f8 : 0 ≤ 0 + ((-1) * τ 19003 + 0) := hf _ (List.Mem.tail _ (List.Mem.tail _ (List.Mem.tail _ (List.Mem.tail _ (List.Mem.tail _ (List.Mem.tail _ (List.Mem.tail _ (List.Mem.tail _ (List.Mem.head _)))))))))
  have f9 : 0 ≤ 0 + (1 * τ 1000000 + ((-1) * τ 1000002 + 0)) := hf _ (List.Mem.tail _ (List.Mem.tail _ (List.Mem.tail _ (List.Mem.tail _ (List.Mem.tail _ (List.Mem.tail _ (List.Mem.tail _ (List.Mem.tail _ (List.Mem.tail _ (List.Mem.head _))))))))))
  have f10 : 0 ≤ 0 + ((-1) * τ 1000000 + (1 * τ 1000002 + 0)) := hf _ (List.Mem.tail _ (List.Mem.tail _ (List.Mem.tail _ (List.Mem.tail _ (List.Mem.tail _ (List.Mem.tail _ (List.Mem.tail _ (List.Mem.tail _ (List.Mem.tail _ (List.Mem.tail _ (List.Mem.head _)))))))))))
  have f11 : 0 ≤ 0 + (1 * τ 1000001 + ((-1) * τ 1000003 + 0)) := hf _ (List.Mem.tail _ (List.Mem.tail _ (List.Mem.tail _ (List.Mem.tail _ (List.Mem.tail _ (List.Mem.tail _ (List.Mem.tail _ (List.Mem.tail _ (List.Mem.tail _ (List.Mem.tail _ (List.Mem.tail _ (List.Mem.head _))))))))))))
  have f12 : 0 ≤ 0 + ((-1) * τ 1000001 + (1 * τ 1000003 + 0)) := hf _ (List.Mem.tail _ (List.Mem.tail _ (List.Mem.tail _ (List.Mem.tail _ (List.Mem.tail _ (List.Mem.tail _ (List.Mem.tail _ (List.Mem.tail _ (List.Mem.tail _ (List.Mem.tail _ (List.Mem.tail _ (List.Mem.tail _ (List.Mem.head _)))))))))))))
  have f13 : 0 ≤ (-1) + ((-1) * τ 19001 + (1 * τ 19002 + 0)) := hf _ (List.Mem.tail _ (List.Mem.tail _ (List.Mem.tail _ (List.Mem.tail _ (List.Mem.tail _ (List.Mem.tail _ (List.Mem.tail _ (List.Mem.tail _ (List.Mem.tail _ (List.Mem.tail _ (List.Mem.tail _ (List.Mem.tail _ (List.Mem.tail _ (List.Mem.head _))))))))))))))
  have f14 : 0 ≤ (-1) + (1 * τ 133 + ((-1) * τ 19002 + 0)) := hf _ (List.Mem.tail _ (List.Mem.tail _ (List.Mem.tail _ (List.Mem.tail _ (List.Mem.tail _ (List.Mem.tail _ (List.Mem.tail _ (List.Mem.tail _ (List.Mem.tail _ (List.Mem.tail _ (List.Mem.tail _ (List.Mem.tail _ (List.Mem.tail _ (List.Mem.tail _ (List.Mem.head _)))))))))))))))
  have f15 : 0 ≤ (-1) + (1 * τ 133 + ((-1) * τ 19001 + 0)) := hf _ (List.Mem.tail _ (List.Mem.tail _ (List.Mem.tail _ (List.Mem.tail _ (List.Mem.tail _ (List.Mem.tail _ (List.Mem.tail _ (List.Mem.tail _ (List.Mem.tail _ (List.Mem.tail _ (List.Mem.tail _ (List.Mem.tail _ (List.Mem.tail _ (List.Mem.tail _ (List.Mem.tail _ (List.Mem.head _))))))))))))))))
  have mX1 : σ' 18588 = σ 18536 := lw_id (hs 18536 (by decide)) (hm 18588 (by decide))
  have mY1 : σ' 18589 = 2 := (hm 18589 (by decide)).trans rfl
  have mO1 : σ' 18590 = 0 + (1 * τ 1000002 + 0) := hm 18590 (by decide)
  have mA1 : σ' 18536 = 0 + (1 * τ 1000000 + 0) := hm 18536 (by decide)
  unfold sy_or at ho1
  rw [mX1, mY1, show (2 : Int).toNat = 2 ^ 1 from rfl] at ho1
  have mX2 : σ' 18591 = σ 18537 := lw_id (hs 18537 (by decide)) (hm 18591 (by decide))
  have mY2 : σ' 18592 = 1 := (hm 18592 (by decide)).trans rfl
  have mO2 : σ' 18593 = 0 + (1 * τ 1000003 + 0) := hm 18593 (by decide)
  have mA2 : σ' 18537 = 0 + (1 * τ 1000001 + 0) := hm 18537 (by decide)
  unfold sy_or at ho2
  rw [mX2, mY2, show (1 : Int).toNat = 2 ^ 0 from rfl] at ho2
  have ti : lw_ti a1.toNat a2.toNat (fun p => σ (18536 + p)) (fun p => σ' (18536 + p)) := by
    rw [show a1.toNat = 0 by omega, show a2.toNat = 1 by omega]
    intro p hp
    rcases (show p = 0 ∨ p = 1 ∨ p = 2 ∨ p = 3 ∨ p = 4 ∨ p = 5 ∨ p = 6 ∨ p = 7 by omega) with rfl | rfl | rfl | rfl | rfl | rfl | rfl | rfl
    · show σ' 18536 = if (0 : Nat) = 0 then _ else _
      rw [if_pos rfl]
      show σ' 18536 = (((σ 18536).toNat ||| 2 ^ 1 : Nat) : Int)
      omega
    · show σ' 18537 = if (1 : Nat) = 0 then _ else if (1 : Nat) = 1 then _ else _
      rw [if_neg (by decide), if_pos rfl]
      show σ' 18537 = (((σ 18537).toNat ||| 2 ^ 0 : Nat) : Int)
      omega
    · show σ' 18538 = if (2 : Nat) = 0 then _ else if (2 : Nat) = 1 then _ else _
      rw [if_neg (by decide), if_neg (by decide)]
      exact lw_id (hs _ (by decide)) (hm _ (by decide))
    · show σ' 18539 = if (3 : Nat) = 0 then _ else if (3 : Nat) = 1 then _ else _
      rw [if_neg (by decide), if_neg (by decide)]
      exact lw_id (hs _ (by decide)) (hm _ (by decide))
    · show σ' 18540 = if (4 : Nat) = 0 then _ else if (4 : Nat) = 1 then _ else _
      rw [if_neg (by decide), if_neg (by decide)]
      exact lw_id (hs _ (by decide)) (hm _ (by decide))
    · show σ' 18541 = if (5 : Nat) = 0 then _ else if (5 : Nat) = 1 then _ else _
      rw [if_neg (by decide), if_neg (by decide)]
      exact lw_id (hs _ (by decide)) (hm _ (by decide))
    · show σ' 18542 = if (6 : Nat) = 0 then _ else if (6 : Nat) = 1 then _ else _
      rw [if_neg (by decide), if_neg (by decide)]
      exact lw_id (hs _ (by decide)) (hm _ (by decide))
    · show σ' 18543 = if (7 : Nat) = 0 then _ else if (7 : Nat) = 1 then _ else _
      rw [if_neg (by decide), if_neg (by decide)]
      exact lw_id (hs _ (by decide)) (hm _ (by decide))
  exact Or.inl ⟨by omega, by omega, by omega, by omega, by omega, Or.inr ⟨by omega, ti, (fun p hp => (by rcases (show p = 0 ∨ p = 1 ∨ p = 2 ∨ p = 3 ∨ p = 4 ∨ p = 5 ∨ p = 6 ∨ p = 7 by omega) with rfl | rfl | rfl | rfl | rfl | rfl | rfl | rfl <;> exact lw_id (hs _ (by decide)) (hm _ (by decide))))⟩⟩
set_option maxHeartbeats 1000000 in
theorem lw_ux_8 {as : List rv_A} {σ σ' : Nat → Int} {o : rv_O} {x : Int32} {a1 a2 a3 : Int} {τ : Nat → Int} (hx : o.1 = some (.inl x)) (h1 : lw_av as 1 = a1) (h2 : lw_av as 2 = a2) (h3 : lw_av as 3 = a3) (ho1 : sy_or (σ' 18588) (σ' 18589) (σ' 18590)) (ho2 : sy_or (σ' 18591) (σ' 18592) (σ' 18593)) (hW : lw_W ([(18544, 2, 255), (18545, 1, 255), (18590, 2, 255), (18593, 1, 255)], [(0, [(18544, (-1)), (1000000, 1)]), (0, [(18545, (-1)), (1000001, 1)]), ((-1), [(133, 1)]), (11, [(134, (-1))]), (0, [(19001, 1)]), (0, [(19001, (-1))]), ((-1), [(19002, 1)]), (1, [(19002, (-1))]), ((-1), [(19003, 1)]), (0, [(1000000, 1), (1000002, (-1))]), (0, [(1000000, (-1)), (1000002, 1)]), (0, [(1000001, 1), (1000003, (-1))]), (0, [(1000001, (-1)), (1000003, 1)]), ((-1), [(19001, (-1)), (19002, 1)]), ((-1), [(133, 1), (19002, (-1))]), ((-1), [(133, 1), (19001, (-1))])], [(9, (0, [])), (134, (1, [(134, 1)])), (7048, ((-2), [])), (7049, ((-2), [])), (8069, (0, [])), (11396, ((-2), [])), (18544, (0, [(1000000, 1)])), (18545, (0, [(1000001, 1)])), (18588, (0, [(18544, 1)])), (18589, (2, [])), (18590, (0, [(1000002, 1)])), (18591, (0, [(18545, 1)])), (18592, (1, [])), (18593, (0, [(1000003, 1)])), (18594, (2, []))], some (false, (1, []))) as σ σ' τ o) : lw_ux_C a1 a2 a3 x.toInt σ σ' := by
  unfold lw_ux_C
  obtain ⟨hs, ht, hf, hr, hm, hw⟩ := hW
  have e1 : τ 19001 = a1 := by rw [ht 19001 (by decide) (by decide)]; exact h1
  have e2 : τ 19002 = a2 := by rw [ht 19002 (by decide) (by decide)]; exact h2
  have e3 : τ 19003 = a3 := by rw [ht 19003 (by decide) (by decide)]; exact h3
  rw [hx] at hr
  obtain ⟨y, hy, hv⟩ := hr
  cases hy
  replace hv : x.toInt = 1 + 0 := hv
  have f0 : 0 ≤ 0 + ((-1) * τ 18544 + (1 * τ 1000000 + 0)) := hf _ (List.Mem.head _)
  have f1 : 0 ≤ 0 + ((-1) * τ 18545 + (1 * τ 1000001 + 0)) := hf _ (List.Mem.tail _ (List.Mem.head _))
  have f2 : 0 ≤ (-1) + (1 * τ 133 + 0) := hf _ (List.Mem.tail _ (List.Mem.tail _ (List.Mem.head _)))
  have f3 : 0 ≤ 11 + ((-1) * τ 134 + 0) := hf _ (List.Mem.tail _ (List.Mem.tail _ (List.Mem.tail _ (List.Mem.head _))))
  have f4 : 0 ≤ 0 + (1 * τ 19001 + 0) := hf _ (List.Mem.tail _ (List.Mem.tail _ (List.Mem.tail _ (List.Mem.tail _ (List.Mem.head _)))))
  have f5 : 0 ≤ 0 + ((-1) * τ 19001 + 0) := hf _ (List.Mem.tail _ (List.Mem.tail _ (List.Mem.tail _ (List.Mem.tail _ (List.Mem.tail _ (List.Mem.head _))))))
  have f6 : 0 ≤ (-1) + (1 * τ 19002 + 0) := hf _ (List.Mem.tail _ (List.Mem.tail _ (List.Mem.tail _ (List.Mem.tail _ (List.Mem.tail _ (List.Mem.tail _ (List.Mem.head _)))))))
  have f7 : 0 ≤ 1 + ((-1) * τ 19002 + 0) := hf _ (List.Mem.tail _ (List.Mem.tail _ (List.Mem.tail _ (List.Mem.tail _ (List.Mem.tail _ (List.Mem.tail _ (List.Mem.tail _ (List.Mem.head _))))))))
  have f8 : 0 ≤ (-1) + (1 * τ 19003 + 0) := hf _ (List.Mem.tail _ (List.Mem.tail _ (List.Mem.tail _ (List.Mem.tail _ (List.Mem.tail _ (List.Mem.tail _ (List.Mem.tail _ (List.Mem.tail _ (List.Mem.head _)))))))))
  have f9 : 0 ≤ 0 + (1 * τ 1000000 + ((-1) * τ 1000002 + 0)) := hf _ (List.Mem.tail _ (List.Mem.tail _ (List.Mem.tail _ (List.Mem.tail _ (List.Mem.tail _ (List.Mem.tail _ (List.Mem.tail _ (List.Mem.tail _ (List.Mem.tail _ (List.Mem.head _))))))))))
  have f10 : 0 ≤ 0 + ((-1) * τ 1000000 + (1 * τ 1000002 + 0)) := hf _ (List.Mem.tail _ (List.Mem.tail _ (List.Mem.tail _ (List.Mem.tail _ (List.Mem.tail _ (List.Mem.tail _ (List.Mem.tail _ (List.Mem.tail _ (List.Mem.tail _ (List.Mem.tail _ (List.Mem.head _)))))))))))
  have f11 : 0 ≤ 0 + (1 * τ 1000001 + ((-1) * τ 1000003 + 0)) := hf _ (List.Mem.tail _ (List.Mem.tail _ (List.Mem.tail _ (List.Mem.tail _ (List.Mem.tail _ (List.Mem.tail _ (List.Mem.tail _ (List.Mem.tail _ (List.Mem.tail _ (List.Mem.tail _ (List.Mem.tail _ (List.Mem.head _))))))))))))
  have f12 : 0 ≤ 0 + ((-1) * τ 1000001 + (1 * τ 1000003 + 0)) := hf _ (List.Mem.tail _ (List.Mem.tail _ (List.Mem.tail _ (List.Mem.tail _ (List.Mem.tail _ (List.Mem.tail _ (List.Mem.tail _ (List.Mem.tail _ (List.Mem.tail _ (List.Mem.tail _ (List.Mem.tail _ (List.Mem.tail _ (List.Mem.head _)))))))))))))
  have f13 : 0 ≤ (-1) + ((-1) * τ 19001 + (1 * τ 19002 + 0)) := hf _ (List.Mem.tail _ (List.Mem.tail _ (List.Mem.tail _ (List.Mem.tail _ (List.Mem.tail _ (List.Mem.tail _ (List.Mem.tail _ (List.Mem.tail _ (List.Mem.tail _ (List.Mem.tail _ (List.Mem.tail _ (List.Mem.tail _ (List.Mem.tail _ (List.Mem.head _))))))))))))))
  have f14 : 0 ≤ (-1) + (1 * τ 133 + ((-1) * τ 19002 + 0)) := hf _ (List.Mem.tail _ (List.Mem.tail _ (List.Mem.tail _ (List.Mem.tail _ (List.Mem.tail _ (List.Mem.tail _ (List.Mem.tail _ (List.Mem.tail _ (List.Mem.tail _ (List.Mem.tail _ (List.Mem.tail _ (List.Mem.tail _ (List.Mem.tail _ (List.Mem.tail _ (List.Mem.head _)))))))))))))))
  have f15 : 0 ≤ (-1) + (1 * τ 133 + ((-1) * τ 19001 + 0)) := hf _ (List.Mem.tail _ (List.Mem.tail _ (List.Mem.tail _ (List.Mem.tail _ (List.Mem.tail _ (List.Mem.tail _ (List.Mem.tail _ (List.Mem.tail _ (List.Mem.tail _ (List.Mem.tail _ (List.Mem.tail _ (List.Mem.tail _ (List.Mem.tail _ (List.Mem.tail _ (List.Mem.tail _ (List.Mem.head _))))))))))))))))
  have mX1 : σ' 18588 = σ 18544 := lw_id (hs 18544 (by decide)) (hm 18588 (by decide))
  have mY1 : σ' 18589 = 2 := (hm 18589 (by decide)).trans rfl
  have mO1 : σ' 18590 = 0 + (1 * τ 1000002 + 0) := hm 18590 (by decide)
  have mA1 : σ' 18544 = 0 + (1 * τ 1000000 + 0) := hm 18544 (by decide)
  unfold sy_or at ho1
  rw [mX1, mY1, show (2 : Int).toNat = 2 ^ 1 from rfl] at ho1
  have mX2 : σ' 18591 = σ 18545 := lw_id (hs 18545 (by decide)) (hm 18591 (by decide))
  have mY2 : σ' 18592 = 1 := (hm 18592 (by decide)).trans rfl
  have mO2 : σ' 18593 = 0 + (1 * τ 1000003 + 0) := hm 18593 (by decide)
  have mA2 : σ' 18545 = 0 + (1 * τ 1000001 + 0) := hm 18545 (by decide)
  unfold sy_or at ho2
  rw [mX2, mY2, show (1 : Int).toNat = 2 ^ 0 from rfl] at ho2
  have ti : lw_ti a1.toNat a2.toNat (fun p => σ (18544 + p)) (fun p => σ' (18544 + p)) := by
    rw [show a1.toNat = 0 by omega, show a2.toNat = 1 by omega]
    intro p hp
    rcases (show p = 0 ∨ p = 1 ∨ p = 2 ∨ p = 3 ∨ p = 4 ∨ p = 5 ∨ p = 6 ∨ p = 7 by omega) with rfl | rfl | rfl | rfl | rfl | rfl | rfl | rfl
    · show σ' 18544 = if (0 : Nat) = 0 then _ else _
      rw [if_pos rfl]
      show σ' 18544 = (((σ 18544).toNat ||| 2 ^ 1 : Nat) : Int)
      omega
    · show σ' 18545 = if (1 : Nat) = 0 then _ else if (1 : Nat) = 1 then _ else _
      rw [if_neg (by decide), if_pos rfl]
      show σ' 18545 = (((σ 18545).toNat ||| 2 ^ 0 : Nat) : Int)
      omega
    · show σ' 18546 = if (2 : Nat) = 0 then _ else if (2 : Nat) = 1 then _ else _
      rw [if_neg (by decide), if_neg (by decide)]
      exact lw_id (hs _ (by decide)) (hm _ (by decide))
    · show σ' 18547 = if (3 : Nat) = 0 then _ else if (3 : Nat) = 1 then _ else _
      rw [if_neg (by decide), if_neg (by decide)]
      exact lw_id (hs _ (by decide)) (hm _ (by decide))
    · show σ' 18548 = if (4 : Nat) = 0 then _ else if (4 : Nat) = 1 then _ else _
      rw [if_neg (by decide), if_neg (by decide)]
      exact lw_id (hs _ (by decide)) (hm _ (by decide))
    · show σ' 18549 = if (5 : Nat) = 0 then _ else if (5 : Nat) = 1 then _ else _
      rw [if_neg (by decide), if_neg (by decide)]
      exact lw_id (hs _ (by decide)) (hm _ (by decide))
    · show σ' 18550 = if (6 : Nat) = 0 then _ else if (6 : Nat) = 1 then _ else _
      rw [if_neg (by decide), if_neg (by decide)]
      exact lw_id (hs _ (by decide)) (hm _ (by decide))
    · show σ' 18551 = if (7 : Nat) = 0 then _ else if (7 : Nat) = 1 then _ else _
      rw [if_neg (by decide), if_neg (by decide)]
      exact lw_id (hs _ (by decide)) (hm _ (by decide))
  exact Or.inl ⟨by omega, by omega, by omega, by omega, by omega, Or.inl ⟨by omega, ti, (fun p hp => (by rcases (show p = 0 ∨ p = 1 ∨ p = 2 ∨ p = 3 ∨ p = 4 ∨ p = 5 ∨ p = 6 ∨ p = 7 by omega) with rfl | rfl | rfl | rfl | rfl | rfl | rfl | rfl <;> exact lw_id (hs _ (by decide)) (hm _ (by decide))))⟩⟩
set_option maxHeartbeats 1000000 in
theorem lw_ux_9 {as : List rv_A} {σ σ' : Nat → Int} {o : rv_O} {x : Int32} {a1 a2 a3 : Int} {τ : Nat → Int} (hx : o.1 = some (.inl x)) (h1 : lw_av as 1 = a1) (h2 : lw_av as 2 = a2) (h3 : lw_av as 3 = a3) (ho1 : sy_or (σ' 18588) (σ' 18589) (σ' 18590)) (ho2 : sy_or (σ' 18591) (σ' 18592) (σ' 18593)) (hW : lw_W ([(18536, 4, 255), (18538, 1, 255), (18590, 4, 255), (18593, 1, 255)], [(0, [(18536, (-1)), (1000000, 1)]), (0, [(18538, (-1)), (1000001, 1)]), ((-1), [(133, 1)]), (11, [(134, (-1))]), (0, [(19001, 1)]), (0, [(19001, (-1))]), ((-2), [(19002, 1)]), (2, [(19002, (-1))]), (0, [(19003, (-1))]), (0, [(1000000, 1), (1000002, (-1))]), (0, [(1000000, (-1)), (1000002, 1)]), (0, [(1000001, 1), (1000003, (-1))]), (0, [(1000001, (-1)), (1000003, 1)]), ((-1), [(19001, (-1)), (19002, 1)]), ((-1), [(133, 1), (19002, (-1))]), ((-1), [(133, 1), (19001, (-1))])], [(9, (0, [])), (134, (1, [(134, 1)])), (7048, ((-2), [])), (7049, ((-2), [])), (8069, (0, [])), (11396, ((-2), [])), (18536, (0, [(1000000, 1)])), (18538, (0, [(1000001, 1)])), (18588, (0, [(18536, 1)])), (18589, (4, [])), (18590, (0, [(1000002, 1)])), (18591, (0, [(18538, 1)])), (18592, (1, [])), (18593, (0, [(1000003, 1)])), (18594, (2, []))], some (false, (1, []))) as σ σ' τ o) : lw_ux_C a1 a2 a3 x.toInt σ σ' := by
  unfold lw_ux_C
  obtain ⟨hs, ht, hf, hr, hm, hw⟩ := hW
  have e1 : τ 19001 = a1 := by rw [ht 19001 (by decide) (by decide)]; exact h1
  have e2 : τ 19002 = a2 := by rw [ht 19002 (by decide) (by decide)]; exact h2
  have e3 : τ 19003 = a3 := by rw [ht 19003 (by decide) (by decide)]; exact h3
  rw [hx] at hr
  obtain ⟨y, hy, hv⟩ := hr
  cases hy
  replace hv : x.toInt = 1 + 0 := hv
  have f0 : 0 ≤ 0 + ((-1) * τ 18536 + (1 * τ 1000000 + 0)) := hf _ (List.Mem.head _)
  have f1 : 0 ≤ 0 + ((-1) * τ 18538 + (1 * τ 1000001 + 0)) := hf _ (List.Mem.tail _ (List.Mem.head _))
  have f2 : 0 ≤ (-1) + (1 * τ 133 + 0) := hf _ (List.Mem.tail _ (List.Mem.tail _ (List.Mem.head _)))
  have f3 : 0 ≤ 11 + ((-1) * τ 134 + 0) := hf _ (List.Mem.tail _ (List.Mem.tail _ (List.Mem.tail _ (List.Mem.head _))))
  have f4 : 0 ≤ 0 + (1 * τ 19001 + 0) := hf _ (List.Mem.tail _ (List.Mem.tail _ (List.Mem.tail _ (List.Mem.tail _ (List.Mem.head _)))))
  have f5 : 0 ≤ 0 + ((-1) * τ 19001 + 0) := hf _ (List.Mem.tail _ (List.Mem.tail _ (List.Mem.tail _ (List.Mem.tail _ (List.Mem.tail _ (List.Mem.head _))))))
  have f6 : 0 ≤ (-2) + (1 * τ 19002 + 0) := hf _ (List.Mem.tail _ (List.Mem.tail _ (List.Mem.tail _ (List.Mem.tail _ (List.Mem.tail _ (List.Mem.tail _ (List.Mem.head _)))))))
  have f7 : 0 ≤ 2 + ((-1) * τ 19002 + 0) := hf _ (List.Mem.tail _ (List.Mem.tail _ (List.Mem.tail _ (List.Mem.tail _ (List.Mem.tail _ (List.Mem.tail _ (List.Mem.tail _ (List.Mem.head _))))))))
  have f8 : 0 ≤ 0 + ((-1) * τ 19003 + 0) := hf _ (List.Mem.tail _ (List.Mem.tail _ (List.Mem.tail _ (List.Mem.tail _ (List.Mem.tail _ (List.Mem.tail _ (List.Mem.tail _ (List.Mem.tail _ (List.Mem.head _)))))))))
  have f9 : 0 ≤ 0 + (1 * τ 1000000 + ((-1) * τ 1000002 + 0)) := hf _ (List.Mem.tail _ (List.Mem.tail _ (List.Mem.tail _ (List.Mem.tail _ (List.Mem.tail _ (List.Mem.tail _ (List.Mem.tail _ (List.Mem.tail _ (List.Mem.tail _ (List.Mem.head _))))))))))
  have f10 : 0 ≤ 0 + ((-1) * τ 1000000 + (1 * τ 1000002 + 0)) := hf _ (List.Mem.tail _ (List.Mem.tail _ (List.Mem.tail _ (List.Mem.tail _ (List.Mem.tail _ (List.Mem.tail _ (List.Mem.tail _ (List.Mem.tail _ (List.Mem.tail _ (List.Mem.tail _ (List.Mem.head _)))))))))))
  have f11 : 0 ≤ 0 + (1 * τ 1000001 + ((-1) * τ 1000003 + 0)) := hf _ (List.Mem.tail _ (List.Mem.tail _ (List.Mem.tail _ (List.Mem.tail _ (List.Mem.tail _ (List.Mem.tail _ (List.Mem.tail _ (List.Mem.tail _ (List.Mem.tail _ (List.Mem.tail _ (List.Mem.tail _ (List.Mem.head _))))))))))))
  have f12 : 0 ≤ 0 + ((-1) * τ 1000001 + (1 * τ 1000003 + 0)) := hf _ (List.Mem.tail _ (List.Mem.tail _ (List.Mem.tail _ (List.Mem.tail _ (List.Mem.tail _ (List.Mem.tail _ (List.Mem.tail _ (List.Mem.tail _ (List.Mem.tail _ (List.Mem.tail _ (List.Mem.tail _ (List.Mem.tail _ (List.Mem.head _)))))))))))))
  have f13 : 0 ≤ (-1) + ((-1) * τ 19001 + (1 * τ 19002 + 0)) := hf _ (List.Mem.tail _ (List.Mem.tail _ (List.Mem.tail _ (List.Mem.tail _ (List.Mem.tail _ (List.Mem.tail _ (List.Mem.tail _ (List.Mem.tail _ (List.Mem.tail _ (List.Mem.tail _ (List.Mem.tail _ (List.Mem.tail _ (List.Mem.tail _ (List.Mem.head _))))))))))))))
  have f14 : 0 ≤ (-1) + (1 * τ 133 + ((-1) * τ 19002 + 0)) := hf _ (List.Mem.tail _ (List.Mem.tail _ (List.Mem.tail _ (List.Mem.tail _ (List.Mem.tail _ (List.Mem.tail _ (List.Mem.tail _ (List.Mem.tail _ (List.Mem.tail _ (List.Mem.tail _ (List.Mem.tail _ (List.Mem.tail _ (List.Mem.tail _ (List.Mem.tail _ (List.Mem.head _)))))))))))))))
  have f15 : 0 ≤ (-1) + (1 * τ 133 + ((-1) * τ 19001 + 0)) := hf _ (List.Mem.tail _ (List.Mem.tail _ (List.Mem.tail _ (List.Mem.tail _ (List.Mem.tail _ (List.Mem.tail _ (List.Mem.tail _ (List.Mem.tail _ (List.Mem.tail _ (List.Mem.tail _ (List.Mem.tail _ (List.Mem.tail _ (List.Mem.tail _ (List.Mem.tail _ (List.Mem.tail _ (List.Mem.head _))))))))))))))))
  have mX1 : σ' 18588 = σ 18536 := lw_id (hs 18536 (by decide)) (hm 18588 (by decide))
  have mY1 : σ' 18589 = 4 := (hm 18589 (by decide)).trans rfl
  have mO1 : σ' 18590 = 0 + (1 * τ 1000002 + 0) := hm 18590 (by decide)
  have mA1 : σ' 18536 = 0 + (1 * τ 1000000 + 0) := hm 18536 (by decide)
  unfold sy_or at ho1
  rw [mX1, mY1, show (4 : Int).toNat = 2 ^ 2 from rfl] at ho1
  have mX2 : σ' 18591 = σ 18538 := lw_id (hs 18538 (by decide)) (hm 18591 (by decide))
  have mY2 : σ' 18592 = 1 := (hm 18592 (by decide)).trans rfl
  have mO2 : σ' 18593 = 0 + (1 * τ 1000003 + 0) := hm 18593 (by decide)
  have mA2 : σ' 18538 = 0 + (1 * τ 1000001 + 0) := hm 18538 (by decide)
  unfold sy_or at ho2
  rw [mX2, mY2, show (1 : Int).toNat = 2 ^ 0 from rfl] at ho2
  have ti : lw_ti a1.toNat a2.toNat (fun p => σ (18536 + p)) (fun p => σ' (18536 + p)) := by
    rw [show a1.toNat = 0 by omega, show a2.toNat = 2 by omega]
    intro p hp
    rcases (show p = 0 ∨ p = 1 ∨ p = 2 ∨ p = 3 ∨ p = 4 ∨ p = 5 ∨ p = 6 ∨ p = 7 by omega) with rfl | rfl | rfl | rfl | rfl | rfl | rfl | rfl
    · show σ' 18536 = if (0 : Nat) = 0 then _ else _
      rw [if_pos rfl]
      show σ' 18536 = (((σ 18536).toNat ||| 2 ^ 2 : Nat) : Int)
      omega
    · show σ' 18537 = if (1 : Nat) = 0 then _ else if (1 : Nat) = 2 then _ else _
      rw [if_neg (by decide), if_neg (by decide)]
      exact lw_id (hs _ (by decide)) (hm _ (by decide))
    · show σ' 18538 = if (2 : Nat) = 0 then _ else if (2 : Nat) = 2 then _ else _
      rw [if_neg (by decide), if_pos rfl]
      show σ' 18538 = (((σ 18538).toNat ||| 2 ^ 0 : Nat) : Int)
      omega
    · show σ' 18539 = if (3 : Nat) = 0 then _ else if (3 : Nat) = 2 then _ else _
      rw [if_neg (by decide), if_neg (by decide)]
      exact lw_id (hs _ (by decide)) (hm _ (by decide))
    · show σ' 18540 = if (4 : Nat) = 0 then _ else if (4 : Nat) = 2 then _ else _
      rw [if_neg (by decide), if_neg (by decide)]
      exact lw_id (hs _ (by decide)) (hm _ (by decide))
    · show σ' 18541 = if (5 : Nat) = 0 then _ else if (5 : Nat) = 2 then _ else _
      rw [if_neg (by decide), if_neg (by decide)]
      exact lw_id (hs _ (by decide)) (hm _ (by decide))
    · show σ' 18542 = if (6 : Nat) = 0 then _ else if (6 : Nat) = 2 then _ else _
      rw [if_neg (by decide), if_neg (by decide)]
      exact lw_id (hs _ (by decide)) (hm _ (by decide))
    · show σ' 18543 = if (7 : Nat) = 0 then _ else if (7 : Nat) = 2 then _ else _
      rw [if_neg (by decide), if_neg (by decide)]
      exact lw_id (hs _ (by decide)) (hm _ (by decide))
  exact Or.inl ⟨by omega, by omega, by omega, by omega, by omega, Or.inr ⟨by omega, ti, (fun p hp => (by rcases (show p = 0 ∨ p = 1 ∨ p = 2 ∨ p = 3 ∨ p = 4 ∨ p = 5 ∨ p = 6 ∨ p = 7 by omega) with rfl | rfl | rfl | rfl | rfl | rfl | rfl | rfl <;> exact lw_id (hs _ (by decide)) (hm _ (by decide))))⟩⟩
set_option maxHeartbeats 1000000 in
theorem lw_ux_10 {as : List rv_A} {σ σ' : Nat → Int} {o : rv_O} {x : Int32} {a1 a2 a3 : Int} {τ : Nat → Int} (hx : o.1 = some (.inl x)) (h1 : lw_av as 1 = a1) (h2 : lw_av as 2 = a2) (h3 : lw_av as 3 = a3) (ho1 : sy_or (σ' 18588) (σ' 18589) (σ' 18590)) (ho2 : sy_or (σ' 18591) (σ' 18592) (σ' 18593)) (hW : lw_W ([(18544, 4, 255), (18546, 1, 255), (18590, 4, 255), (18593, 1, 255)], [(0, [(18544, (-1)), (1000000, 1)]), (0, [(18546, (-1)), (1000001, 1)]), ((-1), [(133, 1)]), (11, [(134, (-1))]), (0, [(19001, 1)]), (0, [(19001, (-1))]), ((-2), [(19002, 1)]), (2, [(19002, (-1))]), ((-1), [(19003, 1)]), (0, [(1000000, 1), (1000002, (-1))]), (0, [(1000000, (-1)), (1000002, 1)]), (0, [(1000001, 1), (1000003, (-1))]), (0, [(1000001, (-1)), (1000003, 1)]), ((-1), [(19001, (-1)), (19002, 1)]), ((-1), [(133, 1), (19002, (-1))]), ((-1), [(133, 1), (19001, (-1))])], [(9, (0, [])), (134, (1, [(134, 1)])), (7048, ((-2), [])), (7049, ((-2), [])), (8069, (0, [])), (11396, ((-2), [])), (18544, (0, [(1000000, 1)])), (18546, (0, [(1000001, 1)])), (18588, (0, [(18544, 1)])), (18589, (4, [])), (18590, (0, [(1000002, 1)])), (18591, (0, [(18546, 1)])), (18592, (1, [])), (18593, (0, [(1000003, 1)])), (18594, (2, []))], some (false, (1, []))) as σ σ' τ o) : lw_ux_C a1 a2 a3 x.toInt σ σ' := by
  unfold lw_ux_C
  obtain ⟨hs, ht, hf, hr, hm, hw⟩ := hW
  have e1 : τ 19001 = a1 := by rw [ht 19001 (by decide) (by decide)]; exact h1
  have e2 : τ 19002 = a2 := by rw [ht 19002 (by decide) (by decide)]; exact h2
  have e3 : τ 19003 = a3 := by rw [ht 19003 (by decide) (by decide)]; exact h3
  rw [hx] at hr
  obtain ⟨y, hy, hv⟩ := hr
  cases hy
  replace hv : x.toInt = 1 + 0 := hv
  have f0 : 0 ≤ 0 + ((-1) * τ 18544 + (1 * τ 1000000 + 0)) := hf _ (List.Mem.head _)
  have f1 : 0 ≤ 0 + ((-1) * τ 18546 + (1 * τ 1000001 + 0)) := hf _ (List.Mem.tail _ (List.Mem.head _))
  have f2 : 0 ≤ (-1) + (1 * τ 133 + 0) := hf _ (List.Mem.tail _ (List.Mem.tail _ (List.Mem.head _)))
  have f3 : 0 ≤ 11 + ((-1) * τ 134 + 0) := hf _ (List.Mem.tail _ (List.Mem.tail _ (List.Mem.tail _ (List.Mem.head _))))
  have f4 : 0 ≤ 0 + (1 * τ 19001 + 0) := hf _ (List.Mem.tail _ (List.Mem.tail _ (List.Mem.tail _ (List.Mem.tail _ (List.Mem.head _)))))
  have f5 : 0 ≤ 0 + ((-1) * τ 19001 + 0) := hf _ (List.Mem.tail _ (List.Mem.tail _ (List.Mem.tail _ (List.Mem.tail _ (List.Mem.tail _ (List.Mem.head _))))))
  have f6 : 0 ≤ (-2) + (1 * τ 19002 + 0) := hf _ (List.Mem.tail _ (List.Mem.tail _ (List.Mem.tail _ (List.Mem.tail _ (List.Mem.tail _ (List.Mem.tail _ (List.Mem.head _)))))))
  have f7 : 0 ≤ 2 + ((-1) * τ 19002 + 0) := hf _ (List.Mem.tail _ (List.Mem.tail _ (List.Mem.tail _ (List.Mem.tail _ (List.Mem.tail _ (List.Mem.tail _ (List.Mem.tail _ (List.Mem.head _))))))))
  have f8 : 0 ≤ (-1) + (1 * τ 19003 + 0) := hf _ (List.Mem.tail _ (List.Mem.tail _ (List.Mem.tail _ (List.Mem.tail _ (List.Mem.tail _ (List.Mem.tail _ (List.Mem.tail _ (List.Mem.tail _ (List.Mem.head _)))))))))
  have f9 : 0 ≤ 0 + (1 * τ 1000000 + ((-1) * τ 1000002 + 0)) := hf _ (List.Mem.tail _ (List.Mem.tail _ (List.Mem.tail _ (List.Mem.tail _ (List.Mem.tail _ (List.Mem.tail _ (List.Mem.tail _ (List.Mem.tail _ (List.Mem.tail _ (List.Mem.head _))))))))))
  have f10 : 0 ≤ 0 + ((-1) * τ 1000000 + (1 * τ 1000002 + 0)) := hf _ (List.Mem.tail _ (List.Mem.tail _ (List.Mem.tail _ (List.Mem.tail _ (List.Mem.tail _ (List.Mem.tail _ (List.Mem.tail _ (List.Mem.tail _ (List.Mem.tail _ (List.Mem.tail _ (List.Mem.head _)))))))))))
  have f11 : 0 ≤ 0 + (1 * τ 1000001 + ((-1) * τ 1000003 + 0)) := hf _ (List.Mem.tail _ (List.Mem.tail _ (List.Mem.tail _ (List.Mem.tail _ (List.Mem.tail _ (List.Mem.tail _ (List.Mem.tail _ (List.Mem.tail _ (List.Mem.tail _ (List.Mem.tail _ (List.Mem.tail _ (List.Mem.head _))))))))))))
  have f12 : 0 ≤ 0 + ((-1) * τ 1000001 + (1 * τ 1000003 + 0)) := hf _ (List.Mem.tail _ (List.Mem.tail _ (List.Mem.tail _ (List.Mem.tail _ (List.Mem.tail _ (List.Mem.tail _ (List.Mem.tail _ (List.Mem.tail _ (List.Mem.tail _ (List.Mem.tail _ (List.Mem.tail _ (List.Mem.tail _ (List.Mem.head _)))))))))))))
  have f13 : 0 ≤ (-1) + ((-1) * τ 19001 + (1 * τ 19002 + 0)) := hf _ (List.Mem.tail _ (List.Mem.tail _ (List.Mem.tail _ (List.Mem.tail _ (List.Mem.tail _ (List.Mem.tail _ (List.Mem.tail _ (List.Mem.tail _ (List.Mem.tail _ (List.Mem.tail _ (List.Mem.tail _ (List.Mem.tail _ (List.Mem.tail _ (List.Mem.head _))))))))))))))
  have f14 : 0 ≤ (-1) + (1 * τ 133 + ((-1) * τ 19002 + 0)) := hf _ (List.Mem.tail _ (List.Mem.tail _ (List.Mem.tail _ (List.Mem.tail _ (List.Mem.tail _ (List.Mem.tail _ (List.Mem.tail _ (List.Mem.tail _ (List.Mem.tail _ (List.Mem.tail _ (List.Mem.tail _ (List.Mem.tail _ (List.Mem.tail _ (List.Mem.tail _ (List.Mem.head _)))))))))))))))
  have f15 : 0 ≤ (-1) + (1 * τ 133 + ((-1) * τ 19001 + 0)) := hf _ (List.Mem.tail _ (List.Mem.tail _ (List.Mem.tail _ (List.Mem.tail _ (List.Mem.tail _ (List.Mem.tail _ (List.Mem.tail _ (List.Mem.tail _ (List.Mem.tail _ (List.Mem.tail _ (List.Mem.tail _ (List.Mem.tail _ (List.Mem.tail _ (List.Mem.tail _ (List.Mem.tail _ (List.Mem.head _))))))))))))))))
  have mX1 : σ' 18588 = σ 18544 := lw_id (hs 18544 (by decide)) (hm 18588 (by decide))
  have mY1 : σ' 18589 = 4 := (hm 18589 (by decide)).trans rfl
  have mO1 : σ' 18590 = 0 + (1 * τ 1000002 + 0) := hm 18590 (by decide)
  have mA1 : σ' 18544 = 0 + (1 * τ 1000000 + 0) := hm 18544 (by decide)
  unfold sy_or at ho1
  rw [mX1, mY1, show (4 : Int).toNat = 2 ^ 2 from rfl] at ho1
  have mX2 : σ' 18591 = σ 18546 := lw_id (hs 18546 (by decide)) (hm 18591 (by decide))
  have mY2 : σ' 18592 = 1 := (hm 18592 (by decide)).trans rfl
  have mO2 : σ' 18593 = 0 + (1 * τ 1000003 + 0) := hm 18593 (by decide)
  have mA2 : σ' 18546 = 0 + (1 * τ 1000001 + 0) := hm 18546 (by decide)
  unfold sy_or at ho2
  rw [mX2, mY2, show (1 : Int).toNat = 2 ^ 0 from rfl] at ho2
  have ti : lw_ti a1.toNat a2.toNat (fun p => σ (18544 + p)) (fun p => σ' (18544 + p)) := by
    rw [show a1.toNat = 0 by omega, show a2.toNat = 2 by omega]
    intro p hp
    rcases (show p = 0 ∨ p = 1 ∨ p = 2 ∨ p = 3 ∨ p = 4 ∨ p = 5 ∨ p = 6 ∨ p = 7 by omega) with rfl | rfl | rfl | rfl | rfl | rfl | rfl | rfl
    · show σ' 18544 = if (0 : Nat) = 0 then _ else _
      rw [if_pos rfl]
      show σ' 18544 = (((σ 18544).toNat ||| 2 ^ 2 : Nat) : Int)
      omega
    · show σ' 18545 = if (1 : Nat) = 0 then _ else if (1 : Nat) = 2 then _ else _
      rw [if_neg (by decide), if_neg (by decide)]
      exact lw_id (hs _ (by decide)) (hm _ (by decide))
    · show σ' 18546 = if (2 : Nat) = 0 then _ else if (2 : Nat) = 2 then _ else _
      rw [if_neg (by decide), if_pos rfl]
      show σ' 18546 = (((σ 18546).toNat ||| 2 ^ 0 : Nat) : Int)
      omega
    · show σ' 18547 = if (3 : Nat) = 0 then _ else if (3 : Nat) = 2 then _ else _
      rw [if_neg (by decide), if_neg (by decide)]
      exact lw_id (hs _ (by decide)) (hm _ (by decide))
    · show σ' 18548 = if (4 : Nat) = 0 then _ else if (4 : Nat) = 2 then _ else _
      rw [if_neg (by decide), if_neg (by decide)]
      exact lw_id (hs _ (by decide)) (hm _ (by decide))
    · show σ' 18549 = if (5 : Nat) = 0 then _ else if (5 : Nat) = 2 then _ else _
      rw [if_neg (by decide), if_neg (by decide)]
      exact lw_id (hs _ (by decide)) (hm _ (by decide))
    · show σ' 18550 = if (6 : Nat) = 0 then _ else if (6 : Nat) = 2 then _ else _
      rw [if_neg (by decide), if_neg (by decide)]
      exact lw_id (hs _ (by decide)) (hm _ (by decide))
    · show σ' 18551 = if (7 : Nat) = 0 then _ else if (7 : Nat) = 2 then _ else _
      rw [if_neg (by decide), if_neg (by decide)]
      exact lw_id (hs _ (by decide)) (hm _ (by decide))
  exact Or.inl ⟨by omega, by omega, by omega, by omega, by omega, Or.inl ⟨by omega, ti, (fun p hp => (by rcases (show p = 0 ∨ p = 1 ∨ p = 2 ∨ p = 3 ∨ p = 4 ∨ p = 5 ∨ p = 6 ∨ p = 7 by omega) with rfl | rfl | rfl | rfl | rfl | rfl | rfl | rfl <;> exact lw_id (hs _ (by decide)) (hm _ (by decide))))⟩⟩
set_option maxHeartbeats 1000000 in
theorem lw_ux_11 {as : List rv_A} {σ σ' : Nat → Int} {o : rv_O} {x : Int32} {a1 a2 a3 : Int} {τ : Nat → Int} (hx : o.1 = some (.inl x)) (h1 : lw_av as 1 = a1) (h2 : lw_av as 2 = a2) (h3 : lw_av as 3 = a3) (ho1 : sy_or (σ' 18588) (σ' 18589) (σ' 18590)) (ho2 : sy_or (σ' 18591) (σ' 18592) (σ' 18593)) (hW : lw_W ([(18536, 8, 255), (18539, 1, 255), (18590, 8, 255), (18593, 1, 255)], [(0, [(18536, (-1)), (1000000, 1)]), (0, [(18539, (-1)), (1000001, 1)]), ((-1), [(133, 1)]), (11, [(134, (-1))]), (0, [(19001, 1)]), (0, [(19001, (-1))]), ((-3), [(19002, 1)]), (3, [(19002, (-1))]), (0, [(19003, (-1))]), (0, [(1000000, 1), (1000002, (-1))]), (0, [(1000000, (-1)), (1000002, 1)]), (0, [(1000001, 1), (1000003, (-1))]), (0, [(1000001, (-1)), (1000003, 1)]), ((-1), [(19001, (-1)), (19002, 1)]), ((-1), [(133, 1), (19002, (-1))]), ((-1), [(133, 1), (19001, (-1))])], [(9, (0, [])), (134, (1, [(134, 1)])), (7048, ((-2), [])), (7049, ((-2), [])), (8069, (0, [])), (11396, ((-2), [])), (18536, (0, [(1000000, 1)])), (18539, (0, [(1000001, 1)])), (18588, (0, [(18536, 1)])), (18589, (8, [])), (18590, (0, [(1000002, 1)])), (18591, (0, [(18539, 1)])), (18592, (1, [])), (18593, (0, [(1000003, 1)])), (18594, (2, []))], some (false, (1, []))) as σ σ' τ o) : lw_ux_C a1 a2 a3 x.toInt σ σ' := by
  unfold lw_ux_C
  obtain ⟨hs, ht, hf, hr, hm, hw⟩ := hW
  have e1 : τ 19001 = a1 := by rw [ht 19001 (by decide) (by decide)]; exact h1
  have e2 : τ 19002 = a2 := by rw [ht 19002 (by decide) (by decide)]; exact h2
  have e3 : τ 19003 = a3 := by rw [ht 19003 (by decide) (by decide)]; exact h3
  rw [hx] at hr
  obtain ⟨y, hy, hv⟩ := hr
  cases hy
  replace hv : x.toInt = 1 + 0 := hv
  have f0 : 0 ≤ 0 + ((-1) * τ 18536 + (1 * τ 1000000 + 0)) := hf _ (List.Mem.head _)
  have f1 : 0 ≤ 0 + ((-1) * τ 18539 + (1 * τ 1000001 + 0)) := hf _ (List.Mem.tail _ (List.Mem.head _))
  have f2 : 0 ≤ (-1) + (1 * τ 133 + 0) := hf _ (List.Mem.tail _ (List.Mem.tail _ (List.Mem.head _)))
  have f3 : 0 ≤ 11 + ((-1) * τ 134 + 0) := hf _ (List.Mem.tail _ (List.Mem.tail _ (List.Mem.tail _ (List.Mem.head _))))
  have f4 : 0 ≤ 0 + (1 * τ 19001 + 0) := hf _ (List.Mem.tail _ (List.Mem.tail _ (List.Mem.tail _ (List.Mem.tail _ (List.Mem.head _)))))
  have f5 : 0 ≤ 0 + ((-1) * τ 19001 + 0) := hf _ (List.Mem.tail _ (List.Mem.tail _ (List.Mem.tail _ (List.Mem.tail _ (List.Mem.tail _ (List.Mem.head _))))))
  have f6 : 0 ≤ (-3) + (1 * τ 19002 + 0) := hf _ (List.Mem.tail _ (List.Mem.tail _ (List.Mem.tail _ (List.Mem.tail _ (List.Mem.tail _ (List.Mem.tail _ (List.Mem.head _)))))))
  have f7 : 0 ≤ 3 + ((-1) * τ 19002 + 0) := hf _ (List.Mem.tail _ (List.Mem.tail _ (List.Mem.tail _ (List.Mem.tail _ (List.Mem.tail _ (List.Mem.tail _ (List.Mem.tail _ (List.Mem.head _))))))))
  have f8 : 0 ≤ 0 + ((-1) * τ 19003 + 0) := hf _ (List.Mem.tail _ (List.Mem.tail _ (List.Mem.tail _ (List.Mem.tail _ (List.Mem.tail _ (List.Mem.tail _ (List.Mem.tail _ (List.Mem.tail _ (List.Mem.head _)))))))))
  have f9 : 0 ≤ 0 + (1 * τ 1000000 + ((-1) * τ 1000002 + 0)) := hf _ (List.Mem.tail _ (List.Mem.tail _ (List.Mem.tail _ (List.Mem.tail _ (List.Mem.tail _ (List.Mem.tail _ (List.Mem.tail _ (List.Mem.tail _ (List.Mem.tail _ (List.Mem.head _))))))))))
  have f10 : 0 ≤ 0 + ((-1) * τ 1000000 + (1 * τ 1000002 + 0)) := hf _ (List.Mem.tail _ (List.Mem.tail _ (List.Mem.tail _ (List.Mem.tail _ (List.Mem.tail _ (List.Mem.tail _ (List.Mem.tail _ (List.Mem.tail _ (List.Mem.tail _ (List.Mem.tail _ (List.Mem.head _)))))))))))
  have f11 : 0 ≤ 0 + (1 * τ 1000001 + ((-1) * τ 1000003 + 0)) := hf _ (List.Mem.tail _ (List.Mem.tail _ (List.Mem.tail _ (List.Mem.tail _ (List.Mem.tail _ (List.Mem.tail _ (List.Mem.tail _ (List.Mem.tail _ (List.Mem.tail _ (List.Mem.tail _ (List.Mem.tail _ (List.Mem.head _))))))))))))
  have f12 : 0 ≤ 0 + ((-1) * τ 1000001 + (1 * τ 1000003 + 0)) := hf _ (List.Mem.tail _ (List.Mem.tail _ (List.Mem.tail _ (List.Mem.tail _ (List.Mem.tail _ (List.Mem.tail _ (List.Mem.tail _ (List.Mem.tail _ (List.Mem.tail _ (List.Mem.tail _ (List.Mem.tail _ (List.Mem.tail _ (List.Mem.head _)))))))))))))
  have f13 : 0 ≤ (-1) + ((-1) * τ 19001 + (1 * τ 19002 + 0)) := hf _ (List.Mem.tail _ (List.Mem.tail _ (List.Mem.tail _ (List.Mem.tail _ (List.Mem.tail _ (List.Mem.tail _ (List.Mem.tail _ (List.Mem.tail _ (List.Mem.tail _ (List.Mem.tail _ (List.Mem.tail _ (List.Mem.tail _ (List.Mem.tail _ (List.Mem.head _))))))))))))))
  have f14 : 0 ≤ (-1) + (1 * τ 133 + ((-1) * τ 19002 + 0)) := hf _ (List.Mem.tail _ (List.Mem.tail _ (List.Mem.tail _ (List.Mem.tail _ (List.Mem.tail _ (List.Mem.tail _ (List.Mem.tail _ (List.Mem.tail _ (List.Mem.tail _ (List.Mem.tail _ (List.Mem.tail _ (List.Mem.tail _ (List.Mem.tail _ (List.Mem.tail _ (List.Mem.head _)))))))))))))))
  have f15 : 0 ≤ (-1) + (1 * τ 133 + ((-1) * τ 19001 + 0)) := hf _ (List.Mem.tail _ (List.Mem.tail _ (List.Mem.tail _ (List.Mem.tail _ (List.Mem.tail _ (List.Mem.tail _ (List.Mem.tail _ (List.Mem.tail _ (List.Mem.tail _ (List.Mem.tail _ (List.Mem.tail _ (List.Mem.tail _ (List.Mem.tail _ (List.Mem.tail _ (List.Mem.tail _ (List.Mem.head _))))))))))))))))
  have mX1 : σ' 18588 = σ 18536 := lw_id (hs 18536 (by decide)) (hm 18588 (by decide))
  have mY1 : σ' 18589 = 8 := (hm 18589 (by decide)).trans rfl
  have mO1 : σ' 18590 = 0 + (1 * τ 1000002 + 0) := hm 18590 (by decide)
  have mA1 : σ' 18536 = 0 + (1 * τ 1000000 + 0) := hm 18536 (by decide)
  unfold sy_or at ho1
  rw [mX1, mY1, show (8 : Int).toNat = 2 ^ 3 from rfl] at ho1
  have mX2 : σ' 18591 = σ 18539 := lw_id (hs 18539 (by decide)) (hm 18591 (by decide))
  have mY2 : σ' 18592 = 1 := (hm 18592 (by decide)).trans rfl
  have mO2 : σ' 18593 = 0 + (1 * τ 1000003 + 0) := hm 18593 (by decide)
  have mA2 : σ' 18539 = 0 + (1 * τ 1000001 + 0) := hm 18539 (by decide)
  unfold sy_or at ho2
  rw [mX2, mY2, show (1 : Int).toNat = 2 ^ 0 from rfl] at ho2
  have ti : lw_ti a1.toNat a2.toNat (fun p => σ (18536 + p)) (fun p => σ' (18536 + p)) := by
    rw [show a1.toNat = 0 by omega, show a2.toNat = 3 by omega]
    intro p hp
    rcases (show p = 0 ∨ p = 1 ∨ p = 2 ∨ p = 3 ∨ p = 4 ∨ p = 5 ∨ p = 6 ∨ p = 7 by omega) with rfl | rfl | rfl | rfl | rfl | rfl | rfl | rfl
    · show σ' 18536 = if (0 : Nat) = 0 then _ else _
      rw [if_pos rfl]
      show σ' 18536 = (((σ 18536).toNat ||| 2 ^ 3 : Nat) : Int)
      omega
    · show σ' 18537 = if (1 : Nat) = 0 then _ else if (1 : Nat) = 3 then _ else _
      rw [if_neg (by decide), if_neg (by decide)]
      exact lw_id (hs _ (by decide)) (hm _ (by decide))
    · show σ' 18538 = if (2 : Nat) = 0 then _ else if (2 : Nat) = 3 then _ else _
      rw [if_neg (by decide), if_neg (by decide)]
      exact lw_id (hs _ (by decide)) (hm _ (by decide))
    · show σ' 18539 = if (3 : Nat) = 0 then _ else if (3 : Nat) = 3 then _ else _
      rw [if_neg (by decide), if_pos rfl]
      show σ' 18539 = (((σ 18539).toNat ||| 2 ^ 0 : Nat) : Int)
      omega
    · show σ' 18540 = if (4 : Nat) = 0 then _ else if (4 : Nat) = 3 then _ else _
      rw [if_neg (by decide), if_neg (by decide)]
      exact lw_id (hs _ (by decide)) (hm _ (by decide))
    · show σ' 18541 = if (5 : Nat) = 0 then _ else if (5 : Nat) = 3 then _ else _
      rw [if_neg (by decide), if_neg (by decide)]
      exact lw_id (hs _ (by decide)) (hm _ (by decide))
    · show σ' 18542 = if (6 : Nat) = 0 then _ else if (6 : Nat) = 3 then _ else _
      rw [if_neg (by decide), if_neg (by decide)]
      exact lw_id (hs _ (by decide)) (hm _ (by decide))
    · show σ' 18543 = if (7 : Nat) = 0 then _ else if (7 : Nat) = 3 then _ else _
      rw [if_neg (by decide), if_neg (by decide)]
      exact lw_id (hs _ (by decide)) (hm _ (by decide))
  exact Or.inl ⟨by omega, by omega, by omega, by omega, by omega, Or.inr ⟨by omega, ti, (fun p hp => (by rcases (show p = 0 ∨ p = 1 ∨ p = 2 ∨ p = 3 ∨ p = 4 ∨ p = 5 ∨ p = 6 ∨ p = 7 by omega) with rfl | rfl | rfl | rfl | rfl | rfl | rfl | rfl <;> exact lw_id (hs _ (by decide)) (hm _ (by decide))))⟩⟩
set_option maxHeartbeats 1000000 in
theorem lw_ux_12 {as : List rv_A} {σ σ' : Nat → Int} {o : rv_O} {x : Int32} {a1 a2 a3 : Int} {τ : Nat → Int} (hx : o.1 = some (.inl x)) (h1 : lw_av as 1 = a1) (h2 : lw_av as 2 = a2) (h3 : lw_av as 3 = a3) (ho1 : sy_or (σ' 18588) (σ' 18589) (σ' 18590)) (ho2 : sy_or (σ' 18591) (σ' 18592) (σ' 18593)) (hW : lw_W ([(18544, 8, 255), (18547, 1, 255), (18590, 8, 255), (18593, 1, 255)], [(0, [(18544, (-1)), (1000000, 1)]), (0, [(18547, (-1)), (1000001, 1)]), ((-1), [(133, 1)]), (11, [(134, (-1))]), (0, [(19001, 1)]), (0, [(19001, (-1))]), ((-3), [(19002, 1)]), (3, [(19002, (-1))]), ((-1), [(19003, 1)]), (0, [(1000000, 1), (1000002, (-1))]), (0, [(1000000, (-1)), (1000002, 1)]), (0, [(1000001, 1), (1000003, (-1))]), (0, [(1000001, (-1)), (1000003, 1)]), ((-1), [(19001, (-1)), (19002, 1)]), ((-1), [(133, 1), (19002, (-1))]), ((-1), [(133, 1), (19001, (-1))])], [(9, (0, [])), (134, (1, [(134, 1)])), (7048, ((-2), [])), (7049, ((-2), [])), (8069, (0, [])), (11396, ((-2), [])), (18544, (0, [(1000000, 1)])), (18547, (0, [(1000001, 1)])), (18588, (0, [(18544, 1)])), (18589, (8, [])), (18590, (0, [(1000002, 1)])), (18591, (0, [(18547, 1)])), (18592, (1, [])), (18593, (0, [(1000003, 1)])), (18594, (2, []))], some (false, (1, []))) as σ σ' τ o) : lw_ux_C a1 a2 a3 x.toInt σ σ' := by
  unfold lw_ux_C
  obtain ⟨hs, ht, hf, hr, hm, hw⟩ := hW
  have e1 : τ 19001 = a1 := by rw [ht 19001 (by decide) (by decide)]; exact h1
  have e2 : τ 19002 = a2 := by rw [ht 19002 (by decide) (by decide)]; exact h2
  have e3 : τ 19003 = a3 := by rw [ht 19003 (by decide) (by decide)]; exact h3
  rw [hx] at hr
  obtain ⟨y, hy, hv⟩ := hr
  cases hy
  replace hv : x.toInt = 1 + 0 := hv
  have f0 : 0 ≤ 0 + ((-1) * τ 18544 + (1 * τ 1000000 + 0)) := hf _ (List.Mem.head _)
  have f1 : 0 ≤ 0 + ((-1) * τ 18547 + (1 * τ 1000001 + 0)) := hf _ (List.Mem.tail _ (List.Mem.head _))
  have f2 : 0 ≤ (-1) + (1 * τ 133 + 0) := hf _ (List.Mem.tail _ (List.Mem.tail _ (List.Mem.head _)))
  have f3 : 0 ≤ 11 + ((-1) * τ 134 + 0) := hf _ (List.Mem.tail _ (List.Mem.tail _ (List.Mem.tail _ (List.Mem.head _))))
  have f4 : 0 ≤ 0 + (1 * τ 19001 + 0) := hf _ (List.Mem.tail _ (List.Mem.tail _ (List.Mem.tail _ (List.Mem.tail _ (List.Mem.head _)))))
  have f5 : 0 ≤ 0 + ((-1) * τ 19001 + 0) := hf _ (List.Mem.tail _ (List.Mem.tail _ (List.Mem.tail _ (List.Mem.tail _ (List.Mem.tail _ (List.Mem.head _))))))
  have f6 : 0 ≤ (-3) + (1 * τ 19002 + 0) := hf _ (List.Mem.tail _ (List.Mem.tail _ (List.Mem.tail _ (List.Mem.tail _ (List.Mem.tail _ (List.Mem.tail _ (List.Mem.head _)))))))
  have f7 : 0 ≤ 3 + ((-1) * τ 19002 + 0) := hf _ (List.Mem.tail _ (List.Mem.tail _ (List.Mem.tail _ (List.Mem.tail _ (List.Mem.tail _ (List.Mem.tail _ (List.Mem.tail _ (List.Mem.head _))))))))
  have f8 : 0 ≤ (-1) + (1 * τ 19003 + 0) := hf _ (List.Mem.tail _ (List.Mem.tail _ (List.Mem.tail _ (List.Mem.tail _ (List.Mem.tail _ (List.Mem.tail _ (List.Mem.tail _ (List.Mem.tail _ (List.Mem.head _)))))))))
  have f9 : 0 ≤ 0 + (1 * τ 1000000 + ((-1) * τ 1000002 + 0)) := hf _ (List.Mem.tail _ (List.Mem.tail _ (List.Mem.tail _ (List.Mem.tail _ (List.Mem.tail _ (List.Mem.tail _ (List.Mem.tail _ (List.Mem.tail _ (List.Mem.tail _ (List.Mem.head _))))))))))
  have f10 : 0 ≤ 0 + ((-1) * τ 1000000 + (1 * τ 1000002 + 0)) := hf _ (List.Mem.tail _ (List.Mem.tail _ (List.Mem.tail _ (List.Mem.tail _ (List.Mem.tail _ (List.Mem.tail _ (List.Mem.tail _ (List.Mem.tail _ (List.Mem.tail _ (List.Mem.tail _ (List.Mem.head _)))))))))))
  have f11 : 0 ≤ 0 + (1 * τ 1000001 + ((-1) * τ 1000003 + 0)) := hf _ (List.Mem.tail _ (List.Mem.tail _ (List.Mem.tail _ (List.Mem.tail _ (List.Mem.tail _ (List.Mem.tail _ (List.Mem.tail _ (List.Mem.tail _ (List.Mem.tail _ (List.Mem.tail _ (List.Mem.tail _ (List.Mem.head _))))))))))))
  have f12 : 0 ≤ 0 + ((-1) * τ 1000001 + (1 * τ 1000003 + 0)) := hf _ (List.Mem.tail _ (List.Mem.tail _ (List.Mem.tail _ (List.Mem.tail _ (List.Mem.tail _ (List.Mem.tail _ (List.Mem.tail _ (List.Mem.tail _ (List.Mem.tail _ (List.Mem.tail _ (List.Mem.tail _ (List.Mem.tail _ (List.Mem.head _)))))))))))))
  have f13 : 0 ≤ (-1) + ((-1) * τ 19001 + (1 * τ 19002 + 0)) := hf _ (List.Mem.tail _ (List.Mem.tail _ (List.Mem.tail _ (List.Mem.tail _ (List.Mem.tail _ (List.Mem.tail _ (List.Mem.tail _ (List.Mem.tail _ (List.Mem.tail _ (List.Mem.tail _ (List.Mem.tail _ (List.Mem.tail _ (List.Mem.tail _ (List.Mem.head _))))))))))))))
  have f14 : 0 ≤ (-1) + (1 * τ 133 + ((-1) * τ 19002 + 0)) := hf _ (List.Mem.tail _ (List.Mem.tail _ (List.Mem.tail _ (List.Mem.tail _ (List.Mem.tail _ (List.Mem.tail _ (List.Mem.tail _ (List.Mem.tail _ (List.Mem.tail _ (List.Mem.tail _ (List.Mem.tail _ (List.Mem.tail _ (List.Mem.tail _ (List.Mem.tail _ (List.Mem.head _)))))))))))))))
  have f15 : 0 ≤ (-1) + (1 * τ 133 + ((-1) * τ 19001 + 0)) := hf _ (List.Mem.tail _ (List.Mem.tail _ (List.Mem.tail _ (List.Mem.tail _ (List.Mem.tail _ (List.Mem.tail _ (List.Mem.tail _ (List.Mem.tail _ (List.Mem.tail _ (List.Mem.tail _ (List.Mem.tail _ (List.Mem.tail _ (List.Mem.tail _ (List.Mem.tail _ (List.Mem.tail _ (List.Mem.head _))))))))))))))))
  have mX1 : σ' 18588 = σ 18544 := lw_id (hs 18544 (by decide)) (hm 18588 (by decide))
  have mY1 : σ' 18589 = 8 := (hm 18589 (by decide)).trans rfl
  have mO1 : σ' 18590 = 0 + (1 * τ 1000002 + 0) := hm 18590 (by decide)
  have mA1 : σ' 18544 = 0 + (1 * τ 1000000 + 0) := hm 18544 (by decide)
  unfold sy_or at ho1
  rw [mX1, mY1, show (8 : Int).toNat = 2 ^ 3 from rfl] at ho1
  have mX2 : σ' 18591 = σ 18547 := lw_id (hs 18547 (by decide)) (hm 18591 (by decide))
  have mY2 : σ' 18592 = 1 := (hm 18592 (by decide)).trans rfl
  have mO2 : σ' 18593 = 0 + (1 * τ 1000003 + 0) := hm 18593 (by decide)
  have mA2 : σ' 18547 = 0 + (1 * τ 1000001 + 0) := hm 18547 (by decide)
  unfold sy_or at ho2
  rw [mX2, mY2, show (1 : Int).toNat = 2 ^ 0 from rfl] at ho2
  have ti : lw_ti a1.toNat a2.toNat (fun p => σ (18544 + p)) (fun p => σ' (18544 + p)) := by
    rw [show a1.toNat = 0 by omega, show a2.toNat = 3 by omega]
    intro p hp
    rcases (show p = 0 ∨ p = 1 ∨ p = 2 ∨ p = 3 ∨ p = 4 ∨ p = 5 ∨ p = 6 ∨ p = 7 by omega) with rfl | rfl | rfl | rfl | rfl | rfl | rfl | rfl
    · show σ' 18544 = if (0 : Nat) = 0 then _ else _
      rw [if_pos rfl]
      show σ' 18544 = (((σ 18544).toNat ||| 2 ^ 3 : Nat) : Int)
      omega
    · show σ' 18545 = if (1 : Nat) = 0 then _ else if (1 : Nat) = 3 then _ else _
      rw [if_neg (by decide), if_neg (by decide)]
      exact lw_id (hs _ (by decide)) (hm _ (by decide))
    · show σ' 18546 = if (2 : Nat) = 0 then _ else if (2 : Nat) = 3 then _ else _
      rw [if_neg (by decide), if_neg (by decide)]
      exact lw_id (hs _ (by decide)) (hm _ (by decide))
    · show σ' 18547 = if (3 : Nat) = 0 then _ else if (3 : Nat) = 3 then _ else _
      rw [if_neg (by decide), if_pos rfl]
      show σ' 18547 = (((σ 18547).toNat ||| 2 ^ 0 : Nat) : Int)
      omega
    · show σ' 18548 = if (4 : Nat) = 0 then _ else if (4 : Nat) = 3 then _ else _
      rw [if_neg (by decide), if_neg (by decide)]
      exact lw_id (hs _ (by decide)) (hm _ (by decide))
    · show σ' 18549 = if (5 : Nat) = 0 then _ else if (5 : Nat) = 3 then _ else _
      rw [if_neg (by decide), if_neg (by decide)]
      exact lw_id (hs _ (by decide)) (hm _ (by decide))
    · show σ' 18550 = if (6 : Nat) = 0 then _ else if (6 : Nat) = 3 then _ else _
      rw [if_neg (by decide), if_neg (by decide)]
      exact lw_id (hs _ (by decide)) (hm _ (by decide))
    · show σ' 18551 = if (7 : Nat) = 0 then _ else if (7 : Nat) = 3 then _ else _
      rw [if_neg (by decide), if_neg (by decide)]
      exact lw_id (hs _ (by decide)) (hm _ (by decide))
  exact Or.inl ⟨by omega, by omega, by omega, by omega, by omega, Or.inl ⟨by omega, ti, (fun p hp => (by rcases (show p = 0 ∨ p = 1 ∨ p = 2 ∨ p = 3 ∨ p = 4 ∨ p = 5 ∨ p = 6 ∨ p = 7 by omega) with rfl | rfl | rfl | rfl | rfl | rfl | rfl | rfl <;> exact lw_id (hs _ (by decide)) (hm _ (by decide))))⟩⟩
set_option maxHeartbeats 1000000 in
theorem lw_ux_13 {as : List rv_A} {σ σ' : Nat → Int} {o : rv_O} {x : Int32} {a1 a2 a3 : Int} {τ : Nat → Int} (hx : o.1 = some (.inl x)) (h1 : lw_av as 1 = a1) (h2 : lw_av as 2 = a2) (h3 : lw_av as 3 = a3) (ho1 : sy_or (σ' 18588) (σ' 18589) (σ' 18590)) (ho2 : sy_or (σ' 18591) (σ' 18592) (σ' 18593)) (hW : lw_W ([(18536, 16, 255), (18540, 1, 255), (18590, 16, 255), (18593, 1, 255)], [(0, [(18536, (-1)), (1000000, 1)]), (0, [(18540, (-1)), (1000001, 1)]), ((-1), [(133, 1)]), (11, [(134, (-1))]), (0, [(19001, 1)]), (0, [(19001, (-1))]), ((-4), [(19002, 1)]), (4, [(19002, (-1))]), (0, [(19003, (-1))]), (0, [(1000000, 1), (1000002, (-1))]), (0, [(1000000, (-1)), (1000002, 1)]), (0, [(1000001, 1), (1000003, (-1))]), (0, [(1000001, (-1)), (1000003, 1)]), ((-1), [(19001, (-1)), (19002, 1)]), ((-1), [(133, 1), (19002, (-1))]), ((-1), [(133, 1), (19001, (-1))])], [(9, (0, [])), (134, (1, [(134, 1)])), (7048, ((-2), [])), (7049, ((-2), [])), (8069, (0, [])), (11396, ((-2), [])), (18536, (0, [(1000000, 1)])), (18540, (0, [(1000001, 1)])), (18588, (0, [(18536, 1)])), (18589, (16, [])), (18590, (0, [(1000002, 1)])), (18591, (0, [(18540, 1)])), (18592, (1, [])), (18593, (0, [(1000003, 1)])), (18594, (2, []))], some (false, (1, []))) as σ σ' τ o) : lw_ux_C a1 a2 a3 x.toInt σ σ' := by
  unfold lw_ux_C
  obtain ⟨hs, ht, hf, hr, hm, hw⟩ := hW
  have e1 : τ 19001 = a1 := by rw [ht 19001 (by decide) (by decide)]; exact h1
  have e2 : τ 19002 = a2 := by rw [ht 19002 (by decide) (by decide)]; exact h2
  have e3 : τ 19003 = a3 := by rw [ht 19003 (by decide) (by decide)]; exact h3
  rw [hx] at hr
  obtain ⟨y, hy, hv⟩ := hr
  cases hy
  replace hv : x.toInt = 1 + 0 := hv
  have f0 : 0 ≤ 0 + ((-1) * τ 18536 + (1 * τ 1000000 + 0)) := hf _ (List.Mem.head _)
  have f1 : 0 ≤ 0 + ((-1) * τ 18540 + (1 * τ 1000001 + 0)) := hf _ (List.Mem.tail _ (List.Mem.head _))
  have f2 : 0 ≤ (-1) + (1 * τ 133 + 0) := hf _ (List.Mem.tail _ (List.Mem.tail _ (List.Mem.head _)))
  have f3 : 0 ≤ 11 + ((-1) * τ 134 + 0) := hf _ (List.Mem.tail _ (List.Mem.tail _ (List.Mem.tail _ (List.Mem.head _))))
  have f4 : 0 ≤ 0 + (1 * τ 19001 + 0) := hf _ (List.Mem.tail _ (List.Mem.tail _ (List.Mem.tail _ (List.Mem.tail _ (List.Mem.head _)))))
  have f5 : 0 ≤ 0 + ((-1) * τ 19001 + 0) := hf _ (List.Mem.tail _ (List.Mem.tail _ (List.Mem.tail _ (List.Mem.tail _ (List.Mem.tail _ (List.Mem.head _))))))
  have f6 : 0 ≤ (-4) + (1 * τ 19002 + 0) := hf _ (List.Mem.tail _ (List.Mem.tail _ (List.Mem.tail _ (List.Mem.tail _ (List.Mem.tail _ (List.Mem.tail _ (List.Mem.head _)))))))
  have f7 : 0 ≤ 4 + ((-1) * τ 19002 + 0) := hf _ (List.Mem.tail _ (List.Mem.tail _ (List.Mem.tail _ (List.Mem.tail _ (List.Mem.tail _ (List.Mem.tail _ (List.Mem.tail _ (List.Mem.head _))))))))
  have f8 : 0 ≤ 0 + ((-1) * τ 19003 + 0) := hf _ (List.Mem.tail _ (List.Mem.tail _ (List.Mem.tail _ (List.Mem.tail _ (List.Mem.tail _ (List.Mem.tail _ (List.Mem.tail _ (List.Mem.tail _ (List.Mem.head _)))))))))
  have f9 : 0 ≤ 0 + (1 * τ 1000000 + ((-1) * τ 1000002 + 0)) := hf _ (List.Mem.tail _ (List.Mem.tail _ (List.Mem.tail _ (List.Mem.tail _ (List.Mem.tail _ (List.Mem.tail _ (List.Mem.tail _ (List.Mem.tail _ (List.Mem.tail _ (List.Mem.head _))))))))))
  have f10 : 0 ≤ 0 + ((-1) * τ 1000000 + (1 * τ 1000002 + 0)) := hf _ (List.Mem.tail _ (List.Mem.tail _ (List.Mem.tail _ (List.Mem.tail _ (List.Mem.tail _ (List.Mem.tail _ (List.Mem.tail _ (List.Mem.tail _ (List.Mem.tail _ (List.Mem.tail _ (List.Mem.head _)))))))))))
  have f11 : 0 ≤ 0 + (1 * τ 1000001 + ((-1) * τ 1000003 + 0)) := hf _ (List.Mem.tail _ (List.Mem.tail _ (List.Mem.tail _ (List.Mem.tail _ (List.Mem.tail _ (List.Mem.tail _ (List.Mem.tail _ (List.Mem.tail _ (List.Mem.tail _ (List.Mem.tail _ (List.Mem.tail _ (List.Mem.head _))))))))))))
  have f12 : 0 ≤ 0 + ((-1) * τ 1000001 + (1 * τ 1000003 + 0)) := hf _ (List.Mem.tail _ (List.Mem.tail _ (List.Mem.tail _ (List.Mem.tail _ (List.Mem.tail _ (List.Mem.tail _ (List.Mem.tail _ (List.Mem.tail _ (List.Mem.tail _ (List.Mem.tail _ (List.Mem.tail _ (List.Mem.tail _ (List.Mem.head _)))))))))))))
  have f13 : 0 ≤ (-1) + ((-1) * τ 19001 + (1 * τ 19002 + 0)) := hf _ (List.Mem.tail _ (List.Mem.tail _ (List.Mem.tail _ (List.Mem.tail _ (List.Mem.tail _ (List.Mem.tail _ (List.Mem.tail _ (List.Mem.tail _ (List.Mem.tail _ (List.Mem.tail _ (List.Mem.tail _ (List.Mem.tail _ (List.Mem.tail _ (List.Mem.head _))))))))))))))
  have f14 : 0 ≤ (-1) + (1 * τ 133 + ((-1) * τ 19002 + 0)) := hf _ (List.Mem.tail _ (List.Mem.tail _ (List.Mem.tail _ (List.Mem.tail _ (List.Mem.tail _ (List.Mem.tail _ (List.Mem.tail _ (List.Mem.tail _ (List.Mem.tail _ (List.Mem.tail _ (List.Mem.tail _ (List.Mem.tail _ (List.Mem.tail _ (List.Mem.tail _ (List.Mem.head _)))))))))))))))
  have f15 : 0 ≤ (-1) + (1 * τ 133 + ((-1) * τ 19001 + 0)) := hf _ (List.Mem.tail _ (List.Mem.tail _ (List.Mem.tail _ (List.Mem.tail _ (List.Mem.tail _ (List.Mem.tail _ (List.Mem.tail _ (List.Mem.tail _ (List.Mem.tail _ (List.Mem.tail _ (List.Mem.tail _ (List.Mem.tail _ (List.Mem.tail _ (List.Mem.tail _ (List.Mem.tail _ (List.Mem.head _))))))))))))))))
  have mX1 : σ' 18588 = σ 18536 := lw_id (hs 18536 (by decide)) (hm 18588 (by decide))
  have mY1 : σ' 18589 = 16 := (hm 18589 (by decide)).trans rfl
  have mO1 : σ' 18590 = 0 + (1 * τ 1000002 + 0) := hm 18590 (by decide)
  have mA1 : σ' 18536 = 0 + (1 * τ 1000000 + 0) := hm 18536 (by decide)
  unfold sy_or at ho1
  rw [mX1, mY1, show (16 : Int).toNat = 2 ^ 4 from rfl] at ho1
  have mX2 : σ' 18591 = σ 18540 := lw_id (hs 18540 (by decide)) (hm 18591 (by decide))
  have mY2 : σ' 18592 = 1 := (hm 18592 (by decide)).trans rfl
  have mO2 : σ' 18593 = 0 + (1 * τ 1000003 + 0) := hm 18593 (by decide)
  have mA2 : σ' 18540 = 0 + (1 * τ 1000001 + 0) := hm 18540 (by decide)
  unfold sy_or at ho2
  rw [mX2, mY2, show (1 : Int).toNat = 2 ^ 0 from rfl] at ho2
  have ti : lw_ti a1.toNat a2.toNat (fun p => σ (18536 + p)) (fun p => σ' (18536 + p)) := by
    rw [show a1.toNat = 0 by omega, show a2.toNat = 4 by omega]
    intro p hp
    rcases (show p = 0 ∨ p = 1 ∨ p = 2 ∨ p = 3 ∨ p = 4 ∨ p = 5 ∨ p = 6 ∨ p = 7 by omega) with rfl | rfl | rfl | rfl | rfl | rfl | rfl | rfl
    · show σ' 18536 = if (0 : Nat) = 0 then _ else _
      rw [if_pos rfl]
      show σ' 18536 = (((σ 18536).toNat ||| 2 ^ 4 : Nat) : Int)
      omega
    · show σ' 18537 = if (1 : Nat) = 0 then _ else if (1 : Nat) = 4 then _ else _
      rw [if_neg (by decide), if_neg (by decide)]
      exact lw_id (hs _ (by decide)) (hm _ (by decide))
    · show σ' 18538 = if (2 : Nat) = 0 then _ else if (2 : Nat) = 4 then _ else _
      rw [if_neg (by decide), if_neg (by decide)]
      exact lw_id (hs _ (by decide)) (hm _ (by decide))
    · show σ' 18539 = if (3 : Nat) = 0 then _ else if (3 : Nat) = 4 then _ else _
      rw [if_neg (by decide), if_neg (by decide)]
      exact lw_id (hs _ (by decide)) (hm _ (by decide))
    · show σ' 18540 = if (4 : Nat) = 0 then _ else if (4 : Nat) = 4 then _ else _
      rw [if_neg (by decide), if_pos rfl]
      show σ' 18540 = (((σ 18540).toNat ||| 2 ^ 0 : Nat) : Int)
      omega
    · show σ' 18541 = if (5 : Nat) = 0 then _ else if (5 : Nat) = 4 then _ else _
      rw [if_neg (by decide), if_neg (by decide)]
      exact lw_id (hs _ (by decide)) (hm _ (by decide))
    · show σ' 18542 = if (6 : Nat) = 0 then _ else if (6 : Nat) = 4 then _ else _
      rw [if_neg (by decide), if_neg (by decide)]
      exact lw_id (hs _ (by decide)) (hm _ (by decide))
    · show σ' 18543 = if (7 : Nat) = 0 then _ else if (7 : Nat) = 4 then _ else _
      rw [if_neg (by decide), if_neg (by decide)]
      exact lw_id (hs _ (by decide)) (hm _ (by decide))
  exact Or.inl ⟨by omega, by omega, by omega, by omega, by omega, Or.inr ⟨by omega, ti, (fun p hp => (by rcases (show p = 0 ∨ p = 1 ∨ p = 2 ∨ p = 3 ∨ p = 4 ∨ p = 5 ∨ p = 6 ∨ p = 7 by omega) with rfl | rfl | rfl | rfl | rfl | rfl | rfl | rfl <;> exact lw_id (hs _ (by decide)) (hm _ (by decide))))⟩⟩
set_option maxHeartbeats 1000000 in
theorem lw_ux_14 {as : List rv_A} {σ σ' : Nat → Int} {o : rv_O} {x : Int32} {a1 a2 a3 : Int} {τ : Nat → Int} (hx : o.1 = some (.inl x)) (h1 : lw_av as 1 = a1) (h2 : lw_av as 2 = a2) (h3 : lw_av as 3 = a3) (ho1 : sy_or (σ' 18588) (σ' 18589) (σ' 18590)) (ho2 : sy_or (σ' 18591) (σ' 18592) (σ' 18593)) (hW : lw_W ([(18544, 16, 255), (18548, 1, 255), (18590, 16, 255), (18593, 1, 255)], [(0, [(18544, (-1)), (1000000, 1)]), (0, [(18548, (-1)), (1000001, 1)]), ((-1), [(133, 1)]), (11, [(134, (-1))]), (0, [(19001, 1)]), (0, [(19001, (-1))]), ((-4), [(19002, 1)]), (4, [(19002, (-1))]), ((-1), [(19003, 1)]), (0, [(1000000, 1), (1000002, (-1))]), (0, [(1000000, (-1)), (1000002, 1)]), (0, [(1000001, 1), (1000003, (-1))]), (0, [(1000001, (-1)), (1000003, 1)]), ((-1), [(19001, (-1)), (19002, 1)]), ((-1), [(133, 1), (19002, (-1))]), ((-1), [(133, 1), (19001, (-1))])], [(9, (0, [])), (134, (1, [(134, 1)])), (7048, ((-2), [])), (7049, ((-2), [])), (8069, (0, [])), (11396, ((-2), [])), (18544, (0, [(1000000, 1)])), (18548, (0, [(1000001, 1)])), (18588, (0, [(18544, 1)])), (18589, (16, [])), (18590, (0, [(1000002, 1)])), (18591, (0, [(18548, 1)])), (18592, (1, [])), (18593, (0, [(1000003, 1)])), (18594, (2, []))], some (false, (1, []))) as σ σ' τ o) : lw_ux_C a1 a2 a3 x.toInt σ σ' := by
  unfold lw_ux_C
  obtain ⟨hs, ht, hf, hr, hm, hw⟩ := hW
  have e1 : τ 19001 = a1 := by rw [ht 19001 (by decide) (by decide)]; exact h1
  have e2 : τ 19002 = a2 := by rw [ht 19002 (by decide) (by decide)]; exact h2
  have e3 : τ 19003 = a3 := by rw [ht 19003 (by decide) (by decide)]; exact h3
  rw [hx] at hr
  obtain ⟨y, hy, hv⟩ := hr
  cases hy
  replace hv : x.toInt = 1 + 0 := hv
  have f0 : 0 ≤ 0 + ((-1) * τ 18544 + (1 * τ 1000000 + 0)) := hf _ (List.Mem.head _)
  have f1 : 0 ≤ 0 + ((-1) * τ 18548 + (1 * τ 1000001 + 0)) := hf _ (List.Mem.tail _ (List.Mem.head _))
  have f2 : 0 ≤ (-1) + (1 * τ 133 + 0) := hf _ (List.Mem.tail _ (List.Mem.tail _ (List.Mem.head _)))
  have f3 : 0 ≤ 11 + ((-1) * τ 134 + 0) := hf _ (List.Mem.tail _ (List.Mem.tail _ (List.Mem.tail _ (List.Mem.head _))))
  have f4 : 0 ≤ 0 + (1 * τ 19001 + 0) := hf _ (List.Mem.tail _ (List.Mem.tail _ (List.Mem.tail _ (List.Mem.tail _ (List.Mem.head _)))))
  have f5 : 0 ≤ 0 + ((-1) * τ 19001 + 0) := hf _ (List.Mem.tail _ (List.Mem.tail _ (List.Mem.tail _ (List.Mem.tail _ (List.Mem.tail _ (List.Mem.head _))))))
  have f6 : 0 ≤ (-4) + (1 * τ 19002 + 0) := hf _ (List.Mem.tail _ (List.Mem.tail _ (List.Mem.tail _ (List.Mem.tail _ (List.Mem.tail _ (List.Mem.tail _ (List.Mem.head _)))))))
  have f7 : 0 ≤ 4 + ((-1) * τ 19002 + 0) := hf _ (List.Mem.tail _ (List.Mem.tail _ (List.Mem.tail _ (List.Mem.tail _ (List.Mem.tail _ (List.Mem.tail _ (List.Mem.tail _ (List.Mem.head _))))))))
  have f8 : 0 ≤ (-1) + (1 * τ 19003 + 0) := hf _ (List.Mem.tail _ (List.Mem.tail _ (List.Mem.tail _ (List.Mem.tail _ (List.Mem.tail _ (List.Mem.tail _ (List.Mem.tail _ (List.Mem.tail _ (List.Mem.head _)))))))))
  have f9 : 0 ≤ 0 + (1 * τ 1000000 + ((-1) * τ 1000002 + 0)) := hf _ (List.Mem.tail _ (List.Mem.tail _ (List.Mem.tail _ (List.Mem.tail _ (List.Mem.tail _ (List.Mem.tail _ (List.Mem.tail _ (List.Mem.tail _ (List.Mem.tail _ (List.Mem.head _))))))))))
  have f10 : 0 ≤ 0 + ((-1) * τ 1000000 + (1 * τ 1000002 + 0)) := hf _ (List.Mem.tail _ (List.Mem.tail _ (List.Mem.tail _ (List.Mem.tail _ (List.Mem.tail _ (List.Mem.tail _ (List.Mem.tail _ (List.Mem.tail _ (List.Mem.tail _ (List.Mem.tail _ (List.Mem.head _)))))))))))
  have f11 : 0 ≤ 0 + (1 * τ 1000001 + ((-1) * τ 1000003 + 0)) := hf _ (List.Mem.tail _ (List.Mem.tail _ (List.Mem.tail _ (List.Mem.tail _ (List.Mem.tail _ (List.Mem.tail _ (List.Mem.tail _ (List.Mem.tail _ (List.Mem.tail _ (List.Mem.tail _ (List.Mem.tail _ (List.Mem.head _))))))))))))
  have f12 : 0 ≤ 0 + ((-1) * τ 1000001 + (1 * τ 1000003 + 0)) := hf _ (List.Mem.tail _ (List.Mem.tail _ (List.Mem.tail _ (List.Mem.tail _ (List.Mem.tail _ (List.Mem.tail _ (List.Mem.tail _ (List.Mem.tail _ (List.Mem.tail _ (List.Mem.tail _ (List.Mem.tail _ (List.Mem.tail _ (List.Mem.head _)))))))))))))
  have f13 : 0 ≤ (-1) + ((-1) * τ 19001 + (1 * τ 19002 + 0)) := hf _ (List.Mem.tail _ (List.Mem.tail _ (List.Mem.tail _ (List.Mem.tail _ (List.Mem.tail _ (List.Mem.tail _ (List.Mem.tail _ (List.Mem.tail _ (List.Mem.tail _ (List.Mem.tail _ (List.Mem.tail _ (List.Mem.tail _ (List.Mem.tail _ (List.Mem.head _))))))))))))))
  have f14 : 0 ≤ (-1) + (1 * τ 133 + ((-1) * τ 19002 + 0)) := hf _ (List.Mem.tail _ (List.Mem.tail _ (List.Mem.tail _ (List.Mem.tail _ (List.Mem.tail _ (List.Mem.tail _ (List.Mem.tail _ (List.Mem.tail _ (List.Mem.tail _ (List.Mem.tail _ (List.Mem.tail _ (List.Mem.tail _ (List.Mem.tail _ (List.Mem.tail _ (List.Mem.head _)))))))))))))))
  have f15 : 0 ≤ (-1) + (1 * τ 133 + ((-1) * τ 19001 + 0)) := hf _ (List.Mem.tail _ (List.Mem.tail _ (List.Mem.tail _ (List.Mem.tail _ (List.Mem.tail _ (List.Mem.tail _ (List.Mem.tail _ (List.Mem.tail _ (List.Mem.tail _ (List.Mem.tail _ (List.Mem.tail _ (List.Mem.tail _ (List.Mem.tail _ (List.Mem.tail _ (List.Mem.tail _ (List.Mem.head _))))))))))))))))
  have mX1 : σ' 18588 = σ 18544 := lw_id (hs 18544 (by decide)) (hm 18588 (by decide))
  have mY1 : σ' 18589 = 16 := (hm 18589 (by decide)).trans rfl
  have mO1 : σ' 18590 = 0 + (1 * τ 1000002 + 0) := hm 18590 (by decide)
  have mA1 : σ' 18544 = 0 + (1 * τ 1000000 + 0) := hm 18544 (by decide)
  unfold sy_or at ho1
  rw [mX1, mY1, show (16 : Int).toNat = 2 ^ 4 from rfl] at ho1
  have mX2 : σ' 18591 = σ 18548 := lw_id (hs 18548 (by decide)) (hm 18591 (by decide))
  have mY2 : σ' 18592 = 1 := (hm 18592 (by decide)).trans rfl
  have mO2 : σ' 18593 = 0 + (1 * τ 1000003 + 0) := hm 18593 (by decide)
  have mA2 : σ' 18548 = 0 + (1 * τ 1000001 + 0) := hm 18548 (by decide)
  unfold sy_or at ho2
  rw [mX2, mY2, show (1 : Int).toNat = 2 ^ 0 from rfl] at ho2
  have ti : lw_ti a1.toNat a2.toNat (fun p => σ (18544 + p)) (fun p => σ' (18544 + p)) := by
    rw [show a1.toNat = 0 by omega, show a2.toNat = 4 by omega]
    intro p hp
    rcases (show p = 0 ∨ p = 1 ∨ p = 2 ∨ p = 3 ∨ p = 4 ∨ p = 5 ∨ p = 6 ∨ p = 7 by omega) with rfl | rfl | rfl | rfl | rfl | rfl | rfl | rfl
    · show σ' 18544 = if (0 : Nat) = 0 then _ else _
      rw [if_pos rfl]
      show σ' 18544 = (((σ 18544).toNat ||| 2 ^ 4 : Nat) : Int)
      omega
    · show σ' 18545 = if (1 : Nat) = 0 then _ else if (1 : Nat) = 4 then _ else _
      rw [if_neg (by decide), if_neg (by decide)]
      exact lw_id (hs _ (by decide)) (hm _ (by decide))
    · show σ' 18546 = if (2 : Nat) = 0 then _ else if (2 : Nat) = 4 then _ else _
      rw [if_neg (by decide), if_neg (by decide)]
      exact lw_id (hs _ (by decide)) (hm _ (by decide))
    · show σ' 18547 = if (3 : Nat) = 0 then _ else if (3 : Nat) = 4 then _ else _
      rw [if_neg (by decide), if_neg (by decide)]
      exact lw_id (hs _ (by decide)) (hm _ (by decide))
    · show σ' 18548 = if (4 : Nat) = 0 then _ else if (4 : Nat) = 4 then _ else _
      rw [if_neg (by decide), if_pos rfl]
      show σ' 18548 = (((σ 18548).toNat ||| 2 ^ 0 : Nat) : Int)
      omega
    · show σ' 18549 = if (5 : Nat) = 0 then _ else if (5 : Nat) = 4 then _ else _
      rw [if_neg (by decide), if_neg (by decide)]
      exact lw_id (hs _ (by decide)) (hm _ (by decide))
    · show σ' 18550 = if (6 : Nat) = 0 then _ else if (6 : Nat) = 4 then _ else _
      rw [if_neg (by decide), if_neg (by decide)]
      exact lw_id (hs _ (by decide)) (hm _ (by decide))
    · show σ' 18551 = if (7 : Nat) = 0 then _ else if (7 : Nat) = 4 then _ else _
      rw [if_neg (by decide), if_neg (by decide)]
      exact lw_id (hs _ (by decide)) (hm _ (by decide))
  exact Or.inl ⟨by omega, by omega, by omega, by omega, by omega, Or.inl ⟨by omega, ti, (fun p hp => (by rcases (show p = 0 ∨ p = 1 ∨ p = 2 ∨ p = 3 ∨ p = 4 ∨ p = 5 ∨ p = 6 ∨ p = 7 by omega) with rfl | rfl | rfl | rfl | rfl | rfl | rfl | rfl <;> exact lw_id (hs _ (by decide)) (hm _ (by decide))))⟩⟩
set_option maxHeartbeats 1000000 in
theorem lw_ux_15 {as : List rv_A} {σ σ' : Nat → Int} {o : rv_O} {x : Int32} {a1 a2 a3 : Int} {τ : Nat → Int} (hx : o.1 = some (.inl x)) (h1 : lw_av as 1 = a1) (h2 : lw_av as 2 = a2) (h3 : lw_av as 3 = a3) (ho1 : sy_or (σ' 18588) (σ' 18589) (σ' 18590)) (ho2 : sy_or (σ' 18591) (σ' 18592) (σ' 18593)) (hW : lw_W ([(18536, 32, 255), (18541, 1, 255), (18590, 32, 255), (18593, 1, 255)], [(0, [(18536, (-1)), (1000000, 1)]), (0, [(18541, (-1)), (1000001, 1)]), ((-1), [(133, 1)]), (11, [(134, (-1))]), (0, [(19001, 1)]), (0, [(19001, (-1))]), ((-5), [(19002, 1)]), (5, [(19002, (-1))]), (0, [(19003, (-1))]), (0, [(1000000, 1), (1000002, (-1))]), (0, [(1000000, (-1)), (1000002, 1)]), (0, [(1000001, 1), (1000003, (-1))]), (0, [(1000001, (-1)), (1000003, 1)]), ((-1), [(19001, (-1)), (19002, 1)]), ((-1), [(133, 1), (19002, (-1))]), ((-1), [(133, 1), (19001, (-1))])], [(9, (0, [])), (134, (1, [(134, 1)])), (7048, ((-2), [])), (7049, ((-2), [])), (8069, (0, [])), (11396, ((-2), [])), (18536, (0, [(1000000, 1)])), (18541, (0, [(1000001, 1)])), (18588, (0, [(18536, 1)])), (18589, (32, [])), (18590, (0, [(1000002, 1)])), (18591, (0, [(18541, 1)])), (18592, (1, [])), (18593, (0, [(1000003, 1)])), (18594, (2, []))], some (false, (1, []))) as σ σ' τ o) : lw_ux_C a1 a2 a3 x.toInt σ σ' := by
  unfold lw_ux_C
  obtain ⟨hs, ht, hf, hr, hm, hw⟩ := hW
  have e1 : τ 19001 = a1 := by rw [ht 19001 (by decide) (by decide)]; exact h1
  have e2 : τ 19002 = a2 := by rw [ht 19002 (by decide) (by decide)]; exact h2
  have e3 : τ 19003 = a3 := by rw [ht 19003 (by decide) (by decide)]; exact h3
  rw [hx] at hr
  obtain ⟨y, hy, hv⟩ := hr
  cases hy
  replace hv : x.toInt = 1 + 0 := hv
  have f0 : 0 ≤ 0 + ((-1) * τ 18536 + (1 * τ 1000000 + 0)) := hf _ (List.Mem.head _)
  have f1 : 0 ≤ 0 + ((-1) * τ 18541 + (1 * τ 1000001 + 0)) := hf _ (List.Mem.tail _ (List.Mem.head _))
  have f2 : 0 ≤ (-1) + (1 * τ 133 + 0) := hf _ (List.Mem.tail _ (List.Mem.tail _ (List.Mem.head _)))
  have f3 : 0 ≤ 11 + ((-1) * τ 134 + 0) := hf _ (List.Mem.tail _ (List.Mem.tail _ (List.Mem.tail _ (List.Mem.head _))))
  have f4 : 0 ≤ 0 + (1 * τ 19001 + 0) := hf _ (List.Mem.tail _ (List.Mem.tail _ (List.Mem.tail _ (List.Mem.tail _ (List.Mem.head _)))))
  have f5 : 0 ≤ 0 + ((-1) * τ 19001 + 0) := hf _ (List.Mem.tail _ (List.Mem.tail _ (List.Mem.tail _ (List.Mem.tail _ (List.Mem.tail _ (List.Mem.head _))))))
  have f6 : 0 ≤ (-5) + (1 * τ 19002 + 0) := hf _ (List.Mem.tail _ (List.Mem.tail _ (List.Mem.tail _ (List.Mem.tail _ (List.Mem.tail _ (List.Mem.tail _ (List.Mem.head _)))))))
  have f7 : 0 ≤ 5 + ((-1) * τ 19002 + 0) := hf _ (List.Mem.tail _ (List.Mem.tail _ (List.Mem.tail _ (List.Mem.tail _ (List.Mem.tail _ (List.Mem.tail _ (List.Mem.tail _ (List.Mem.head _))))))))
  have f8 : 0 ≤ 0 + ((-1) * τ 19003 + 0) := hf _ (List.Mem.tail _ (List.Mem.tail _ (List.Mem.tail _ (List.Mem.tail _ (List.Mem.tail _ (List.Mem.tail _ (List.Mem.tail _ (List.Mem.tail _ (List.Mem.head _)))))))))
  have f9 : 0 ≤ 0 + (1 * τ 1000000 + ((-1) * τ 1000002 + 0)) := hf _ (List.Mem.tail _ (List.Mem.tail _ (List.Mem.tail _ (List.Mem.tail _ (List.Mem.tail _ (List.Mem.tail _ (List.Mem.tail _ (List.Mem.tail _ (List.Mem.tail _ (List.Mem.head _))))))))))
  have f10 : 0 ≤ 0 + ((-1) * τ 1000000 + (1 * τ 1000002 + 0)) := hf _ (List.Mem.tail _ (List.Mem.tail _ (List.Mem.tail _ (List.Mem.tail _ (List.Mem.tail _ (List.Mem.tail _ (List.Mem.tail _ (List.Mem.tail _ (List.Mem.tail _ (List.Mem.tail _ (List.Mem.head _)))))))))))
  have f11 : 0 ≤ 0 + (1 * τ 1000001 + ((-1) * τ 1000003 + 0)) := hf _ (List.Mem.tail _ (List.Mem.tail _ (List.Mem.tail _ (List.Mem.tail _ (List.Mem.tail _ (List.Mem.tail _ (List.Mem.tail _ (List.Mem.tail _ (List.Mem.tail _ (List.Mem.tail _ (List.Mem.tail _ (List.Mem.head _))))))))))))
  have f12 : 0 ≤ 0 + ((-1) * τ 1000001 + (1 * τ 1000003 + 0)) := hf _ (List.Mem.tail _ (List.Mem.tail _ (List.Mem.tail _ (List.Mem.tail _ (List.Mem.tail _ (List.Mem.tail _ (List.Mem.tail _ (List.Mem.tail _ (List.Mem.tail _ (List.Mem.tail _ (List.Mem.tail _ (List.Mem.tail _ (List.Mem.head _)))))))))))))
  have f13 : 0 ≤ (-1) + ((-1) * τ 19001 + (1 * τ 19002 + 0)) := hf _ (List.Mem.tail _ (List.Mem.tail _ (List.Mem.tail _ (List.Mem.tail _ (List.Mem.tail _ (List.Mem.tail _ (List.Mem.tail _ (List.Mem.tail _ (List.Mem.tail _ (List.Mem.tail _ (List.Mem.tail _ (List.Mem.tail _ (List.Mem.tail _ (List.Mem.head _))))))))))))))
  have f14 : 0 ≤ (-1) + (1 * τ 133 + ((-1) * τ 19002 + 0)) := hf _ (List.Mem.tail _ (List.Mem.tail _ (List.Mem.tail _ (List.Mem.tail _ (List.Mem.tail _ (List.Mem.tail _ (List.Mem.tail _ (List.Mem.tail _ (List.Mem.tail _ (List.Mem.tail _ (List.Mem.tail _ (List.Mem.tail _ (List.Mem.tail _ (List.Mem.tail _ (List.Mem.head _)))))))))))))))
  have f15 : 0 ≤ (-1) + (1 * τ 133 + ((-1) * τ 19001 + 0)) := hf _ (List.Mem.tail _ (List.Mem.tail _ (List.Mem.tail _ (List.Mem.tail _ (List.Mem.tail _ (List.Mem.tail _ (List.Mem.tail _ (List.Mem.tail _ (List.Mem.tail _ (List.Mem.tail _ (List.Mem.tail _ (List.Mem.tail _ (List.Mem.tail _ (List.Mem.tail _ (List.Mem.tail _ (List.Mem.head _))))))))))))))))
  have mX1 : σ' 18588 = σ 18536 := lw_id (hs 18536 (by decide)) (hm 18588 (by decide))
  have mY1 : σ' 18589 = 32 := (hm 18589 (by decide)).trans rfl
  have mO1 : σ' 18590 = 0 + (1 * τ 1000002 + 0) := hm 18590 (by decide)
  have mA1 : σ' 18536 = 0 + (1 * τ 1000000 + 0) := hm 18536 (by decide)
  unfold sy_or at ho1
  rw [mX1, mY1, show (32 : Int).toNat = 2 ^ 5 from rfl] at ho1
  have mX2 : σ' 18591 = σ 18541 := lw_id (hs 18541 (by decide)) (hm 18591 (by decide))
  have mY2 : σ' 18592 = 1 := (hm 18592 (by decide)).trans rfl
  have mO2 : σ' 18593 = 0 + (1 * τ 1000003 + 0) := hm 18593 (by decide)
  have mA2 : σ' 18541 = 0 + (1 * τ 1000001 + 0) := hm 18541 (by decide)
  unfold sy_or at ho2
  rw [mX2, mY2, show (1 : Int).toNat = 2 ^ 0 from rfl] at ho2
  have ti : lw_ti a1.toNat a2.toNat (fun p => σ (18536 + p)) (fun p => σ' (18536 + p)) := by
    rw [show a1.toNat = 0 by omega, show a2.toNat = 5 by omega]
    intro p hp
    rcases (show p = 0 ∨ p = 1 ∨ p = 2 ∨ p = 3 ∨ p = 4 ∨ p = 5 ∨ p = 6 ∨ p = 7 by omega) with rfl | rfl | rfl | rfl | rfl | rfl | rfl | rfl
    · show σ' 18536 = if (0 : Nat) = 0 then _ else _
      rw [if_pos rfl]
      show σ' 18536 = (((σ 18536).toNat ||| 2 ^ 5 : Nat) : Int)
      omega
    · show σ' 18537 = if (1 : Nat) = 0 then _ else if (1 : Nat) = 5 then _ else _
      rw [if_neg (by decide), if_neg (by decide)]
      exact lw_id (hs _ (by decide)) (hm _ (by decide))
    · show σ' 18538 = if (2 : Nat) = 0 then _ else if (2 : Nat) = 5 then _ else _
      rw [if_neg (by decide), if_neg (by decide)]
      exact lw_id (hs _ (by decide)) (hm _ (by decide))
    · show σ' 18539 = if (3 : Nat) = 0 then _ else if (3 : Nat) = 5 then _ else _
      rw [if_neg (by decide), if_neg (by decide)]
      exact lw_id (hs _ (by decide)) (hm _ (by decide))
    · show σ' 18540 = if (4 : Nat) = 0 then _ else if (4 : Nat) = 5 then _ else _
      rw [if_neg (by decide), if_neg (by decide)]
      exact lw_id (hs _ (by decide)) (hm _ (by decide))
    · show σ' 18541 = if (5 : Nat) = 0 then _ else if (5 : Nat) = 5 then _ else _
      rw [if_neg (by decide), if_pos rfl]
      show σ' 18541 = (((σ 18541).toNat ||| 2 ^ 0 : Nat) : Int)
      omega
    · show σ' 18542 = if (6 : Nat) = 0 then _ else if (6 : Nat) = 5 then _ else _
      rw [if_neg (by decide), if_neg (by decide)]
      exact lw_id (hs _ (by decide)) (hm _ (by decide))
    · show σ' 18543 = if (7 : Nat) = 0 then _ else if (7 : Nat) = 5 then _ else _
      rw [if_neg (by decide), if_neg (by decide)]
      exact lw_id (hs _ (by decide)) (hm _ (by decide))
  exact Or.inl ⟨by omega, by omega, by omega, by omega, by omega, Or.inr ⟨by omega, ti, (fun p hp => (by rcases (show p = 0 ∨ p = 1 ∨ p = 2 ∨ p = 3 ∨ p = 4 ∨ p = 5 ∨ p = 6 ∨ p = 7 by omega) with rfl | rfl | rfl | rfl | rfl | rfl | rfl | rfl <;> exact lw_id (hs _ (by decide)) (hm _ (by decide))))⟩⟩
set_option maxHeartbeats 1000000 in
theorem lw_ux_16 {as : List rv_A} {σ σ' : Nat → Int} {o : rv_O} {x : Int32} {a1 a2 a3 : Int} {τ : Nat → Int} (hx : o.1 = some (.inl x)) (h1 : lw_av as 1 = a1) (h2 : lw_av as 2 = a2) (h3 : lw_av as 3 = a3) (ho1 : sy_or (σ' 18588) (σ' 18589) (σ' 18590)) (ho2 : sy_or (σ' 18591) (σ' 18592) (σ' 18593)) (hW : lw_W ([(18544, 32, 255), (18549, 1, 255), (18590, 32, 255), (18593, 1, 255)], [(0, [(18544, (-1)), (1000000, 1)]), (0, [(18549, (-1)), (1000001, 1)]), ((-1), [(133, 1)]), (11, [(134, (-1))]), (0, [(19001, 1)]), (0, [(19001, (-1))]), ((-5), [(19002, 1)]), (5, [(19002, (-1))]), ((-1), [(19003, 1)]), (0, [(1000000, 1), (1000002, (-1))]), (0, [(1000000, (-1)), (1000002, 1)]), (0, [(1000001, 1), (1000003, (-1))]), (0, [(1000001, (-1)), (1000003, 1)]), ((-1), [(19001, (-1)), (19002, 1)]), ((-1), [(133, 1), (19002, (-1))]), ((-1), [(133, 1), (19001, (-1))])], [(9, (0, [])), (134, (1, [(134, 1)])), (7048, ((-2), [])), (7049, ((-2), [])), (8069, (0, [])), (11396, ((-2), [])), (18544, (0, [(1000000, 1)])), (18549, (0, [(1000001, 1)])), (18588, (0, [(18544, 1)])), (18589, (32, [])), (18590, (0, [(1000002, 1)])), (18591, (0, [(18549, 1)])), (18592, (1, [])), (18593, (0, [(1000003, 1)])), (18594, (2, []))], some (false, (1, []))) as σ σ' τ o) : lw_ux_C a1 a2 a3 x.toInt σ σ' := by
  unfold lw_ux_C
  obtain ⟨hs, ht, hf, hr, hm, hw⟩ := hW
  have e1 : τ 19001 = a1 := by rw [ht 19001 (by decide) (by decide)]; exact h1
  have e2 : τ 19002 = a2 := by rw [ht 19002 (by decide) (by decide)]; exact h2
  have e3 : τ 19003 = a3 := by rw [ht 19003 (by decide) (by decide)]; exact h3
  rw [hx] at hr
  obtain ⟨y, hy, hv⟩ := hr
  cases hy
  replace hv : x.toInt = 1 + 0 := hv
  have f0 : 0 ≤ 0 + ((-1) * τ 18544 + (1 * τ 1000000 + 0)) := hf _ (List.Mem.head _)
  have f1 : 0 ≤ 0 + ((-1) * τ 18549 + (1 * τ 1000001 + 0)) := hf _ (List.Mem.tail _ (List.Mem.head _))
  have f2 : 0 ≤ (-1) + (1 * τ 133 + 0) := hf _ (List.Mem.tail _ (List.Mem.tail _ (List.Mem.head _)))
  have f3 : 0 ≤ 11 + ((-1) * τ 134 + 0) := hf _ (List.Mem.tail _ (List.Mem.tail _ (List.Mem.tail _ (List.Mem.head _))))
  have f4 : 0 ≤ 0 + (1 * τ 19001 + 0) := hf _ (List.Mem.tail _ (List.Mem.tail _ (List.Mem.tail _ (List.Mem.tail _ (List.Mem.head _)))))
  have f5 : 0 ≤ 0 + ((-1) * τ 19001 + 0) := hf _ (List.Mem.tail _ (List.Mem.tail _ (List.Mem.tail _ (List.Mem.tail _ (List.Mem.tail _ (List.Mem.head _))))))
  have f6 : 0 ≤ (-5) + (1 * τ 19002 + 0) := hf _ (List.Mem.tail _ (List.Mem.tail _ (List.Mem.tail _ (List.Mem.tail _ (List.Mem.tail _ (List.Mem.tail _ (List.Mem.head _)))))))
  have f7 : 0 ≤ 5 + ((-1) * τ 19002 + 0) := hf _ (List.Mem.tail _ (List.Mem.tail _ (List.Mem.tail _ (List.Mem.tail _ (List.Mem.tail _ (List.Mem.tail _ (List.Mem.tail _ (List.Mem.head _))))))))
  have f8 : 0 ≤ (-1) + (1 * τ 19003 + 0) := hf _ (List.Mem.tail _ (List.Mem.tail _ (List.Mem.tail _ (List.Mem.tail _ (List.Mem.tail _ (List.Mem.tail _ (List.Mem.tail _ (List.Mem.tail _ (List.Mem.head _)))))))))
  have f9 : 0 ≤ 0 + (1 * τ 1000000 + ((-1) * τ 1000002 + 0)) := hf _ (List.Mem.tail _ (List.Mem.tail _ (List.Mem.tail _ (List.Mem.tail _ (List.Mem.tail _ (List.Mem.tail _ (List.Mem.tail _ (List.Mem.tail _ (List.Mem.tail _ (List.Mem.head _))))))))))
  have f10 : 0 ≤ 0 + ((-1) * τ 1000000 + (1 * τ 1000002 + 0)) := hf _ (List.Mem.tail _ (List.Mem.tail _ (List.Mem.tail _ (List.Mem.tail _ (List.Mem.tail _ (List.Mem.tail _ (List.Mem.tail _ (List.Mem.tail _ (List.Mem.tail _ (List.Mem.tail _ (List.Mem.head _)))))))))))
  have f11 : 0 ≤ 0 + (1 * τ 1000001 + ((-1) * τ 1000003 + 0)) := hf _ (List.Mem.tail _ (List.Mem.tail _ (List.Mem.tail _ (List.Mem.tail _ (List.Mem.tail _ (List.Mem.tail _ (List.Mem.tail _ (List.Mem.tail _ (List.Mem.tail _ (List.Mem.tail _ (List.Mem.tail _ (List.Mem.head _))))))))))))
  have f12 : 0 ≤ 0 + ((-1) * τ 1000001 + (1 * τ 1000003 + 0)) := hf _ (List.Mem.tail _ (List.Mem.tail _ (List.Mem.tail _ (List.Mem.tail _ (List.Mem.tail _ (List.Mem.tail _ (List.Mem.tail _ (List.Mem.tail _ (List.Mem.tail _ (List.Mem.tail _ (List.Mem.tail _ (List.Mem.tail _ (List.Mem.head _)))))))))))))
  have f13 : 0 ≤ (-1) + ((-1) * τ 19001 + (1 * τ 19002 + 0)) := hf _ (List.Mem.tail _ (List.Mem.tail _ (List.Mem.tail _ (List.Mem.tail _ (List.Mem.tail _ (List.Mem.tail _ (List.Mem.tail _ (List.Mem.tail _ (List.Mem.tail _ (List.Mem.tail _ (List.Mem.tail _ (List.Mem.tail _ (List.Mem.tail _ (List.Mem.head _))))))))))))))
  have f14 : 0 ≤ (-1) + (1 * τ 133 + ((-1) * τ 19002 + 0)) := hf _ (List.Mem.tail _ (List.Mem.tail _ (List.Mem.tail _ (List.Mem.tail _ (List.Mem.tail _ (List.Mem.tail _ (List.Mem.tail _ (List.Mem.tail _ (List.Mem.tail _ (List.Mem.tail _ (List.Mem.tail _ (List.Mem.tail _ (List.Mem.tail _ (List.Mem.tail _ (List.Mem.head _)))))))))))))))
  have f15 : 0 ≤ (-1) + (1 * τ 133 + ((-1) * τ 19001 + 0)) := hf _ (List.Mem.tail _ (List.Mem.tail _ (List.Mem.tail _ (List.Mem.tail _ (List.Mem.tail _ (List.Mem.tail _ (List.Mem.tail _ (List.Mem.tail _ (List.Mem.tail _ (List.Mem.tail _ (List.Mem.tail _ (List.Mem.tail _ (List.Mem.tail _ (List.Mem.tail _ (List.Mem.tail _ (List.Mem.head _))))))))))))))))
  have mX1 : σ' 18588 = σ 18544 := lw_id (hs 18544 (by decide)) (hm 18588 (by decide))
  have mY1 : σ' 18589 = 32 := (hm 18589 (by decide)).trans rfl
  have mO1 : σ' 18590 = 0 + (1 * τ 1000002 + 0) := hm 18590 (by decide)
  have mA1 : σ' 18544 = 0 + (1 * τ 1000000 + 0) := hm 18544 (by decide)
  unfold sy_or at ho1
  rw [mX1, mY1, show (32 : Int).toNat = 2 ^ 5 from rfl] at ho1
  have mX2 : σ' 18591 = σ 18549 := lw_id (hs 18549 (by decide)) (hm 18591 (by decide))
  have mY2 : σ' 18592 = 1 := (hm 18592 (by decide)).trans rfl
  have mO2 : σ' 18593 = 0 + (1 * τ 1000003 + 0) := hm 18593 (by decide)
  have mA2 : σ' 18549 = 0 + (1 * τ 1000001 + 0) := hm 18549 (by decide)
  unfold sy_or at ho2
  rw [mX2, mY2, show (1 : Int).toNat = 2 ^ 0 from rfl] at ho2
  have ti : lw_ti a1.toNat a2.toNat (fun p => σ (18544 + p)) (fun p => σ' (18544 + p)) := by
    rw [show a1.toNat = 0 by omega, show a2.toNat = 5 by omega]
    intro p hp
    rcases (show p = 0 ∨ p = 1 ∨ p = 2 ∨ p = 3 ∨ p = 4 ∨ p = 5 ∨ p = 6 ∨ p = 7 by omega) with rfl | rfl | rfl | rfl | rfl | rfl | rfl | rfl
    · show σ' 18544 = if (0 : Nat) = 0 then _ else _
      rw [if_pos rfl]
      show σ' 18544 = (((σ 18544).toNat ||| 2 ^ 5 : Nat) : Int)
      omega
    · show σ' 18545 = if (1 : Nat) = 0 then _ else if (1 : Nat) = 5 then _ else _
      rw [if_neg (by decide), if_neg (by decide)]
      exact lw_id (hs _ (by decide)) (hm _ (by decide))
    · show σ' 18546 = if (2 : Nat) = 0 then _ else if (2 : Nat) = 5 then _ else _
      rw [if_neg (by decide), if_neg (by decide)]
      exact lw_id (hs _ (by decide)) (hm _ (by decide))
    · show σ' 18547 = if (3 : Nat) = 0 then _ else if (3 : Nat) = 5 then _ else _
      rw [if_neg (by decide), if_neg (by decide)]
      exact lw_id (hs _ (by decide)) (hm _ (by decide))
    · show σ' 18548 = if (4 : Nat) = 0 then _ else if (4 : Nat) = 5 then _ else _
      rw [if_neg (by decide), if_neg (by decide)]
      exact lw_id (hs _ (by decide)) (hm _ (by decide))
    · show σ' 18549 = if (5 : Nat) = 0 then _ else if (5 : Nat) = 5 then _ else _
      rw [if_neg (by decide), if_pos rfl]
      show σ' 18549 = (((σ 18549).toNat ||| 2 ^ 0 : Nat) : Int)
      omega
    · show σ' 18550 = if (6 : Nat) = 0 then _ else if (6 : Nat) = 5 then _ else _
      rw [if_neg (by decide), if_neg (by decide)]
      exact lw_id (hs _ (by decide)) (hm _ (by decide))
    · show σ' 18551 = if (7 : Nat) = 0 then _ else if (7 : Nat) = 5 then _ else _
      rw [if_neg (by decide), if_neg (by decide)]
      exact lw_id (hs _ (by decide)) (hm _ (by decide))
  exact Or.inl ⟨by omega, by omega, by omega, by omega, by omega, Or.inl ⟨by omega, ti, (fun p hp => (by rcases (show p = 0 ∨ p = 1 ∨ p = 2 ∨ p = 3 ∨ p = 4 ∨ p = 5 ∨ p = 6 ∨ p = 7 by omega) with rfl | rfl | rfl | rfl | rfl | rfl | rfl | rfl <;> exact lw_id (hs _ (by decide)) (hm _ (by decide))))⟩⟩
set_option maxHeartbeats 1000000 in
theorem lw_ux_17 {as : List rv_A} {σ σ' : Nat → Int} {o : rv_O} {x : Int32} {a1 a2 a3 : Int} {τ : Nat → Int} (hx : o.1 = some (.inl x)) (h1 : lw_av as 1 = a1) (h2 : lw_av as 2 = a2) (h3 : lw_av as 3 = a3) (ho1 : sy_or (σ' 18588) (σ' 18589) (σ' 18590)) (ho2 : sy_or (σ' 18591) (σ' 18592) (σ' 18593)) (hW : lw_W ([(18536, 64, 255), (18542, 1, 255), (18590, 64, 255), (18593, 1, 255)], [(0, [(18536, (-1)), (1000000, 1)]), (0, [(18542, (-1)), (1000001, 1)]), ((-1), [(133, 1)]), (11, [(134, (-1))]), (0, [(19001, 1)]), (0, [(19001, (-1))]), ((-6), [(19002, 1)]), (6, [(19002, (-1))]), (0, [(19003, (-1))]), (0, [(1000000, 1), (1000002, (-1))]), (0, [(1000000, (-1)), (1000002, 1)]), (0, [(1000001, 1), (1000003, (-1))]), (0, [(1000001, (-1)), (1000003, 1)]), ((-1), [(19001, (-1)), (19002, 1)]), ((-1), [(133, 1), (19002, (-1))]), ((-1), [(133, 1), (19001, (-1))])], [(9, (0, [])), (134, (1, [(134, 1)])), (7048, ((-2), [])), (7049, ((-2), [])), (8069, (0, [])), (11396, ((-2), [])), (18536, (0, [(1000000, 1)])), (18542, (0, [(1000001, 1)])), (18588, (0, [(18536, 1)])), (18589, (64, [])), (18590, (0, [(1000002, 1)])), (18591, (0, [(18542, 1)])), (18592, (1, [])), (18593, (0, [(1000003, 1)])), (18594, (2, []))], some (false, (1, []))) as σ σ' τ o) : lw_ux_C a1 a2 a3 x.toInt σ σ' := by
  unfold lw_ux_C
  obtain ⟨hs, ht, hf, hr, hm, hw⟩ := hW
  have e1 : τ 19001 = a1 := by rw [ht 19001 (by decide) (by decide)]; exact h1
  have e2 : τ 19002 = a2 := by rw [ht 19002 (by decide) (by decide)]; exact h2
  have e3 : τ 19003 = a3 := by rw [ht 19003 (by decide) (by decide)]; exact h3
  rw [hx] at hr
  obtain ⟨y, hy, hv⟩ := hr
  cases hy
  replace hv : x.toInt = 1 + 0 := hv
  have f0 : 0 ≤ 0 + ((-1) * τ 18536 + (1 * τ 1000000 + 0)) := hf _ (List.Mem.head _)
  have f1 : 0 ≤ 0 + ((-1) * τ 18542 + (1 * τ 1000001 + 0)) := hf _ (List.Mem.tail _ (List.Mem.head _))
  have f2 : 0 ≤ (-1) + (1 * τ 133 + 0) := hf _ (List.Mem.tail _ (List.Mem.tail _ (List.Mem.head _)))
  have f3 : 0 ≤ 11 + ((-1) * τ 134 + 0) := hf _ (List.Mem.tail _ (List.Mem.tail _ (List.Mem.tail _ (List.Mem.head _))))
  have f4 : 0 ≤ 0 + (1 * τ 19001 + 0) := hf _ (List.Mem.tail _ (List.Mem.tail _ (List.Mem.tail _ (List.Mem.tail _ (List.Mem.head _)))))
  have f5 : 0 ≤ 0 + ((-1) * τ 19001 + 0) := hf _ (List.Mem.tail _ (List.Mem.tail _ (List.Mem.tail _ (List.Mem.tail _ (List.Mem.tail _ (List.Mem.head _))))))
  have f6 : 0 ≤ (-6) + (1 * τ 19002 + 0) := hf _ (List.Mem.tail _ (List.Mem.tail _ (List.Mem.tail _ (List.Mem.tail _ (List.Mem.tail _ (List.Mem.tail _ (List.Mem.head _)))))))
  have f7 : 0 ≤ 6 + ((-1) * τ 19002 + 0) := hf _ (List.Mem.tail _ (List.Mem.tail _ (List.Mem.tail _ (List.Mem.tail _ (List.Mem.tail _ (List.Mem.tail _ (List.Mem.tail _ (List.Mem.head _))))))))
  have f8 : 0 ≤ 0 + ((-1) * τ 19003 + 0) := hf _ (List.Mem.tail _ (List.Mem.tail _ (List.Mem.tail _ (List.Mem.tail _ (List.Mem.tail _ (List.Mem.tail _ (List.Mem.tail _ (List.Mem.tail _ (List.Mem.head _)))))))))
  have f9 : 0 ≤ 0 + (1 * τ 1000000 + ((-1) * τ 1000002 + 0)) := hf _ (List.Mem.tail _ (List.Mem.tail _ (List.Mem.tail _ (List.Mem.tail _ (List.Mem.tail _ (List.Mem.tail _ (List.Mem.tail _ (List.Mem.tail _ (List.Mem.tail _ (List.Mem.head _))))))))))
  have f10 : 0 ≤ 0 + ((-1) * τ 1000000 + (1 * τ 1000002 + 0)) := hf _ (List.Mem.tail _ (List.Mem.tail _ (List.Mem.tail _ (List.Mem.tail _ (List.Mem.tail _ (List.Mem.tail _ (List.Mem.tail _ (List.Mem.tail _ (List.Mem.tail _ (List.Mem.tail _ (List.Mem.head _)))))))))))
  have f11 : 0 ≤ 0 + (1 * τ 1000001 + ((-1) * τ 1000003 + 0)) := hf _ (List.Mem.tail _ (List.Mem.tail _ (List.Mem.tail _ (List.Mem.tail _ (List.Mem.tail _ (List.Mem.tail _ (List.Mem.tail _ (List.Mem.tail _ (List.Mem.tail _ (List.Mem.tail _ (List.Mem.tail _ (List.Mem.head _))))))))))))
  have f12 : 0 ≤ 0 + ((-1) * τ 1000001 + (1 * τ 1000003 + 0)) := hf _ (List.Mem.tail _ (List.Mem.tail _ (List.Mem.tail _ (List.Mem.tail _ (List.Mem.tail _ (List.Mem.tail _ (List.Mem.tail _ (List.Mem.tail _ (List.Mem.tail _ (List.Mem.tail _ (List.Mem.tail _ (List.Mem.tail _ (List.Mem.head _)))))))))))))
  have f13 : 0 ≤ (-1) + ((-1) * τ 19001 + (1 * τ 19002 + 0)) := hf _ (List.Mem.tail _ (List.Mem.tail _ (List.Mem.tail _ (List.Mem.tail _ (List.Mem.tail _ (List.Mem.tail _ (List.Mem.tail _ (List.Mem.tail _ (List.Mem.tail _ (List.Mem.tail _ (List.Mem.tail _ (List.Mem.tail _ (List.Mem.tail _ (List.Mem.head _))))))))))))))
  have f14 : 0 ≤ (-1) + (1 * τ 133 + ((-1) * τ 19002 + 0)) := hf _ (List.Mem.tail _ (List.Mem.tail _ (List.Mem.tail _ (List.Mem.tail _ (List.Mem.tail _ (List.Mem.tail _ (List.Mem.tail _ (List.Mem.tail _ (List.Mem.tail _ (List.Mem.tail _ (List.Mem.tail _ (List.Mem.tail _ (List.Mem.tail _ (List.Mem.tail _ (List.Mem.head _)))))))))))))))
  have f15 : 0 ≤ (-1) + (1 * τ 133 + ((-1) * τ 19001 + 0)) := hf _ (List.Mem.tail _ (List.Mem.tail _ (List.Mem.tail _ (List.Mem.tail _ (List.Mem.tail _ (List.Mem.tail _ (List.Mem.tail _ (List.Mem.tail _ (List.Mem.tail _ (List.Mem.tail _ (List.Mem.tail _ (List.Mem.tail _ (List.Mem.tail _ (List.Mem.tail _ (List.Mem.tail _ (List.Mem.head _))))))))))))))))
  have mX1 : σ' 18588 = σ 18536 := lw_id (hs 18536 (by decide)) (hm 18588 (by decide))
  have mY1 : σ' 18589 = 64 := (hm 18589 (by decide)).trans rfl
  have mO1 : σ' 18590 = 0 + (1 * τ 1000002 + 0) := hm 18590 (by decide)
  have mA1 : σ' 18536 = 0 + (1 * τ 1000000 + 0) := hm 18536 (by decide)
  unfold sy_or at ho1
  rw [mX1, mY1, show (64 : Int).toNat = 2 ^ 6 from rfl] at ho1
  have mX2 : σ' 18591 = σ 18542 := lw_id (hs 18542 (by decide)) (hm 18591 (by decide))
  have mY2 : σ' 18592 = 1 := (hm 18592 (by decide)).trans rfl
  have mO2 : σ' 18593 = 0 + (1 * τ 1000003 + 0) := hm 18593 (by decide)
  have mA2 : σ' 18542 = 0 + (1 * τ 1000001 + 0) := hm 18542 (by decide)
  unfold sy_or at ho2
  rw [mX2, mY2, show (1 : Int).toNat = 2 ^ 0 from rfl] at ho2
  have ti : lw_ti a1.toNat a2.toNat (fun p => σ (18536 + p)) (fun p => σ' (18536 + p)) := by
    rw [show a1.toNat = 0 by omega, show a2.toNat = 6 by omega]
    intro p hp
    rcases (show p = 0 ∨ p = 1 ∨ p = 2 ∨ p = 3 ∨ p = 4 ∨ p = 5 ∨ p = 6 ∨ p = 7 by omega) with rfl | rfl | rfl | rfl | rfl | rfl | rfl | rfl
    · show σ' 18536 = if (0 : Nat) = 0 then _ else _
      rw [if_pos rfl]
      show σ' 18536 = (((σ 18536).toNat ||| 2 ^ 6 : Nat) : Int)
      omega
    · show σ' 18537 = if (1 : Nat) = 0 then _ else if (1 : Nat) = 6 then _ else _
      rw [if_neg (by decide), if_neg (by decide)]
      exact lw_id (hs _ (by decide)) (hm _ (by decide))
    · show σ' 18538 = if (2 : Nat) = 0 then _ else if (2 : Nat) = 6 then _ else _
      rw [if_neg (by decide), if_neg (by decide)]
      exact lw_id (hs _ (by decide)) (hm _ (by decide))
    · show σ' 18539 = if (3 : Nat) = 0 then _ else if (3 : Nat) = 6 then _ else _
      rw [if_neg (by decide), if_neg (by decide)]
      exact lw_id (hs _ (by decide)) (hm _ (by decide))
    · show σ' 18540 = if (4 : Nat) = 0 then _ else if (4 : Nat) = 6 then _ else _
      rw [if_neg (by decide), if_neg (by decide)]
      exact lw_id (hs _ (by decide)) (hm _ (by decide))
    · show σ' 18541 = if (5 : Nat) = 0 then _ else if (5 : Nat) = 6 then _ else _
      rw [if_neg (by decide), if_neg (by decide)]
      exact lw_id (hs _ (by decide)) (hm _ (by decide))
    · show σ' 18542 = if (6 : Nat) = 0 then _ else if (6 : Nat) = 6 then _ else _
      rw [if_neg (by decide), if_pos rfl]
      show σ' 18542 = (((σ 18542).toNat ||| 2 ^ 0 : Nat) : Int)
      omega
    · show σ' 18543 = if (7 : Nat) = 0 then _ else if (7 : Nat) = 6 then _ else _
      rw [if_neg (by decide), if_neg (by decide)]
      exact lw_id (hs _ (by decide)) (hm _ (by decide))
  exact Or.inl ⟨by omega, by omega, by omega, by omega, by omega, Or.inr ⟨by omega, ti, (fun p hp => (by rcases (show p = 0 ∨ p = 1 ∨ p = 2 ∨ p = 3 ∨ p = 4 ∨ p = 5 ∨ p = 6 ∨ p = 7 by omega) with rfl | rfl | rfl | rfl | rfl | rfl | rfl | rfl <;> exact lw_id (hs _ (by decide)) (hm _ (by decide))))⟩⟩
set_option maxHeartbeats 1000000 in
theorem lw_ux_18 {as : List rv_A} {σ σ' : Nat → Int} {o : rv_O} {x : Int32} {a1 a2 a3 : Int} {τ : Nat → Int} (hx : o.1 = some (.inl x)) (h1 : lw_av as 1 = a1) (h2 : lw_av as 2 = a2) (h3 : lw_av as 3 = a3) (ho1 : sy_or (σ' 18588) (σ' 18589) (σ' 18590)) (ho2 : sy_or (σ' 18591) (σ' 18592) (σ' 18593)) (hW : lw_W ([(18544, 64, 255), (18550, 1, 255), (18590, 64, 255), (18593, 1, 255)], [(0, [(18544, (-1)), (1000000, 1)]), (0, [(18550, (-1)), (1000001, 1)]), ((-1), [(133, 1)]), (11, [(134, (-1))]), (0, [(19001, 1)]), (0, [(19001, (-1))]), ((-6), [(19002, 1)]), (6, [(19002, (-1))]), ((-1), [(19003, 1)]), (0, [(1000000, 1), (1000002, (-1))]), (0, [(1000000, (-1)), (1000002, 1)]), (0, [(1000001, 1), (1000003, (-1))]), (0, [(1000001, (-1)), (1000003, 1)]), ((-1), [(19001, (-1)), (19002, 1)]), ((-1), [(133, 1), (19002, (-1))]), ((-1), [(133, 1), (19001, (-1))])], [(9, (0, [])), (134, (1, [(134, 1)])), (7048, ((-2), [])), (7049, ((-2), [])), (8069, (0, [])), (11396, ((-2), [])), (18544, (0, [(1000000, 1)])), (18550, (0, [(1000001, 1)])), (18588, (0, [(18544, 1)])), (18589, (64, [])), (18590, (0, [(1000002, 1)])), (18591, (0, [(18550, 1)])), (18592, (1, [])), (18593, (0, [(1000003, 1)])), (18594, (2, []))], some (false, (1, []))) as σ σ' τ o) : lw_ux_C a1 a2 a3 x.toInt σ σ' := by
  unfold lw_ux_C
  obtain ⟨hs, ht, hf, hr, hm, hw⟩ := hW
  have e1 : τ 19001 = a1 := by rw [ht 19001 (by decide) (by decide)]; exact h1
  have e2 : τ 19002 = a2 := by rw [ht 19002 (by decide) (by decide)]; exact h2
  have e3 : τ 19003 = a3 := by rw [ht 19003 (by decide) (by decide)]; exact h3
  rw [hx] at hr
  obtain ⟨y, hy, hv⟩ := hr
  cases hy
  replace hv : x.toInt = 1 + 0 := hv
  have f0 : 0 ≤ 0 + ((-1) * τ 18544 + (1 * τ 1000000 + 0)) := hf _ (List.Mem.head _)
  have f1 : 0 ≤ 0 + ((-1) * τ 18550 + (1 * τ 1000001 + 0)) := hf _ (List.Mem.tail _ (List.Mem.head _))
  have f2 : 0 ≤ (-1) + (1 * τ 133 + 0) := hf _ (List.Mem.tail _ (List.Mem.tail _ (List.Mem.head _)))
  have f3 : 0 ≤ 11 + ((-1) * τ 134 + 0) := hf _ (List.Mem.tail _ (List.Mem.tail _ (List.Mem.tail _ (List.Mem.head _))))
  have f4 : 0 ≤ 0 + (1 * τ 19001 + 0) := hf _ (List.Mem.tail _ (List.Mem.tail _ (List.Mem.tail _ (List.Mem.tail _ (List.Mem.head _)))))
  have f5 : 0 ≤ 0 + ((-1) * τ 19001 + 0) := hf _ (List.Mem.tail _ (List.Mem.tail _ (List.Mem.tail _ (List.Mem.tail _ (List.Mem.tail _ (List.Mem.head _))))))
  have f6 : 0 ≤ (-6) + (1 * τ 19002 + 0) := hf _ (List.Mem.tail _ (List.Mem.tail _ (List.Mem.tail _ (List.Mem.tail _ (List.Mem.tail _ (List.Mem.tail _ (List.Mem.head _)))))))
  have f7 : 0 ≤ 6 + ((-1) * τ 19002 + 0) := hf _ (List.Mem.tail _ (List.Mem.tail _ (List.Mem.tail _ (List.Mem.tail _ (List.Mem.tail _ (List.Mem.tail _ (List.Mem.tail _ (List.Mem.head _))))))))
  have f8 : 0 ≤ (-1) + (1 * τ 19003 + 0) := hf _ (List.Mem.tail _ (List.Mem.tail _ (List.Mem.tail _ (List.Mem.tail _ (List.Mem.tail _ (List.Mem.tail _ (List.Mem.tail _ (List.Mem.tail _ (List.Mem.head _)))))))))
  have f9 : 0 ≤ 0 + (1 * τ 1000000 + ((-1) * τ 1000002 + 0)) := hf _ (List.Mem.tail _ (List.Mem.tail _ (List.Mem.tail _ (List.Mem.tail _ (List.Mem.tail _ (List.Mem.tail _ (List.Mem.tail _ (List.Mem.tail _ (List.Mem.tail _ (List.Mem.head _))))))))))
  have f10 : 0 ≤ 0 + ((-1) * τ 1000000 + (1 * τ 1000002 + 0)) := hf _ (List.Mem.tail _ (List.Mem.tail _ (List.Mem.tail _ (List.Mem.tail _ (List.Mem.tail _ (List.Mem.tail _ (List.Mem.tail _ (List.Mem.tail _ (List.Mem.tail _ (List.Mem.tail _ (List.Mem.head _)))))))))))
  have f11 : 0 ≤ 0 + (1 * τ 1000001 + ((-1) * τ 1000003 + 0)) := hf _ (List.Mem.tail _ (List.Mem.tail _ (List.Mem.tail _ (List.Mem.tail _ (List.Mem.tail _ (List.Mem.tail _ (List.Mem.tail _ (List.Mem.tail _ (List.Mem.tail _ (List.Mem.tail _ (List.Mem.tail _ (List.Mem.head _))))))))))))
  have f12 : 0 ≤ 0 + ((-1) * τ 1000001 + (1 * τ 1000003 + 0)) := hf _ (List.Mem.tail _ (List.Mem.tail _ (List.Mem.tail _ (List.Mem.tail _ (List.Mem.tail _ (List.Mem.tail _ (List.Mem.tail _ (List.Mem.tail _ (List.Mem.tail _ (List.Mem.tail _ (List.Mem.tail _ (List.Mem.tail _ (List.Mem.head _)))))))))))))
  have f13 : 0 ≤ (-1) + ((-1) * τ 19001 + (1 * τ 19002 + 0)) := hf _ (List.Mem.tail _ (List.Mem.tail _ (List.Mem.tail _ (List.Mem.tail _ (List.Mem.tail _ (List.Mem.tail _ (List.Mem.tail _ (List.Mem.tail _ (List.Mem.tail _ (List.Mem.tail _ (List.Mem.tail _ (List.Mem.tail _ (List.Mem.tail _ (List.Mem.head _))))))))))))))
  have f14 : 0 ≤ (-1) + (1 * τ 133 + ((-1) * τ 19002 + 0)) := hf _ (List.Mem.tail _ (List.Mem.tail _ (List.Mem.tail _ (List.Mem.tail _ (List.Mem.tail _ (List.Mem.tail _ (List.Mem.tail _ (List.Mem.tail _ (List.Mem.tail _ (List.Mem.tail _ (List.Mem.tail _ (List.Mem.tail _ (List.Mem.tail _ (List.Mem.tail _ (List.Mem.head _)))))))))))))))
  have f15 : 0 ≤ (-1) + (1 * τ 133 + ((-1) * τ 19001 + 0)) := hf _ (List.Mem.tail _ (List.Mem.tail _ (List.Mem.tail _ (List.Mem.tail _ (List.Mem.tail _ (List.Mem.tail _ (List.Mem.tail _ (List.Mem.tail _ (List.Mem.tail _ (List.Mem.tail _ (List.Mem.tail _ (List.Mem.tail _ (List.Mem.tail _ (List.Mem.tail _ (List.Mem.tail _ (List.Mem.head _))))))))))))))))
  have mX1 : σ' 18588 = σ 18544 := lw_id (hs 18544 (by decide)) (hm 18588 (by decide))
  have mY1 : σ' 18589 = 64 := (hm 18589 (by decide)).trans rfl
  have mO1 : σ' 18590 = 0 + (1 * τ 1000002 + 0) := hm 18590 (by decide)
  have mA1 : σ' 18544 = 0 + (1 * τ 1000000 + 0) := hm 18544 (by decide)
  unfold sy_or at ho1
  rw [mX1, mY1, show (64 : Int).toNat = 2 ^ 6 from rfl] at ho1
  have mX2 : σ' 18591 = σ 18550 := lw_id (hs 18550 (by decide)) (hm 18591 (by decide))
  have mY2 : σ' 18592 = 1 := (hm 18592 (by decide)).trans rfl
  have mO2 : σ' 18593 = 0 + (1 * τ 1000003 + 0) := hm 18593 (by decide)
  have mA2 : σ' 18550 = 0 + (1 * τ 1000001 + 0) := hm 18550 (by decide)
  unfold sy_or at ho2
  rw [mX2, mY2, show (1 : Int).toNat = 2 ^ 0 from rfl] at ho2
  have ti : lw_ti a1.toNat a2.toNat (fun p => σ (18544 + p)) (fun p => σ' (18544 + p)) := by
    rw [show a1.toNat = 0 by omega, show a2.toNat = 6 by omega]
    intro p hp
    rcases (show p = 0 ∨ p = 1 ∨ p = 2 ∨ p = 3 ∨ p = 4 ∨ p = 5 ∨ p = 6 ∨ p = 7 by omega) with rfl | rfl | rfl | rfl | rfl | rfl | rfl | rfl
    · show σ' 18544 = if (0 : Nat) = 0 then _ else _
      rw [if_pos rfl]
      show σ' 18544 = (((σ 18544).toNat ||| 2 ^ 6 : Nat) : Int)
      omega
    · show σ' 18545 = if (1 : Nat) = 0 then _ else if (1 : Nat) = 6 then _ else _
      rw [if_neg (by decide), if_neg (by decide)]
      exact lw_id (hs _ (by decide)) (hm _ (by decide))
    · show σ' 18546 = if (2 : Nat) = 0 then _ else if (2 : Nat) = 6 then _ else _
      rw [if_neg (by decide), if_neg (by decide)]
      exact lw_id (hs _ (by decide)) (hm _ (by decide))
    · show σ' 18547 = if (3 : Nat) = 0 then _ else if (3 : Nat) = 6 then _ else _
      rw [if_neg (by decide), if_neg (by decide)]
      exact lw_id (hs _ (by decide)) (hm _ (by decide))
    · show σ' 18548 = if (4 : Nat) = 0 then _ else if (4 : Nat) = 6 then _ else _
      rw [if_neg (by decide), if_neg (by decide)]
      exact lw_id (hs _ (by decide)) (hm _ (by decide))
    · show σ' 18549 = if (5 : Nat) = 0 then _ else if (5 : Nat) = 6 then _ else _
      rw [if_neg (by decide), if_neg (by decide)]
      exact lw_id (hs _ (by decide)) (hm _ (by decide))
    · show σ' 18550 = if (6 : Nat) = 0 then _ else if (6 : Nat) = 6 then _ else _
      rw [if_neg (by decide), if_pos rfl]
      show σ' 18550 = (((σ 18550).toNat ||| 2 ^ 0 : Nat) : Int)
      omega
    · show σ' 18551 = if (7 : Nat) = 0 then _ else if (7 : Nat) = 6 then _ else _
      rw [if_neg (by decide), if_neg (by decide)]
      exact lw_id (hs _ (by decide)) (hm _ (by decide))
  exact Or.inl ⟨by omega, by omega, by omega, by omega, by omega, Or.inl ⟨by omega, ti, (fun p hp => (by rcases (show p = 0 ∨ p = 1 ∨ p = 2 ∨ p = 3 ∨ p = 4 ∨ p = 5 ∨ p = 6 ∨ p = 7 by omega) with rfl | rfl | rfl | rfl | rfl | rfl | rfl | rfl <;> exact lw_id (hs _ (by decide)) (hm _ (by decide))))⟩⟩
set_option maxHeartbeats 1000000 in
theorem lw_ux_19 {as : List rv_A} {σ σ' : Nat → Int} {o : rv_O} {x : Int32} {a1 a2 a3 : Int} {τ : Nat → Int} (hx : o.1 = some (.inl x)) (h1 : lw_av as 1 = a1) (h2 : lw_av as 2 = a2) (h3 : lw_av as 3 = a3) (ho1 : sy_or (σ' 18588) (σ' 18589) (σ' 18590)) (ho2 : sy_or (σ' 18591) (σ' 18592) (σ' 18593)) (hW : lw_W ([(18536, 128, 255), (18543, 1, 255), (18590, 128, 255), (18593, 1, 255)], [(0, [(18536, (-1)), (1000000, 1)]), (0, [(18543, (-1)), (1000001, 1)]), ((-1), [(133, 1)]), (11, [(134, (-1))]), (0, [(19001, 1)]), (0, [(19001, (-1))]), ((-7), [(19002, 1)]), (7, [(19002, (-1))]), (0, [(19003, (-1))]), (0, [(1000000, 1), (1000002, (-1))]), (0, [(1000000, (-1)), (1000002, 1)]), (0, [(1000001, 1), (1000003, (-1))]), (0, [(1000001, (-1)), (1000003, 1)]), ((-1), [(19001, (-1)), (19002, 1)]), ((-1), [(133, 1), (19002, (-1))]), ((-1), [(133, 1), (19001, (-1))])], [(9, (0, [])), (134, (1, [(134, 1)])), (7048, ((-2), [])), (7049, ((-2), [])), (8069, (0, [])), (11396, ((-2), [])), (18536, (0, [(1000000, 1)])), (18543, (0, [(1000001, 1)])), (18588, (0, [(18536, 1)])), (18589, (128, [])), (18590, (0, [(1000002, 1)])), (18591, (0, [(18543, 1)])), (18592, (1, [])), (18593, (0, [(1000003, 1)])), (18594, (2, []))], some (false, (1, []))) as σ σ' τ o) : lw_ux_C a1 a2 a3 x.toInt σ σ' := by
  unfold lw_ux_C
  obtain ⟨hs, ht, hf, hr, hm, hw⟩ := hW
  have e1 : τ 19001 = a1 := by rw [ht 19001 (by decide) (by decide)]; exact h1
  have e2 : τ 19002 = a2 := by rw [ht 19002 (by decide) (by decide)]; exact h2
  have e3 : τ 19003 = a3 := by rw [ht 19003 (by decide) (by decide)]; exact h3
  rw [hx] at hr
  obtain ⟨y, hy, hv⟩ := hr
  cases hy
  replace hv : x.toInt = 1 + 0 := hv
  have f0 : 0 ≤ 0 + ((-1) * τ 18536 + (1 * τ 1000000 + 0)) := hf _ (List.Mem.head _)
  have f1 : 0 ≤ 0 + ((-1) * τ 18543 + (1 * τ 1000001 + 0)) := hf _ (List.Mem.tail _ (List.Mem.head _))
  have f2 : 0 ≤ (-1) + (1 * τ 133 + 0) := hf _ (List.Mem.tail _ (List.Mem.tail _ (List.Mem.head _)))
  have f3 : 0 ≤ 11 + ((-1) * τ 134 + 0) := hf _ (List.Mem.tail _ (List.Mem.tail _ (List.Mem.tail _ (List.Mem.head _))))
  have f4 : 0 ≤ 0 + (1 * τ 19001 + 0) := hf _ (List.Mem.tail _ (List.Mem.tail _ (List.Mem.tail _ (List.Mem.tail _ (List.Mem.head _)))))
  have f5 : 0 ≤ 0 + ((-1) * τ 19001 + 0) := hf _ (List.Mem.tail _ (List.Mem.tail _ (List.Mem.tail _ (List.Mem.tail _ (List.Mem.tail _ (List.Mem.head _))))))
  have f6 : 0 ≤ (-7) + (1 * τ 19002 + 0) := hf _ (List.Mem.tail _ (List.Mem.tail _ (List.Mem.tail _ (List.Mem.tail _ (List.Mem.tail _ (List.Mem.tail _ (List.Mem.head _)))))))
  have f7 : 0 ≤ 7 + ((-1) * τ 19002 + 0) := hf _ (List.Mem.tail _ (List.Mem.tail _ (List.Mem.tail _ (List.Mem.tail _ (List.Mem.tail _ (List.Mem.tail _ (List.Mem.tail _ (List.Mem.head _))))))))
  have f8 : 0 ≤ 0 + ((-1) * τ 19003 + 0) := hf _ (List.Mem.tail _ (List.Mem.tail _ (List.Mem.tail _ (List.Mem.tail _ (List.Mem.tail _ (List.Mem.tail _ (List.Mem.tail _ (List.Mem.tail _ (List.Mem.head _)))))))))
  have f9 : 0 ≤ 0 + (1 * τ 1000000 + ((-1) * τ 1000002 + 0)) := hf _ (List.Mem.tail _ (List.Mem.tail _ (List.Mem.tail _ (List.Mem.tail _ (List.Mem.tail _ (List.Mem.tail _ (List.Mem.tail _ (List.Mem.tail _ (List.Mem.tail _ (List.Mem.head _))))))))))
  have f10 : 0 ≤ 0 + ((-1) * τ 1000000 + (1 * τ 1000002 + 0)) := hf _ (List.Mem.tail _ (List.Mem.tail _ (List.Mem.tail _ (List.Mem.tail _ (List.Mem.tail _ (List.Mem.tail _ (List.Mem.tail _ (List.Mem.tail _ (List.Mem.tail _ (List.Mem.tail _ (List.Mem.head _)))))))))))
  have f11 : 0 ≤ 0 + (1 * τ 1000001 + ((-1) * τ 1000003 + 0)) := hf _ (List.Mem.tail _ (List.Mem.tail _ (List.Mem.tail _ (List.Mem.tail _ (List.Mem.tail _ (List.Mem.tail _ (List.Mem.tail _ (List.Mem.tail _ (List.Mem.tail _ (List.Mem.tail _ (List.Mem.tail _ (List.Mem.head _))))))))))))
  have f12 : 0 ≤ 0 + ((-1) * τ 1000001 + (1 * τ 1000003 + 0)) := hf _ (List.Mem.tail _ (List.Mem.tail _ (List.Mem.tail _ (List.Mem.tail _ (List.Mem.tail _ (List.Mem.tail _ (List.Mem.tail _ (List.Mem.tail _ (List.Mem.tail _ (List.Mem.tail _ (List.Mem.tail _ (List.Mem.tail _ (List.Mem.head _)))))))))))))
  have f13 : 0 ≤ (-1) + ((-1) * τ 19001 + (1 * τ 19002 + 0)) := hf _ (List.Mem.tail _ (List.Mem.tail _ (List.Mem.tail _ (List.Mem.tail _ (List.Mem.tail _ (List.Mem.tail _ (List.Mem.tail _ (List.Mem.tail _ (List.Mem.tail _ (List.Mem.tail _ (List.Mem.tail _ (List.Mem.tail _ (List.Mem.tail _ (List.Mem.head _))))))))))))))
  have f14 : 0 ≤ (-1) + (1 * τ 133 + ((-1) * τ 19002 + 0)) := hf _ (List.Mem.tail _ (List.Mem.tail _ (List.Mem.tail _ (List.Mem.tail _ (List.Mem.tail _ (List.Mem.tail _ (List.Mem.tail _ (List.Mem.tail _ (List.Mem.tail _ (List.Mem.tail _ (List.Mem.tail _ (List.Mem.tail _ (List.Mem.tail _ (List.Mem.tail _ (List.Mem.head _)))))))))))))))
  have f15 : 0 ≤ (-1) + (1 * τ 133 + ((-1) * τ 19001 + 0)) := hf _ (List.Mem.tail _ (List.Mem.tail _ (List.Mem.tail _ (List.Mem.tail _ (List.Mem.tail _ (List.Mem.tail _ (List.Mem.tail _ (List.Mem.tail _ (List.Mem.tail _ (List.Mem.tail _ (List.Mem.tail _ (List.Mem.tail _ (List.Mem.tail _ (List.Mem.tail _ (List.Mem.tail _ (List.Mem.head _))))))))))))))))
  have mX1 : σ' 18588 = σ 18536 := lw_id (hs 18536 (by decide)) (hm 18588 (by decide))
  have mY1 : σ' 18589 = 128 := (hm 18589 (by decide)).trans rfl
  have mO1 : σ' 18590 = 0 + (1 * τ 1000002 + 0) := hm 18590 (by decide)
  have mA1 : σ' 18536 = 0 + (1 * τ 1000000 + 0) := hm 18536 (by decide)
  unfold sy_or at ho1
  rw [mX1, mY1, show (128 : Int).toNat = 2 ^ 7 from rfl] at ho1
  have mX2 : σ' 18591 = σ 18543 := lw_id (hs 18543 (by decide)) (hm 18591 (by decide))
  have mY2 : σ' 18592 = 1 := (hm 18592 (by decide)).trans rfl
  have mO2 : σ' 18593 = 0 + (1 * τ 1000003 + 0) := hm 18593 (by decide)
  have mA2 : σ' 18543 = 0 + (1 * τ 1000001 + 0) := hm 18543 (by decide)
  unfold sy_or at ho2
  rw [mX2, mY2, show (1 : Int).toNat = 2 ^ 0 from rfl] at ho2
  have ti : lw_ti a1.toNat a2.toNat (fun p => σ (18536 + p)) (fun p => σ' (18536 + p)) := by
    rw [show a1.toNat = 0 by omega, show a2.toNat = 7 by omega]
    intro p hp
    rcases (show p = 0 ∨ p = 1 ∨ p = 2 ∨ p = 3 ∨ p = 4 ∨ p = 5 ∨ p = 6 ∨ p = 7 by omega) with rfl | rfl | rfl | rfl | rfl | rfl | rfl | rfl
    · show σ' 18536 = if (0 : Nat) = 0 then _ else _
      rw [if_pos rfl]
      show σ' 18536 = (((σ 18536).toNat ||| 2 ^ 7 : Nat) : Int)
      omega
    · show σ' 18537 = if (1 : Nat) = 0 then _ else if (1 : Nat) = 7 then _ else _
      rw [if_neg (by decide), if_neg (by decide)]
      exact lw_id (hs _ (by decide)) (hm _ (by decide))
    · show σ' 18538 = if (2 : Nat) = 0 then _ else if (2 : Nat) = 7 then _ else _
      rw [if_neg (by decide), if_neg (by decide)]
      exact lw_id (hs _ (by decide)) (hm _ (by decide))
    · show σ' 18539 = if (3 : Nat) = 0 then _ else if (3 : Nat) = 7 then _ else _
      rw [if_neg (by decide), if_neg (by decide)]
      exact lw_id (hs _ (by decide)) (hm _ (by decide))
    · show σ' 18540 = if (4 : Nat) = 0 then _ else if (4 : Nat) = 7 then _ else _
      rw [if_neg (by decide), if_neg (by decide)]
      exact lw_id (hs _ (by decide)) (hm _ (by decide))
    · show σ' 18541 = if (5 : Nat) = 0 then _ else if (5 : Nat) = 7 then _ else _
      rw [if_neg (by decide), if_neg (by decide)]
      exact lw_id (hs _ (by decide)) (hm _ (by decide))
    · show σ' 18542 = if (6 : Nat) = 0 then _ else if (6 : Nat) = 7 then _ else _
      rw [if_neg (by decide), if_neg (by decide)]
      exact lw_id (hs _ (by decide)) (hm _ (by decide))
    · show σ' 18543 = if (7 : Nat) = 0 then _ else if (7 : Nat) = 7 then _ else _
      rw [if_neg (by decide), if_pos rfl]
      show σ' 18543 = (((σ 18543).toNat ||| 2 ^ 0 : Nat) : Int)
      omega
  exact Or.inl ⟨by omega, by omega, by omega, by omega, by omega, Or.inr ⟨by omega, ti, (fun p hp => (by rcases (show p = 0 ∨ p = 1 ∨ p = 2 ∨ p = 3 ∨ p = 4 ∨ p = 5 ∨ p = 6 ∨ p = 7 by omega) with rfl | rfl | rfl | rfl | rfl | rfl | rfl | rfl <;> exact lw_id (hs _ (by decide)) (hm _ (by decide))))⟩⟩
set_option maxHeartbeats 1000000 in
theorem lw_ux_20 {as : List rv_A} {σ σ' : Nat → Int} {o : rv_O} {x : Int32} {a1 a2 a3 : Int} {τ : Nat → Int} (hx : o.1 = some (.inl x)) (h1 : lw_av as 1 = a1) (h2 : lw_av as 2 = a2) (h3 : lw_av as 3 = a3) (ho1 : sy_or (σ' 18588) (σ' 18589) (σ' 18590)) (ho2 : sy_or (σ' 18591) (σ' 18592) (σ' 18593)) (hW : lw_W ([(18544, 128, 255), (18551, 1, 255), (18590, 128, 255), (18593, 1, 255)], [(0, [(18544, (-1)), (1000000, 1)]), (0, [(18551, (-1)), (1000001, 1)]), ((-1), [(133, 1)]), (11, [(134, (-1))]), (0, [(19001, 1)]), (0, [(19001, (-1))]), ((-7), [(19002, 1)]), (7, [(19002, (-1))]), ((-1), [(19003, 1)]), (0, [(1000000, 1), (1000002, (-1))]), (0, [(1000000, (-1)), (1000002, 1)]), (0, [(1000001, 1), (1000003, (-1))]), (0, [(1000001, (-1)), (1000003, 1)]), ((-1), [(19001, (-1)), (19002, 1)]), ((-1), [(133, 1), (19002, (-1))]), ((-1), [(133, 1), (19001, (-1))])], [(9, (0, [])), (134, (1, [(134, 1)])), (7048, ((-2), [])), (7049, ((-2), [])), (8069, (0, [])), (11396, ((-2), [])), (18544, (0, [(1000000, 1)])), (18551, (0, [(1000001, 1)])), (18588, (0, [(18544, 1)])), (18589, (128, [])), (18590, (0, [(1000002, 1)])), (18591, (0, [(18551, 1)])), (18592, (1, [])), (18593, (0, [(1000003, 1)])), (18594, (2, []))], some (false, (1, []))) as σ σ' τ o) : lw_ux_C a1 a2 a3 x.toInt σ σ' := by
  unfold lw_ux_C
  obtain ⟨hs, ht, hf, hr, hm, hw⟩ := hW
  have e1 : τ 19001 = a1 := by rw [ht 19001 (by decide) (by decide)]; exact h1
  have e2 : τ 19002 = a2 := by rw [ht 19002 (by decide) (by decide)]; exact h2
  have e3 : τ 19003 = a3 := by rw [ht 19003 (by decide) (by decide)]; exact h3
  rw [hx] at hr
  obtain ⟨y, hy, hv⟩ := hr
  cases hy
  replace hv : x.toInt = 1 + 0 := hv
  have f0 : 0 ≤ 0 + ((-1) * τ 18544 + (1 * τ 1000000 + 0)) := hf _ (List.Mem.head _)
  have f1 : 0 ≤ 0 + ((-1) * τ 18551 + (1 * τ 1000001 + 0)) := hf _ (List.Mem.tail _ (List.Mem.head _))
  have f2 : 0 ≤ (-1) + (1 * τ 133 + 0) := hf _ (List.Mem.tail _ (List.Mem.tail _ (List.Mem.head _)))
  have f3 : 0 ≤ 11 + ((-1) * τ 134 + 0) := hf _ (List.Mem.tail _ (List.Mem.tail _ (List.Mem.tail _ (List.Mem.head _))))
  have f4 : 0 ≤ 0 + (1 * τ 19001 + 0) := hf _ (List.Mem.tail _ (List.Mem.tail _ (List.Mem.tail _ (List.Mem.tail _ (List.Mem.head _)))))
  have f5 : 0 ≤ 0 + ((-1) * τ 19001 + 0) := hf _ (List.Mem.tail _ (List.Mem.tail _ (List.Mem.tail _ (List.Mem.tail _ (List.Mem.tail _ (List.Mem.head _))))))
  have f6 : 0 ≤ (-7) + (1 * τ 19002 + 0) := hf _ (List.Mem.tail _ (List.Mem.tail _ (List.Mem.tail _ (List.Mem.tail _ (List.Mem.tail _ (List.Mem.tail _ (List.Mem.head _)))))))
  have f7 : 0 ≤ 7 + ((-1) * τ 19002 + 0) := hf _ (List.Mem.tail _ (List.Mem.tail _ (List.Mem.tail _ (List.Mem.tail _ (List.Mem.tail _ (List.Mem.tail _ (List.Mem.tail _ (List.Mem.head _))))))))
  have f8 : 0 ≤ (-1) + (1 * τ 19003 + 0) := hf _ (List.Mem.tail _ (List.Mem.tail _ (List.Mem.tail _ (List.Mem.tail _ (List.Mem.tail _ (List.Mem.tail _ (List.Mem.tail _ (List.Mem.tail _ (List.Mem.head _)))))))))
  have f9 : 0 ≤ 0 + (1 * τ 1000000 + ((-1) * τ 1000002 + 0)) := hf _ (List.Mem.tail _ (List.Mem.tail _ (List.Mem.tail _ (List.Mem.tail _ (List.Mem.tail _ (List.Mem.tail _ (List.Mem.tail _ (List.Mem.tail _ (List.Mem.tail _ (List.Mem.head _))))))))))
  have f10 : 0 ≤ 0 + ((-1) * τ 1000000 + (1 * τ 1000002 + 0)) := hf _ (List.Mem.tail _ (List.Mem.tail _ (List.Mem.tail _ (List.Mem.tail _ (List.Mem.tail _ (List.Mem.tail _ (List.Mem.tail _ (List.Mem.tail _ (List.Mem.tail _ (List.Mem.tail _ (List.Mem.head _)))))))))))
  have f11 : 0 ≤ 0 + (1 * τ 1000001 + ((-1) * τ 1000003 + 0)) := hf _ (List.Mem.tail _ (List.Mem.tail _ (List.Mem.tail _ (List.Mem.tail _ (List.Mem.tail _ (List.Mem.tail _ (List.Mem.tail _ (List.Mem.tail _ (List.Mem.tail _ (List.Mem.tail _ (List.Mem.tail _ (List.Mem.head _))))))))))))
  have f12 : 0 ≤ 0 + ((-1) * τ 1000001 + (1 * τ 1000003 + 0)) := hf _ (List.Mem.tail _ (List.Mem.tail _ (List.Mem.tail _ (List.Mem.tail _ (List.Mem.tail _ (List.Mem.tail _ (List.Mem.tail _ (List.Mem.tail _ (List.Mem.tail _ (List.Mem.tail _ (List.Mem.tail _ (List.Mem.tail _ (List.Mem.head _)))))))))))))
  have f13 : 0 ≤ (-1) + ((-1) * τ 19001 + (1 * τ 19002 + 0)) := hf _ (List.Mem.tail _ (List.Mem.tail _ (List.Mem.tail _ (List.Mem.tail _ (List.Mem.tail _ (List.Mem.tail _ (List.Mem.tail _ (List.Mem.tail _ (List.Mem.tail _ (List.Mem.tail _ (List.Mem.tail _ (List.Mem.tail _ (List.Mem.tail _ (List.Mem.head _))))))))))))))
  have f14 : 0 ≤ (-1) + (1 * τ 133 + ((-1) * τ 19002 + 0)) := hf _ (List.Mem.tail _ (List.Mem.tail _ (List.Mem.tail _ (List.Mem.tail _ (List.Mem.tail _ (List.Mem.tail _ (List.Mem.tail _ (List.Mem.tail _ (List.Mem.tail _ (List.Mem.tail _ (List.Mem.tail _ (List.Mem.tail _ (List.Mem.tail _ (List.Mem.tail _ (List.Mem.head _)))))))))))))))
  have f15 : 0 ≤ (-1) + (1 * τ 133 + ((-1) * τ 19001 + 0)) := hf _ (List.Mem.tail _ (List.Mem.tail _ (List.Mem.tail _ (List.Mem.tail _ (List.Mem.tail _ (List.Mem.tail _ (List.Mem.tail _ (List.Mem.tail _ (List.Mem.tail _ (List.Mem.tail _ (List.Mem.tail _ (List.Mem.tail _ (List.Mem.tail _ (List.Mem.tail _ (List.Mem.tail _ (List.Mem.head _))))))))))))))))
  have mX1 : σ' 18588 = σ 18544 := lw_id (hs 18544 (by decide)) (hm 18588 (by decide))
  have mY1 : σ' 18589 = 128 := (hm 18589 (by decide)).trans rfl
  have mO1 : σ' 18590 = 0 + (1 * τ 1000002 + 0) := hm 18590 (by decide)
  have mA1 : σ' 18544 = 0 + (1 * τ 1000000 + 0) := hm 18544 (by decide)
  unfold sy_or at ho1
  rw [mX1, mY1, show (128 : Int).toNat = 2 ^ 7 from rfl] at ho1
  have mX2 : σ' 18591 = σ 18551 := lw_id (hs 18551 (by decide)) (hm 18591 (by decide))
  have mY2 : σ' 18592 = 1 := (hm 18592 (by decide)).trans rfl
  have mO2 : σ' 18593 = 0 + (1 * τ 1000003 + 0) := hm 18593 (by decide)
  have mA2 : σ' 18551 = 0 + (1 * τ 1000001 + 0) := hm 18551 (by decide)
  unfold sy_or at ho2
  rw [mX2, mY2, show (1 : Int).toNat = 2 ^ 0 from rfl] at ho2
  have ti : lw_ti a1.toNat a2.toNat (fun p => σ (18544 + p)) (fun p => σ' (18544 + p)) := by
    rw [show a1.toNat = 0 by omega, show a2.toNat = 7 by omega]
    intro p hp
    rcases (show p = 0 ∨ p = 1 ∨ p = 2 ∨ p = 3 ∨ p = 4 ∨ p = 5 ∨ p = 6 ∨ p = 7 by omega) with rfl | rfl | rfl | rfl | rfl | rfl | rfl | rfl
    · show σ' 18544 = if (0 : Nat) = 0 then _ else _
      rw [if_pos rfl]
      show σ' 18544 = (((σ 18544).toNat ||| 2 ^ 7 : Nat) : Int)
      omega
    · show σ' 18545 = if (1 : Nat) = 0 then _ else if (1 : Nat) = 7 then _ else _
      rw [if_neg (by decide), if_neg (by decide)]
      exact lw_id (hs _ (by decide)) (hm _ (by decide))
    · show σ' 18546 = if (2 : Nat) = 0 then _ else if (2 : Nat) = 7 then _ else _
      rw [if_neg (by decide), if_neg (by decide)]
      exact lw_id (hs _ (by decide)) (hm _ (by decide))
    · show σ' 18547 = if (3 : Nat) = 0 then _ else if (3 : Nat) = 7 then _ else _
      rw [if_neg (by decide), if_neg (by decide)]
      exact lw_id (hs _ (by decide)) (hm _ (by decide))
    · show σ' 18548 = if (4 : Nat) = 0 then _ else if (4 : Nat) = 7 then _ else _
      rw [if_neg (by decide), if_neg (by decide)]
      exact lw_id (hs _ (by decide)) (hm _ (by decide))
    · show σ' 18549 = if (5 : Nat) = 0 then _ else if (5 : Nat) = 7 then _ else _
      rw [if_neg (by decide), if_neg (by decide)]
      exact lw_id (hs _ (by decide)) (hm _ (by decide))
    · show σ' 18550 = if (6 : Nat) = 0 then _ else if (6 : Nat) = 7 then _ else _
      rw [if_neg (by decide), if_neg (by decide)]
      exact lw_id (hs _ (by decide)) (hm _ (by decide))
    · show σ' 18551 = if (7 : Nat) = 0 then _ else if (7 : Nat) = 7 then _ else _
      rw [if_neg (by decide), if_pos rfl]
      show σ' 18551 = (((σ 18551).toNat ||| 2 ^ 0 : Nat) : Int)
      omega
  exact Or.inl ⟨by omega, by omega, by omega, by omega, by omega, Or.inl ⟨by omega, ti, (fun p hp => (by rcases (show p = 0 ∨ p = 1 ∨ p = 2 ∨ p = 3 ∨ p = 4 ∨ p = 5 ∨ p = 6 ∨ p = 7 by omega) with rfl | rfl | rfl | rfl | rfl | rfl | rfl | rfl <;> exact lw_id (hs _ (by decide)) (hm _ (by decide))))⟩⟩
set_option maxHeartbeats 1000000 in
theorem lw_ux_21 {as : List rv_A} {σ σ' : Nat → Int} {o : rv_O} {x : Int32} {a1 a2 a3 : Int} {τ : Nat → Int} (hx : o.1 = some (.inl x)) (h1 : lw_av as 1 = a1) (h2 : lw_av as 2 = a2) (h3 : lw_av as 3 = a3) (ho1 : sy_or (σ' 18588) (σ' 18589) (σ' 18590)) (ho2 : sy_or (σ' 18591) (σ' 18592) (σ' 18593)) (hW : lw_W ([(18536, 2, 255), (18537, 1, 255), (18590, 1, 255), (18593, 2, 255)], [(0, [(18536, (-1)), (1000000, 1)]), (0, [(18537, (-1)), (1000001, 1)]), ((-1), [(133, 1)]), (11, [(134, (-1))]), ((-1), [(19001, 1)]), (1, [(19001, (-1))]), (0, [(19002, 1)]), (0, [(19002, (-1))]), (0, [(19003, (-1))]), (0, [(1000000, 1), (1000003, (-1))]), (0, [(1000000, (-1)), (1000003, 1)]), (0, [(1000001, 1), (1000002, (-1))]), (0, [(1000001, (-1)), (1000002, 1)]), ((-1), [(19001, 1), (19002, (-1))]), ((-1), [(133, 1), (19002, (-1))]), ((-1), [(133, 1), (19001, (-1))])], [(9, (0, [])), (134, (1, [(134, 1)])), (7048, ((-2), [])), (7049, ((-2), [])), (8069, (0, [])), (11396, ((-2), [])), (18536, (0, [(1000000, 1)])), (18537, (0, [(1000001, 1)])), (18588, (0, [(18537, 1)])), (18589, (1, [])), (18590, (0, [(1000002, 1)])), (18591, (0, [(18536, 1)])), (18592, (2, [])), (18593, (0, [(1000003, 1)])), (18594, (2, []))], some (false, (1, []))) as σ σ' τ o) : lw_ux_C a1 a2 a3 x.toInt σ σ' := by
  unfold lw_ux_C
  obtain ⟨hs, ht, hf, hr, hm, hw⟩ := hW
  have e1 : τ 19001 = a1 := by rw [ht 19001 (by decide) (by decide)]; exact h1
  have e2 : τ 19002 = a2 := by rw [ht 19002 (by decide) (by decide)]; exact h2
  have e3 : τ 19003 = a3 := by rw [ht 19003 (by decide) (by decide)]; exact h3
  rw [hx] at hr
  obtain ⟨y, hy, hv⟩ := hr
  cases hy
  replace hv : x.toInt = 1 + 0 := hv
  have f0 : 0 ≤ 0 + ((-1) * τ 18536 + (1 * τ 1000000 + 0)) := hf _ (List.Mem.head _)
  have f1 : 0 ≤ 0 + ((-1) * τ 18537 + (1 * τ 1000001 + 0)) := hf _ (List.Mem.tail _ (List.Mem.head _))
  have f2 : 0 ≤ (-1) + (1 * τ 133 + 0) := hf _ (List.Mem.tail _ (List.Mem.tail _ (List.Mem.head _)))
  have f3 : 0 ≤ 11 + ((-1) * τ 134 + 0) := hf _ (List.Mem.tail _ (List.Mem.tail _ (List.Mem.tail _ (List.Mem.head _))))
  have f4 : 0 ≤ (-1) + (1 * τ 19001 + 0) := hf _ (List.Mem.tail _ (List.Mem.tail _ (List.Mem.tail _ (List.Mem.tail _ (List.Mem.head _)))))
  have f5 : 0 ≤ 1 + ((-1) * τ 19001 + 0) := hf _ (List.Mem.tail _ (List.Mem.tail _ (List.Mem.tail _ (List.Mem.tail _ (List.Mem.tail _ (List.Mem.head _))))))
  have f6 : 0 ≤ 0 + (1 * τ 19002 + 0) := hf _ (List.Mem.tail _ (List.Mem.tail _ (List.Mem.tail _ (List.Mem.tail _ (List.Mem.tail _ (List.Mem.tail _ (List.Mem.head _)))))))
  have f7 : 0 ≤ 0 + ((-1) * τ 19002 + 0) := hf _ (List.Mem.tail _ (List.Mem.tail _ (List.Mem.tail _ (List.Mem.tail _ (List.Mem.tail _ (List.Mem.tail _ (List.Mem.tail _ (List.Mem.head _))))))))
  have f8 : 0 ≤ 0 + ((-1) * τ 19003 + 0) := hf _ (List.Mem.tail _ (List.Mem.tail _ (List.Mem.tail _ (List.Mem.tail _ (List.Mem.tail _ (List.Mem.tail _ (List.Mem.tail _ (List.Mem.tail _ (List.Mem.head _)))))))))
  have f9 : 0 ≤ 0 + (1 * τ 1000000 + ((-1) * τ 1000003 + 0)) := hf _ (List.Mem.tail _ (List.Mem.tail _ (List.Mem.tail _ (List.Mem.tail _ (List.Mem.tail _ (List.Mem.tail _ (List.Mem.tail _ (List.Mem.tail _ (List.Mem.tail _ (List.Mem.head _))))))))))
  have f10 : 0 ≤ 0 + ((-1) * τ 1000000 + (1 * τ 1000003 + 0)) := hf _ (List.Mem.tail _ (List.Mem.tail _ (List.Mem.tail _ (List.Mem.tail _ (List.Mem.tail _ (List.Mem.tail _ (List.Mem.tail _ (List.Mem.tail _ (List.Mem.tail _ (List.Mem.tail _ (List.Mem.head _)))))))))))
  have f11 : 0 ≤ 0 + (1 * τ 1000001 + ((-1) * τ 1000002 + 0)) := hf _ (List.Mem.tail _ (List.Mem.tail _ (List.Mem.tail _ (List.Mem.tail _ (List.Mem.tail _ (List.Mem.tail _ (List.Mem.tail _ (List.Mem.tail _ (List.Mem.tail _ (List.Mem.tail _ (List.Mem.tail _ (List.Mem.head _))))))))))))
  have f12 : 0 ≤ 0 + ((-1) * τ 1000001 + (1 * τ 1000002 + 0)) := hf _ (List.Mem.tail _ (List.Mem.tail _ (List.Mem.tail _ (List.Mem.tail _ (List.Mem.tail _ (List.Mem.tail _ (List.Mem.tail _ (List.Mem.tail _ (List.Mem.tail _ (List.Mem.tail _ (List.Mem.tail _ (List.Mem.tail _ (List.Mem.head _)))))))))))))
  have f13 : 0 ≤ (-1) + (1 * τ 19001 + ((-1) * τ 19002 + 0)) := hf _ (List.Mem.tail _ (List.Mem.tail _ (List.Mem.tail _ (List.Mem.tail _ (List.Mem.tail _ (List.Mem.tail _ (List.Mem.tail _ (List.Mem.tail _ (List.Mem.tail _ (List.Mem.tail _ (List.Mem.tail _ (List.Mem.tail _ (List.Mem.tail _ (List.Mem.head _))))))))))))))
  have f14 : 0 ≤ (-1) + (1 * τ 133 + ((-1) * τ 19002 + 0)) := hf _ (List.Mem.tail _ (List.Mem.tail _ (List.Mem.tail _ (List.Mem.tail _ (List.Mem.tail _ (List.Mem.tail _ (List.Mem.tail _ (List.Mem.tail _ (List.Mem.tail _ (List.Mem.tail _ (List.Mem.tail _ (List.Mem.tail _ (List.Mem.tail _ (List.Mem.tail _ (List.Mem.head _)))))))))))))))
  have f15 : 0 ≤ (-1) + (1 * τ 133 + ((-1) * τ 19001 + 0)) := hf _ (List.Mem.tail _ (List.Mem.tail _ (List.Mem.tail _ (List.Mem.tail _ (List.Mem.tail _ (List.Mem.tail _ (List.Mem.tail _ (List.Mem.tail _ (List.Mem.tail _ (List.Mem.tail _ (List.Mem.tail _ (List.Mem.tail _ (List.Mem.tail _ (List.Mem.tail _ (List.Mem.tail _ (List.Mem.head _))))))))))))))))
  have mX1 : σ' 18588 = σ 18537 := lw_id (hs 18537 (by decide)) (hm 18588 (by decide))
  have mY1 : σ' 18589 = 1 := (hm 18589 (by decide)).trans rfl
  have mO1 : σ' 18590 = 0 + (1 * τ 1000002 + 0) := hm 18590 (by decide)
  have mA1 : σ' 18537 = 0 + (1 * τ 1000001 + 0) := hm 18537 (by decide)
  unfold sy_or at ho1
  rw [mX1, mY1, show (1 : Int).toNat = 2 ^ 0 from rfl] at ho1
  have mX2 : σ' 18591 = σ 18536 := lw_id (hs 18536 (by decide)) (hm 18591 (by decide))
  have mY2 : σ' 18592 = 2 := (hm 18592 (by decide)).trans rfl
  have mO2 : σ' 18593 = 0 + (1 * τ 1000003 + 0) := hm 18593 (by decide)
  have mA2 : σ' 18536 = 0 + (1 * τ 1000000 + 0) := hm 18536 (by decide)
  unfold sy_or at ho2
  rw [mX2, mY2, show (2 : Int).toNat = 2 ^ 1 from rfl] at ho2
  have ti : lw_ti a1.toNat a2.toNat (fun p => σ (18536 + p)) (fun p => σ' (18536 + p)) := by
    rw [show a1.toNat = 1 by omega, show a2.toNat = 0 by omega]
    intro p hp
    rcases (show p = 0 ∨ p = 1 ∨ p = 2 ∨ p = 3 ∨ p = 4 ∨ p = 5 ∨ p = 6 ∨ p = 7 by omega) with rfl | rfl | rfl | rfl | rfl | rfl | rfl | rfl
    · show σ' 18536 = if (0 : Nat) = 1 then _ else if (0 : Nat) = 0 then _ else _
      rw [if_neg (by decide), if_pos rfl]
      show σ' 18536 = (((σ 18536).toNat ||| 2 ^ 1 : Nat) : Int)
      omega
    · show σ' 18537 = if (1 : Nat) = 1 then _ else _
      rw [if_pos rfl]
      show σ' 18537 = (((σ 18537).toNat ||| 2 ^ 0 : Nat) : Int)
      omega
    · show σ' 18538 = if (2 : Nat) = 1 then _ else if (2 : Nat) = 0 then _ else _
      rw [if_neg (by decide), if_neg (by decide)]
      exact lw_id (hs _ (by decide)) (hm _ (by decide))
    · show σ' 18539 = if (3 : Nat) = 1 then _ else if (3 : Nat) = 0 then _ else _
      rw [if_neg (by decide), if_neg (by decide)]
      exact lw_id (hs _ (by decide)) (hm _ (by decide))
    · show σ' 18540 = if (4 : Nat) = 1 then _ else if (4 : Nat) = 0 then _ else _
      rw [if_neg (by decide), if_neg (by decide)]
      exact lw_id (hs _ (by decide)) (hm _ (by decide))
    · show σ' 18541 = if (5 : Nat) = 1 then _ else if (5 : Nat) = 0 then _ else _
      rw [if_neg (by decide), if_neg (by decide)]
      exact lw_id (hs _ (by decide)) (hm _ (by decide))
    · show σ' 18542 = if (6 : Nat) = 1 then _ else if (6 : Nat) = 0 then _ else _
      rw [if_neg (by decide), if_neg (by decide)]
      exact lw_id (hs _ (by decide)) (hm _ (by decide))
    · show σ' 18543 = if (7 : Nat) = 1 then _ else if (7 : Nat) = 0 then _ else _
      rw [if_neg (by decide), if_neg (by decide)]
      exact lw_id (hs _ (by decide)) (hm _ (by decide))
  exact Or.inl ⟨by omega, by omega, by omega, by omega, by omega, Or.inr ⟨by omega, ti, (fun p hp => (by rcases (show p = 0 ∨ p = 1 ∨ p = 2 ∨ p = 3 ∨ p = 4 ∨ p = 5 ∨ p = 6 ∨ p = 7 by omega) with rfl | rfl | rfl | rfl | rfl | rfl | rfl | rfl <;> exact lw_id (hs _ (by decide)) (hm _ (by decide))))⟩⟩
set_option maxHeartbeats 1000000 in
theorem lw_ux_22 {as : List rv_A} {σ σ' : Nat → Int} {o : rv_O} {x : Int32} {a1 a2 a3 : Int} {τ : Nat → Int} (hx : o.1 = some (.inl x)) (h1 : lw_av as 1 = a1) (h2 : lw_av as 2 = a2) (h3 : lw_av as 3 = a3) (ho1 : sy_or (σ' 18588) (σ' 18589) (σ' 18590)) (ho2 : sy_or (σ' 18591) (σ' 18592) (σ' 18593)) (hW : lw_W ([(18544, 2, 255), (18545, 1, 255), (18590, 1, 255), (18593, 2, 255)], [(0, [(18544, (-1)), (1000000, 1)]), (0, [(18545, (-1)), (1000001, 1)]), ((-1), [(133, 1)]), (11, [(134, (-1))]), ((-1), [(19001, 1)]), (1, [(19001, (-1))]), (0, [(19002, 1)]), (0, [(19002, (-1))]), ((-1), [(19003, 1)]), (0, [(1000000, 1), (1000003, (-1))]), (0, [(1000000, (-1)), (1000003, 1)]), (0, [(1000001, 1), (1000002, (-1))]), (0, [(1000001, (-1)), (1000002, 1)]), ((-1), [(19001, 1), (19002, (-1))]), ((-1), [(133, 1), (19002, (-1))]), ((-1), [(133, 1), (19001, (-1))])], [(9, (0, [])), (134, (1, [(134, 1)])), (7048, ((-2), [])), (7049, ((-2), [])), (8069, (0, [])), (11396, ((-2), [])), (18544, (0, [(1000000, 1)])), (18545, (0, [(1000001, 1)])), (18588, (0, [(18545, 1)])), (18589, (1, [])), (18590, (0, [(1000002, 1)])), (18591, (0, [(18544, 1)])), (18592, (2, [])), (18593, (0, [(1000003, 1)])), (18594, (2, []))], some (false, (1, []))) as σ σ' τ o) : lw_ux_C a1 a2 a3 x.toInt σ σ' := by
  unfold lw_ux_C
  obtain ⟨hs, ht, hf, hr, hm, hw⟩ := hW
  have e1 : τ 19001 = a1 := by rw [ht 19001 (by decide) (by decide)]; exact h1
  have e2 : τ 19002 = a2 := by rw [ht 19002 (by decide) (by decide)]; exact h2
  have e3 : τ 19003 = a3 := by rw [ht 19003 (by decide) (by decide)]; exact h3
  rw [hx] at hr
  obtain ⟨y, hy, hv⟩ := hr
  cases hy
  replace hv : x.toInt = 1 + 0 := hv
  have f0 : 0 ≤ 0 + ((-1) * τ 18544 + (1 * τ 1000000 + 0)) := hf _ (List.Mem.head _)
  have f1 : 0 ≤ 0 + ((-1) * τ 18545 + (1 * τ 1000001 + 0)) := hf _ (List.Mem.tail _ (List.Mem.head _))
  have f2 : 0 ≤ (-1) + (1 * τ 133 + 0) := hf _ (List.Mem.tail _ (List.Mem.tail _ (List.Mem.head _)))
  have f3 : 0 ≤ 11 + ((-1) * τ 134 + 0) := hf _ (List.Mem.tail _ (List.Mem.tail _ (List.Mem.tail _ (List.Mem.head _))))
  have f4 : 0 ≤ (-1) + (1 * τ 19001 + 0) := hf _ (List.Mem.tail _ (List.Mem.tail _ (List.Mem.tail _ (List.Mem.tail _ (List.Mem.head _)))))
  have f5 : 0 ≤ 1 + ((-1) * τ 19001 + 0) := hf _ (List.Mem.tail _ (List.Mem.tail _ (List.Mem.tail _ (List.Mem.tail _ (List.Mem.tail _ (List.Mem.head _))))))
  have f6 : 0 ≤ 0 + (1 * τ 19002 + 0) := hf _ (List.Mem.tail _ (List.Mem.tail _ (List.Mem.tail _ (List.Mem.tail _ (List.Mem.tail _ (List.Mem.tail _ (List.Mem.head _)))))))
  have f7 : 0 ≤ 0 + ((-1) * τ 19002 + 0) := hf _ (List.Mem.tail _ (List.Mem.tail _ (List.Mem.tail _ (List.Mem.tail _ (List.Mem.tail _ (List.Mem.tail _ (List.Mem.tail _ (List.Mem.head _))))))))
  have f8 : 0 ≤ (-1) + (1 * τ 19003 + 0) := hf _ (List.Mem.tail _ (List.Mem.tail _ (List.Mem.tail _ (List.Mem.tail _ (List.Mem.tail _ (List.Mem.tail _ (List.Mem.tail _ (List.Mem.tail _ (List.Mem.head _)))))))))
  have f9 : 0 ≤ 0 + (1 * τ 1000000 + ((-1) * τ 1000003 + 0)) := hf _ (List.Mem.tail _ (List.Mem.tail _ (List.Mem.tail _ (List.Mem.tail _ (List.Mem.tail _ (List.Mem.tail _ (List.Mem.tail _ (List.Mem.tail _ (List.Mem.tail _ (List.Mem.head _))))))))))
  have f10 : 0 ≤ 0 + ((-1) * τ 1000000 + (1 * τ 1000003 + 0)) := hf _ (List.Mem.tail _ (List.Mem.tail _ (List.Mem.tail _ (List.Mem.tail _ (List.Mem.tail _ (List.Mem.tail _ (List.Mem.tail _ (List.Mem.tail _ (List.Mem.tail _ (List.Mem.tail _ (List.Mem.head _)))))))))))
  have f11 : 0 ≤ 0 + (1 * τ 1000001 + ((-1) * τ 1000002 + 0)) := hf _ (List.Mem.tail _ (List.Mem.tail _ (List.Mem.tail _ (List.Mem.tail _ (List.Mem.tail _ (List.Mem.tail _ (List.Mem.tail _ (List.Mem.tail _ (List.Mem.tail _ (List.Mem.tail _ (List.Mem.tail _ (List.Mem.head _))))))))))))
  have f12 : 0 ≤ 0 + ((-1) * τ 1000001 + (1 * τ 1000002 + 0)) := hf _ (List.Mem.tail _ (List.Mem.tail _ (List.Mem.tail _ (List.Mem.tail _ (List.Mem.tail _ (List.Mem.tail _ (List.Mem.tail _ (List.Mem.tail _ (List.Mem.tail _ (List.Mem.tail _ (List.Mem.tail _ (List.Mem.tail _ (List.Mem.head _)))))))))))))
  have f13 : 0 ≤ (-1) + (1 * τ 19001 + ((-1) * τ 19002 + 0)) := hf _ (List.Mem.tail _ (List.Mem.tail _ (List.Mem.tail _ (List.Mem.tail _ (List.Mem.tail _ (List.Mem.tail _ (List.Mem.tail _ (List.Mem.tail _ (List.Mem.tail _ (List.Mem.tail _ (List.Mem.tail _ (List.Mem.tail _ (List.Mem.tail _ (List.Mem.head _))))))))))))))
  have f14 : 0 ≤ (-1) + (1 * τ 133 + ((-1) * τ 19002 + 0)) := hf _ (List.Mem.tail _ (List.Mem.tail _ (List.Mem.tail _ (List.Mem.tail _ (List.Mem.tail _ (List.Mem.tail _ (List.Mem.tail _ (List.Mem.tail _ (List.Mem.tail _ (List.Mem.tail _ (List.Mem.tail _ (List.Mem.tail _ (List.Mem.tail _ (List.Mem.tail _ (List.Mem.head _)))))))))))))))
  have f15 : 0 ≤ (-1) + (1 * τ 133 + ((-1) * τ 19001 + 0)) := hf _ (List.Mem.tail _ (List.Mem.tail _ (List.Mem.tail _ (List.Mem.tail _ (List.Mem.tail _ (List.Mem.tail _ (List.Mem.tail _ (List.Mem.tail _ (List.Mem.tail _ (List.Mem.tail _ (List.Mem.tail _ (List.Mem.tail _ (List.Mem.tail _ (List.Mem.tail _ (List.Mem.tail _ (List.Mem.head _))))))))))))))))
  have mX1 : σ' 18588 = σ 18545 := lw_id (hs 18545 (by decide)) (hm 18588 (by decide))
  have mY1 : σ' 18589 = 1 := (hm 18589 (by decide)).trans rfl
  have mO1 : σ' 18590 = 0 + (1 * τ 1000002 + 0) := hm 18590 (by decide)
  have mA1 : σ' 18545 = 0 + (1 * τ 1000001 + 0) := hm 18545 (by decide)
  unfold sy_or at ho1
  rw [mX1, mY1, show (1 : Int).toNat = 2 ^ 0 from rfl] at ho1
  have mX2 : σ' 18591 = σ 18544 := lw_id (hs 18544 (by decide)) (hm 18591 (by decide))
  have mY2 : σ' 18592 = 2 := (hm 18592 (by decide)).trans rfl
  have mO2 : σ' 18593 = 0 + (1 * τ 1000003 + 0) := hm 18593 (by decide)
  have mA2 : σ' 18544 = 0 + (1 * τ 1000000 + 0) := hm 18544 (by decide)
  unfold sy_or at ho2
  rw [mX2, mY2, show (2 : Int).toNat = 2 ^ 1 from rfl] at ho2
  have ti : lw_ti a1.toNat a2.toNat (fun p => σ (18544 + p)) (fun p => σ' (18544 + p)) := by
    rw [show a1.toNat = 1 by omega, show a2.toNat = 0 by omega]
    intro p hp
    rcases (show p = 0 ∨ p = 1 ∨ p = 2 ∨ p = 3 ∨ p = 4 ∨ p = 5 ∨ p = 6 ∨ p = 7 by omega) with rfl | rfl | rfl | rfl | rfl | rfl | rfl | rfl
    · show σ' 18544 = if (0 : Nat) = 1 then _ else if (0 : Nat) = 0 then _ else _
      rw [if_neg (by decide), if_pos rfl]
      show σ' 18544 = (((σ 18544).toNat ||| 2 ^ 1 : Nat) : Int)
      omega
    · show σ' 18545 = if (1 : Nat) = 1 then _ else _
      rw [if_pos rfl]
      show σ' 18545 = (((σ 18545).toNat ||| 2 ^ 0 : Nat) : Int)
      omega
    · show σ' 18546 = if (2 : Nat) = 1 then _ else if (2 : Nat) = 0 then _ else _
      rw [if_neg (by decide), if_neg (by decide)]
      exact lw_id (hs _ (by decide)) (hm _ (by decide))
    · show σ' 18547 = if (3 : Nat) = 1 then _ else if (3 : Nat) = 0 then _ else _
      rw [if_neg (by decide), if_neg (by decide)]
      exact lw_id (hs _ (by decide)) (hm _ (by decide))
    · show σ' 18548 = if (4 : Nat) = 1 then _ else if (4 : Nat) = 0 then _ else _
      rw [if_neg (by decide), if_neg (by decide)]
      exact lw_id (hs _ (by decide)) (hm _ (by decide))
    · show σ' 18549 = if (5 : Nat) = 1 then _ else if (5 : Nat) = 0 then _ else _
      rw [if_neg (by decide), if_neg (by decide)]
      exact lw_id (hs _ (by decide)) (hm _ (by decide))
    · show σ' 18550 = if (6 : Nat) = 1 then _ else if (6 : Nat) = 0 then _ else _
      rw [if_neg (by decide), if_neg (by decide)]
      exact lw_id (hs _ (by decide)) (hm _ (by decide))
    · show σ' 18551 = if (7 : Nat) = 1 then _ else if (7 : Nat) = 0 then _ else _
      rw [if_neg (by decide), if_neg (by decide)]
      exact lw_id (hs _ (by decide)) (hm _ (by decide))
  exact Or.inl ⟨by omega, by omega, by omega, by omega, by omega, Or.inl ⟨by omega, ti, (fun p hp => (by rcases (show p = 0 ∨ p = 1 ∨ p = 2 ∨ p = 3 ∨ p = 4 ∨ p = 5 ∨ p = 6 ∨ p = 7 by omega) with rfl | rfl | rfl | rfl | rfl | rfl | rfl | rfl <;> exact lw_id (hs _ (by decide)) (hm _ (by decide))))⟩⟩
set_option maxHeartbeats 1000000 in
theorem lw_ux_23 {as : List rv_A} {σ σ' : Nat → Int} {o : rv_O} {x : Int32} {a1 a2 a3 : Int} {τ : Nat → Int} (hx : o.1 = some (.inl x)) (h1 : lw_av as 1 = a1) (h2 : lw_av as 2 = a2) (h3 : lw_av as 3 = a3) (ho1 : sy_or (σ' 18588) (σ' 18589) (σ' 18590)) (ho2 : sy_or (σ' 18591) (σ' 18592) (σ' 18593)) (hW : lw_W ([(18537, 2, 255), (18590, 2, 255), (18591, 2, 255), (18593, 2, 255)], [(0, [(18537, (-1)), (1000000, 1)]), ((-1), [(133, 1)]), (11, [(134, (-1))]), ((-1), [(19001, 1)]), (1, [(19001, (-1))]), ((-1), [(19002, 1)]), (1, [(19002, (-1))]), (0, [(19003, (-1))]), (0, [(1000000, 1), (1000001, (-1))]), (0, [(1000000, 1), (1000003, (-1))]), (0, [(1000000, (-1)), (1000003, 1)]), ((-1), [(19001, (-1)), (19002, 1)]), ((-1), [(133, 1), (19002, (-1))]), ((-1), [(133, 1), (19001, (-1))])], [(9, (0, [])), (134, (1, [(134, 1)])), (7048, ((-2), [])), (7049, ((-2), [])), (8069, (0, [])), (11396, ((-2), [])), (18537, (0, [(1000000, 1)])), (18588, (0, [(18537, 1)])), (18589, (2, [])), (18590, (0, [(1000001, 1)])), (18591, (0, [(1000002, 1)])), (18592, (2, [])), (18593, (0, [(1000003, 1)])), (18594, (2, []))], some (false, (1, []))) as σ σ' τ o) : lw_ux_C a1 a2 a3 x.toInt σ σ' := by
  unfold lw_ux_C
  obtain ⟨hs, ht, hf, hr, hm, hw⟩ := hW
  have e1 : τ 19001 = a1 := by rw [ht 19001 (by decide) (by decide)]; exact h1
  have e2 : τ 19002 = a2 := by rw [ht 19002 (by decide) (by decide)]; exact h2
  have e3 : τ 19003 = a3 := by rw [ht 19003 (by decide) (by decide)]; exact h3
  rw [hx] at hr
  obtain ⟨y, hy, hv⟩ := hr
  cases hy
  replace hv : x.toInt = 1 + 0 := hv
  have f0 : 0 ≤ 0 + ((-1) * τ 18537 + (1 * τ 1000000 + 0)) := hf _ (List.Mem.head _)
  have f1 : 0 ≤ (-1) + (1 * τ 133 + 0) := hf _ (List.Mem.tail _ (List.Mem.head _))
  have f2 : 0 ≤ 11 + ((-1) * τ 134 + 0) := hf _ (List.Mem.tail _ (List.Mem.tail _ (List.Mem.head _)))
  have f3 : 0 ≤ (-1) + (1 * τ 19001 + 0) := hf _ (List.Mem.tail _ (List.Mem.tail _ (List.Mem.tail _ (List.Mem.head _))))
  have f4 : 0 ≤ 1 + ((-1) * τ 19001 + 0) := hf _ (List.Mem.tail _ (List.Mem.tail _ (List.Mem.tail _ (List.Mem.tail _ (List.Mem.head _)))))
  have f5 : 0 ≤ (-1) + (1 * τ 19002 + 0) := hf _ (List.Mem.tail _ (List.Mem.tail _ (List.Mem.tail _ (List.Mem.tail _ (List.Mem.tail _ (List.Mem.head _))))))
  have f6 : 0 ≤ 1 + ((-1) * τ 19002 + 0) := hf _ (List.Mem.tail _ (List.Mem.tail _ (List.Mem.tail _ (List.Mem.tail _ (List.Mem.tail _ (List.Mem.tail _ (List.Mem.head _)))))))
  have f7 : 0 ≤ 0 + ((-1) * τ 19003 + 0) := hf _ (List.Mem.tail _ (List.Mem.tail _ (List.Mem.tail _ (List.Mem.tail _ (List.Mem.tail _ (List.Mem.tail _ (List.Mem.tail _ (List.Mem.head _))))))))
  have f8 : 0 ≤ 0 + (1 * τ 1000000 + ((-1) * τ 1000001 + 0)) := hf _ (List.Mem.tail _ (List.Mem.tail _ (List.Mem.tail _ (List.Mem.tail _ (List.Mem.tail _ (List.Mem.tail _ (List.Mem.tail _ (List.Mem.tail _ (List.Mem.head _)))))))))
  have f9 : 0 ≤ 0 + (1 * τ 1000000 + ((-1) * τ 1000003 + 0)) := hf _ (List.Mem.tail _ (List.Mem.tail _ (List.Mem.tail _ (List.Mem.tail _ (List.Mem.tail _ (List.Mem.tail _ (List.Mem.tail _ (List.Mem.tail _ (List.Mem.tail _ (List.Mem.head _))))))))))
  have f10 : 0 ≤ 0 + ((-1) * τ 1000000 + (1 * τ 1000003 + 0)) := hf _ (List.Mem.tail _ (List.Mem.tail _ (List.Mem.tail _ (List.Mem.tail _ (List.Mem.tail _ (List.Mem.tail _ (List.Mem.tail _ (List.Mem.tail _ (List.Mem.tail _ (List.Mem.tail _ (List.Mem.head _)))))))))))
  have f11 : 0 ≤ (-1) + ((-1) * τ 19001 + (1 * τ 19002 + 0)) := hf _ (List.Mem.tail _ (List.Mem.tail _ (List.Mem.tail _ (List.Mem.tail _ (List.Mem.tail _ (List.Mem.tail _ (List.Mem.tail _ (List.Mem.tail _ (List.Mem.tail _ (List.Mem.tail _ (List.Mem.tail _ (List.Mem.head _))))))))))))
  have f12 : 0 ≤ (-1) + (1 * τ 133 + ((-1) * τ 19002 + 0)) := hf _ (List.Mem.tail _ (List.Mem.tail _ (List.Mem.tail _ (List.Mem.tail _ (List.Mem.tail _ (List.Mem.tail _ (List.Mem.tail _ (List.Mem.tail _ (List.Mem.tail _ (List.Mem.tail _ (List.Mem.tail _ (List.Mem.tail _ (List.Mem.head _)))))))))))))
  have f13 : 0 ≤ (-1) + (1 * τ 133 + ((-1) * τ 19001 + 0)) := hf _ (List.Mem.tail _ (List.Mem.tail _ (List.Mem.tail _ (List.Mem.tail _ (List.Mem.tail _ (List.Mem.tail _ (List.Mem.tail _ (List.Mem.tail _ (List.Mem.tail _ (List.Mem.tail _ (List.Mem.tail _ (List.Mem.tail _ (List.Mem.tail _ (List.Mem.head _))))))))))))))
  exfalso
  omega
set_option maxHeartbeats 1000000 in
theorem lw_ux_24 {as : List rv_A} {σ σ' : Nat → Int} {o : rv_O} {x : Int32} {a1 a2 a3 : Int} {τ : Nat → Int} (hx : o.1 = some (.inl x)) (h1 : lw_av as 1 = a1) (h2 : lw_av as 2 = a2) (h3 : lw_av as 3 = a3) (ho1 : sy_or (σ' 18588) (σ' 18589) (σ' 18590)) (ho2 : sy_or (σ' 18591) (σ' 18592) (σ' 18593)) (hW : lw_W ([(18537, 2, 255), (18590, 2, 255), (18591, 2, 255), (18593, 2, 255)], [(0, [(18537, (-1)), (1000000, 1)]), ((-1), [(133, 1)]), (11, [(134, (-1))]), ((-1), [(19001, 1)]), (1, [(19001, (-1))]), ((-1), [(19002, 1)]), (1, [(19002, (-1))]), (0, [(19003, (-1))]), (0, [(1000000, 1), (1000001, (-1))]), (0, [(1000000, 1), (1000003, (-1))]), (0, [(1000000, (-1)), (1000003, 1)]), ((-1), [(19001, 1), (19002, (-1))]), ((-1), [(133, 1), (19002, (-1))]), ((-1), [(133, 1), (19001, (-1))])], [(9, (0, [])), (134, (1, [(134, 1)])), (7048, ((-2), [])), (7049, ((-2), [])), (8069, (0, [])), (11396, ((-2), [])), (18537, (0, [(1000000, 1)])), (18588, (0, [(18537, 1)])), (18589, (2, [])), (18590, (0, [(1000001, 1)])), (18591, (0, [(1000002, 1)])), (18592, (2, [])), (18593, (0, [(1000003, 1)])), (18594, (2, []))], some (false, (1, []))) as σ σ' τ o) : lw_ux_C a1 a2 a3 x.toInt σ σ' := by
  unfold lw_ux_C
  obtain ⟨hs, ht, hf, hr, hm, hw⟩ := hW
  have e1 : τ 19001 = a1 := by rw [ht 19001 (by decide) (by decide)]; exact h1
  have e2 : τ 19002 = a2 := by rw [ht 19002 (by decide) (by decide)]; exact h2
  have e3 : τ 19003 = a3 := by rw [ht 19003 (by decide) (by decide)]; exact h3
  rw [hx] at hr
  obtain ⟨y, hy, hv⟩ := hr
  cases hy
  replace hv : x.toInt = 1 + 0 := hv
  have f0 : 0 ≤ 0 + ((-1) * τ 18537 + (1 * τ 1000000 + 0)) := hf _ (List.Mem.head _)
  have f1 : 0 ≤ (-1) + (1 * τ 133 + 0) := hf _ (List.Mem.tail _ (List.Mem.head _))
  have f2 : 0 ≤ 11 + ((-1) * τ 134 + 0) := hf _ (List.Mem.tail _ (List.Mem.tail _ (List.Mem.head _)))
  have f3 : 0 ≤ (-1) + (1 * τ 19001 + 0) := hf _ (List.Mem.tail _ (List.Mem.tail _ (List.Mem.tail _ (List.Mem.head _))))
  have f4 : 0 ≤ 1 + ((-1) * τ 19001 + 0) := hf _ (List.Mem.tail _ (List.Mem.tail _ (List.Mem.tail _ (List.Mem.tail _ (List.Mem.head _)))))
  have f5 : 0 ≤ (-1) + (1 * τ 19002 + 0) := hf _ (List.Mem.tail _ (List.Mem.tail _ (List.Mem.tail _ (List.Mem.tail _ (List.Mem.tail _ (List.Mem.head _))))))
  have f6 : 0 ≤ 1 + ((-1) * τ 19002 + 0) := hf _ (List.Mem.tail _ (List.Mem.tail _ (List.Mem.tail _ (List.Mem.tail _ (List.Mem.tail _ (List.Mem.tail _ (List.Mem.head _)))))))
  have f7 : 0 ≤ 0 + ((-1) * τ 19003 + 0) := hf _ (List.Mem.tail _ (List.Mem.tail _ (List.Mem.tail _ (List.Mem.tail _ (List.Mem.tail _ (List.Mem.tail _ (List.Mem.tail _ (List.Mem.head _))))))))
  have f8 : 0 ≤ 0 + (1 * τ 1000000 + ((-1) * τ 1000001 + 0)) := hf _ (List.Mem.tail _ (List.Mem.tail _ (List.Mem.tail _ (List.Mem.tail _ (List.Mem.tail _ (List.Mem.tail _ (List.Mem.tail _ (List.Mem.tail _ (List.Mem.head _)))))))))
  have f9 : 0 ≤ 0 + (1 * τ 1000000 + ((-1) * τ 1000003 + 0)) := hf _ (List.Mem.tail _ (List.Mem.tail _ (List.Mem.tail _ (List.Mem.tail _ (List.Mem.tail _ (List.Mem.tail _ (List.Mem.tail _ (List.Mem.tail _ (List.Mem.tail _ (List.Mem.head _))))))))))
  have f10 : 0 ≤ 0 + ((-1) * τ 1000000 + (1 * τ 1000003 + 0)) := hf _ (List.Mem.tail _ (List.Mem.tail _ (List.Mem.tail _ (List.Mem.tail _ (List.Mem.tail _ (List.Mem.tail _ (List.Mem.tail _ (List.Mem.tail _ (List.Mem.tail _ (List.Mem.tail _ (List.Mem.head _)))))))))))
  have f11 : 0 ≤ (-1) + (1 * τ 19001 + ((-1) * τ 19002 + 0)) := hf _ (List.Mem.tail _ (List.Mem.tail _ (List.Mem.tail _ (List.Mem.tail _ (List.Mem.tail _ (List.Mem.tail _ (List.Mem.tail _ (List.Mem.tail _ (List.Mem.tail _ (List.Mem.tail _ (List.Mem.tail _ (List.Mem.head _))))))))))))
  have f12 : 0 ≤ (-1) + (1 * τ 133 + ((-1) * τ 19002 + 0)) := hf _ (List.Mem.tail _ (List.Mem.tail _ (List.Mem.tail _ (List.Mem.tail _ (List.Mem.tail _ (List.Mem.tail _ (List.Mem.tail _ (List.Mem.tail _ (List.Mem.tail _ (List.Mem.tail _ (List.Mem.tail _ (List.Mem.tail _ (List.Mem.head _)))))))))))))
  have f13 : 0 ≤ (-1) + (1 * τ 133 + ((-1) * τ 19001 + 0)) := hf _ (List.Mem.tail _ (List.Mem.tail _ (List.Mem.tail _ (List.Mem.tail _ (List.Mem.tail _ (List.Mem.tail _ (List.Mem.tail _ (List.Mem.tail _ (List.Mem.tail _ (List.Mem.tail _ (List.Mem.tail _ (List.Mem.tail _ (List.Mem.tail _ (List.Mem.head _))))))))))))))
  exfalso
  omega
set_option maxHeartbeats 1000000 in
theorem lw_ux_25 {as : List rv_A} {σ σ' : Nat → Int} {o : rv_O} {x : Int32} {a1 a2 a3 : Int} {τ : Nat → Int} (hx : o.1 = some (.inl x)) (h1 : lw_av as 1 = a1) (h2 : lw_av as 2 = a2) (h3 : lw_av as 3 = a3) (ho1 : sy_or (σ' 18588) (σ' 18589) (σ' 18590)) (ho2 : sy_or (σ' 18591) (σ' 18592) (σ' 18593)) (hW : lw_W ([(18545, 2, 255), (18590, 2, 255), (18591, 2, 255), (18593, 2, 255)], [(0, [(18545, (-1)), (1000000, 1)]), ((-1), [(133, 1)]), (11, [(134, (-1))]), ((-1), [(19001, 1)]), (1, [(19001, (-1))]), ((-1), [(19002, 1)]), (1, [(19002, (-1))]), ((-1), [(19003, 1)]), (0, [(1000000, 1), (1000001, (-1))]), (0, [(1000000, 1), (1000003, (-1))]), (0, [(1000000, (-1)), (1000003, 1)]), ((-1), [(19001, (-1)), (19002, 1)]), ((-1), [(133, 1), (19002, (-1))]), ((-1), [(133, 1), (19001, (-1))])], [(9, (0, [])), (134, (1, [(134, 1)])), (7048, ((-2), [])), (7049, ((-2), [])), (8069, (0, [])), (11396, ((-2), [])), (18545, (0, [(1000000, 1)])), (18588, (0, [(18545, 1)])), (18589, (2, [])), (18590, (0, [(1000001, 1)])), (18591, (0, [(1000002, 1)])), (18592, (2, [])), (18593, (0, [(1000003, 1)])), (18594, (2, []))], some (false, (1, []))) as σ σ' τ o) : lw_ux_C a1 a2 a3 x.toInt σ σ' := by
  unfold lw_ux_C
  obtain ⟨hs, ht, hf, hr, hm, hw⟩ := hW
  have e1 : τ 19001 = a1 := by rw [ht 19001 (by decide) (by decide)]; exact h1
  have e2 : τ 19002 = a2 := by rw [ht 19002 (by decide) (by decide)]; exact h2
  have e3 : τ 19003 = a3 := by rw [ht 19003 (by decide) (by decide)]; exact h3
  rw [hx] at hr
  obtain ⟨y, hy, hv⟩ := hr
  cases hy
  replace hv : x.toInt = 1 + 0 := hv
  have f0 : 0 ≤ 0 + ((-1) * τ 18545 + (1 * τ 1000000 + 0)) := hf _ (List.Mem.head _)
  have f1 : 0 ≤ (-1) + (1 * τ 133 + 0) := hf _ (List.Mem.tail _ (List.Mem.head _))
  have f2 : 0 ≤ 11 + ((-1) * τ 134 + 0) := hf _ (List.Mem.tail _ (List.Mem.tail _ (List.Mem.head _)))
  have f3 : 0 ≤ (-1) + (1 * τ 19001 + 0) := hf _ (List.Mem.tail _ (List.Mem.tail _ (List.Mem.tail _ (List.Mem.head _))))
  have f4 : 0 ≤ 1 + ((-1) * τ 19001 + 0) := hf _ (List.Mem.tail _ (List.Mem.tail _ (List.Mem.tail _ (List.Mem.tail _ (List.Mem.head _)))))
  have f5 : 0 ≤ (-1) + (1 * τ 19002 + 0) := hf _ (List.Mem.tail _ (List.Mem.tail _ (List.Mem.tail _ (List.Mem.tail _ (List.Mem.tail _ (List.Mem.head _))))))
  have f6 : 0 ≤ 1 + ((-1) * τ 19002 + 0) := hf _ (List.Mem.tail _ (List.Mem.tail _ (List.Mem.tail _ (List.Mem.tail _ (List.Mem.tail _ (List.Mem.tail _ (List.Mem.head _)))))))
  have f7 : 0 ≤ (-1) + (1 * τ 19003 + 0) := hf _ (List.Mem.tail _ (List.Mem.tail _ (List.Mem.tail _ (List.Mem.tail _ (List.Mem.tail _ (List.Mem.tail _ (List.Mem.tail _ (List.Mem.head _))))))))
  have f8 : 0 ≤ 0 + (1 * τ 1000000 + ((-1) * τ 1000001 + 0)) := hf _ (List.Mem.tail _ (List.Mem.tail _ (List.Mem.tail _ (List.Mem.tail _ (List.Mem.tail _ (List.Mem.tail _ (List.Mem.tail _ (List.Mem.tail _ (List.Mem.head _)))))))))
  have f9 : 0 ≤ 0 + (1 * τ 1000000 + ((-1) * τ 1000003 + 0)) := hf _ (List.Mem.tail _ (List.Mem.tail _ (List.Mem.tail _ (List.Mem.tail _ (List.Mem.tail _ (List.Mem.tail _ (List.Mem.tail _ (List.Mem.tail _ (List.Mem.tail _ (List.Mem.head _))))))))))
  have f10 : 0 ≤ 0 + ((-1) * τ 1000000 + (1 * τ 1000003 + 0)) := hf _ (List.Mem.tail _ (List.Mem.tail _ (List.Mem.tail _ (List.Mem.tail _ (List.Mem.tail _ (List.Mem.tail _ (List.Mem.tail _ (List.Mem.tail _ (List.Mem.tail _ (List.Mem.tail _ (List.Mem.head _)))))))))))
  have f11 : 0 ≤ (-1) + ((-1) * τ 19001 + (1 * τ 19002 + 0)) := hf _ (List.Mem.tail _ (List.Mem.tail _ (List.Mem.tail _ (List.Mem.tail _ (List.Mem.tail _ (List.Mem.tail _ (List.Mem.tail _ (List.Mem.tail _ (List.Mem.tail _ (List.Mem.tail _ (List.Mem.tail _ (List.Mem.head _))))))))))))
  have f12 : 0 ≤ (-1) + (1 * τ 133 + ((-1) * τ 19002 + 0)) := hf _ (List.Mem.tail _ (List.Mem.tail _ (List.Mem.tail _ (List.Mem.tail _ (List.Mem.tail _ (List.Mem.tail _ (List.Mem.tail _ (List.Mem.tail _ (List.Mem.tail _ (List.Mem.tail _ (List.Mem.tail _ (List.Mem.tail _ (List.Mem.head _)))))))))))))
  have f13 : 0 ≤ (-1) + (1 * τ 133 + ((-1) * τ 19001 + 0)) := hf _ (List.Mem.tail _ (List.Mem.tail _ (List.Mem.tail _ (List.Mem.tail _ (List.Mem.tail _ (List.Mem.tail _ (List.Mem.tail _ (List.Mem.tail _ (List.Mem.tail _ (List.Mem.tail _ (List.Mem.tail _ (List.Mem.tail _ (List.Mem.tail _ (List.Mem.head _))))))))))))))
  exfalso
  omega
set_option maxHeartbeats 1000000 in
theorem lw_ux_26 {as : List rv_A} {σ σ' : Nat → Int} {o : rv_O} {x : Int32} {a1 a2 a3 : Int} {τ : Nat → Int} (hx : o.1 = some (.inl x)) (h1 : lw_av as 1 = a1) (h2 : lw_av as 2 = a2) (h3 : lw_av as 3 = a3) (ho1 : sy_or (σ' 18588) (σ' 18589) (σ' 18590)) (ho2 : sy_or (σ' 18591) (σ' 18592) (σ' 18593)) (hW : lw_W ([(18545, 2, 255), (18590, 2, 255), (18591, 2, 255), (18593, 2, 255)], [(0, [(18545, (-1)), (1000000, 1)]), ((-1), [(133, 1)]), (11, [(134, (-1))]), ((-1), [(19001, 1)]), (1, [(19001, (-1))]), ((-1), [(19002, 1)]), (1, [(19002, (-1))]), ((-1), [(19003, 1)]), (0, [(1000000, 1), (1000001, (-1))]), (0, [(1000000, 1), (1000003, (-1))]), (0, [(1000000, (-1)), (1000003, 1)]), ((-1), [(19001, 1), (19002, (-1))]), ((-1), [(133, 1), (19002, (-1))]), ((-1), [(133, 1), (19001, (-1))])], [(9, (0, [])), (134, (1, [(134, 1)])), (7048, ((-2), [])), (7049, ((-2), [])), (8069, (0, [])), (11396, ((-2), [])), (18545, (0, [(1000000, 1)])), (18588, (0, [(18545, 1)])), (18589, (2, [])), (18590, (0, [(1000001, 1)])), (18591, (0, [(1000002, 1)])), (18592, (2, [])), (18593, (0, [(1000003, 1)])), (18594, (2, []))], some (false, (1, []))) as σ σ' τ o) : lw_ux_C a1 a2 a3 x.toInt σ σ' := by
  unfold lw_ux_C
  obtain ⟨hs, ht, hf, hr, hm, hw⟩ := hW
  have e1 : τ 19001 = a1 := by rw [ht 19001 (by decide) (by decide)]; exact h1
  have e2 : τ 19002 = a2 := by rw [ht 19002 (by decide) (by decide)]; exact h2
  have e3 : τ 19003 = a3 := by rw [ht 19003 (by decide) (by decide)]; exact h3
  rw [hx] at hr
  obtain ⟨y, hy, hv⟩ := hr
  cases hy
  replace hv : x.toInt = 1 + 0 := hv
  have f0 : 0 ≤ 0 + ((-1) * τ 18545 + (1 * τ 1000000 + 0)) := hf _ (List.Mem.head _)
  have f1 : 0 ≤ (-1) + (1 * τ 133 + 0) := hf _ (List.Mem.tail _ (List.Mem.head _))
  have f2 : 0 ≤ 11 + ((-1) * τ 134 + 0) := hf _ (List.Mem.tail _ (List.Mem.tail _ (List.Mem.head _)))
  have f3 : 0 ≤ (-1) + (1 * τ 19001 + 0) := hf _ (List.Mem.tail _ (List.Mem.tail _ (List.Mem.tail _ (List.Mem.head _))))
  have f4 : 0 ≤ 1 + ((-1) * τ 19001 + 0) := hf _ (List.Mem.tail _ (List.Mem.tail _ (List.Mem.tail _ (List.Mem.tail _ (List.Mem.head _)))))
  have f5 : 0 ≤ (-1) + (1 * τ 19002 + 0) := hf _ (List.Mem.tail _ (List.Mem.tail _ (List.Mem.tail _ (List.Mem.tail _ (List.Mem.tail _ (List.Mem.head _))))))
  have f6 : 0 ≤ 1 + ((-1) * τ 19002 + 0) := hf _ (List.Mem.tail _ (List.Mem.tail _ (List.Mem.tail _ (List.Mem.tail _ (List.Mem.tail _ (List.Mem.tail _ (List.Mem.head _)))))))
  have f7 : 0 ≤ (-1) + (1 * τ 19003 + 0) := hf _ (List.Mem.tail _ (List.Mem.tail _ (List.Mem.tail _ (List.Mem.tail _ (List.Mem.tail _ (List.Mem.tail _ (List.Mem.tail _ (List.Mem.head _))))))))
  have f8 : 0 ≤ 0 + (1 * τ 1000000 + ((-1) * τ 1000001 + 0)) := hf _ (List.Mem.tail _ (List.Mem.tail _ (List.Mem.tail _ (List.Mem.tail _ (List.Mem.tail _ (List.Mem.tail _ (List.Mem.tail _ (List.Mem.tail _ (List.Mem.head _)))))))))
  have f9 : 0 ≤ 0 + (1 * τ 1000000 + ((-1) * τ 1000003 + 0)) := hf _ (List.Mem.tail _ (List.Mem.tail _ (List.Mem.tail _ (List.Mem.tail _ (List.Mem.tail _ (List.Mem.tail _ (List.Mem.tail _ (List.Mem.tail _ (List.Mem.tail _ (List.Mem.head _))))))))))
  have f10 : 0 ≤ 0 + ((-1) * τ 1000000 + (1 * τ 1000003 + 0)) := hf _ (List.Mem.tail _ (List.Mem.tail _ (List.Mem.tail _ (List.Mem.tail _ (List.Mem.tail _ (List.Mem.tail _ (List.Mem.tail _ (List.Mem.tail _ (List.Mem.tail _ (List.Mem.tail _ (List.Mem.head _)))))))))))
  have f11 : 0 ≤ (-1) + (1 * τ 19001 + ((-1) * τ 19002 + 0)) := hf _ (List.Mem.tail _ (List.Mem.tail _ (List.Mem.tail _ (List.Mem.tail _ (List.Mem.tail _ (List.Mem.tail _ (List.Mem.tail _ (List.Mem.tail _ (List.Mem.tail _ (List.Mem.tail _ (List.Mem.tail _ (List.Mem.head _))))))))))))
  have f12 : 0 ≤ (-1) + (1 * τ 133 + ((-1) * τ 19002 + 0)) := hf _ (List.Mem.tail _ (List.Mem.tail _ (List.Mem.tail _ (List.Mem.tail _ (List.Mem.tail _ (List.Mem.tail _ (List.Mem.tail _ (List.Mem.tail _ (List.Mem.tail _ (List.Mem.tail _ (List.Mem.tail _ (List.Mem.tail _ (List.Mem.head _)))))))))))))
  have f13 : 0 ≤ (-1) + (1 * τ 133 + ((-1) * τ 19001 + 0)) := hf _ (List.Mem.tail _ (List.Mem.tail _ (List.Mem.tail _ (List.Mem.tail _ (List.Mem.tail _ (List.Mem.tail _ (List.Mem.tail _ (List.Mem.tail _ (List.Mem.tail _ (List.Mem.tail _ (List.Mem.tail _ (List.Mem.tail _ (List.Mem.tail _ (List.Mem.head _))))))))))))))
  exfalso
  omega
set_option maxHeartbeats 1000000 in
theorem lw_ux_27 {as : List rv_A} {σ σ' : Nat → Int} {o : rv_O} {x : Int32} {a1 a2 a3 : Int} {τ : Nat → Int} (hx : o.1 = some (.inl x)) (h1 : lw_av as 1 = a1) (h2 : lw_av as 2 = a2) (h3 : lw_av as 3 = a3) (ho1 : sy_or (σ' 18588) (σ' 18589) (σ' 18590)) (ho2 : sy_or (σ' 18591) (σ' 18592) (σ' 18593)) (hW : lw_W ([(18537, 4, 255), (18538, 2, 255), (18590, 4, 255), (18593, 2, 255)], [(0, [(18537, (-1)), (1000000, 1)]), (0, [(18538, (-1)), (1000001, 1)]), ((-1), [(133, 1)]), (11, [(134, (-1))]), ((-1), [(19001, 1)]), (1, [(19001, (-1))]), ((-2), [(19002, 1)]), (2, [(19002, (-1))]), (0, [(19003, (-1))]), (0, [(1000000, 1), (1000002, (-1))]), (0, [(1000000, (-1)), (1000002, 1)]), (0, [(1000001, 1), (1000003, (-1))]), (0, [(1000001, (-1)), (1000003, 1)]), ((-1), [(19001, (-1)), (19002, 1)]), ((-1), [(133, 1), (19002, (-1))]), ((-1), [(133, 1), (19001, (-1))])], [(9, (0, [])), (134, (1, [(134, 1)])), (7048, ((-2), [])), (7049, ((-2), [])), (8069, (0, [])), (11396, ((-2), [])), (18537, (0, [(1000000, 1)])), (18538, (0, [(1000001, 1)])), (18588, (0, [(18537, 1)])), (18589, (4, [])), (18590, (0, [(1000002, 1)])), (18591, (0, [(18538, 1)])), (18592, (2, [])), (18593, (0, [(1000003, 1)])), (18594, (2, []))], some (false, (1, []))) as σ σ' τ o) : lw_ux_C a1 a2 a3 x.toInt σ σ' := by
  unfold lw_ux_C
  obtain ⟨hs, ht, hf, hr, hm, hw⟩ := hW
  have e1 : τ 19001 = a1 := by rw [ht 19001 (by decide) (by decide)]; exact h1
  have e2 : τ 19002 = a2 := by rw [ht 19002 (by decide) (by decide)]; exact h2
  have e3 : τ 19003 = a3 := by rw [ht 19003 (by decide) (by decide)]; exact h3
  rw [hx] at hr
  obtain ⟨y, hy, hv⟩ := hr
  cases hy
  replace hv : x.toInt = 1 + 0 := hv
  have f0 : 0 ≤ 0 + ((-1) * τ 18537 + (1 * τ 1000000 + 0)) := hf _ (List.Mem.head _)
  have f1 : 0 ≤ 0 + ((-1) * τ 18538 + (1 * τ 1000001 + 0)) := hf _ (List.Mem.tail _ (List.Mem.head _))
  have f2 : 0 ≤ (-1) + (1 * τ 133 + 0) := hf _ (List.Mem.tail _ (List.Mem.tail _ (List.Mem.head _)))
  have f3 : 0 ≤ 11 + ((-1) * τ 134 + 0) := hf _ (List.Mem.tail _ (List.Mem.tail _ (List.Mem.tail _ (List.Mem.head _))))
  have f4 : 0 ≤ (-1) + (1 * τ 19001 + 0) := hf _ (List.Mem.tail _ (List.Mem.tail _ (List.Mem.tail _ (List.Mem.tail _ (List.Mem.head _)))))
  have f5 : 0 ≤ 1 + ((-1) * τ 19001 + 0) := hf _ (List.Mem.tail _ (List.Mem.tail _ (List.Mem.tail _ (List.Mem.tail _ (List.Mem.tail _ (List.Mem.head _))))))
  have f6 : 0 ≤ (-2) + (1 * τ 19002 + 0) := hf _ (List.Mem.tail _ (List.Mem.tail _ (List.Mem.tail _ (List.Mem.tail _ (List.Mem.tail _ (List.Mem.tail _ (List.Mem.head _)))))))
  have f7 : 0 ≤ 2 + ((-1) * τ 19002 + 0) := hf _ (List.Mem.tail _ (List.Mem.tail _ (List.Mem.tail _ (List.Mem.tail _ (List.Mem.tail _ (List.Mem.tail _ (List.Mem.tail _ (List.Mem.head _))))))))
  have f8 : 0 ≤ 0 + ((-1) * τ 19003 + 0) := hf _ (List.Mem.tail _ (List.Mem.tail _ (List.Mem.tail _ (List.Mem.tail _ (List.Mem.tail _ (List.Mem.tail _ (List.Mem.tail _ (List.Mem.tail _ (List.Mem.head _)))))))))
  have f9 : 0 ≤ 0 + (1 * τ 1000000 + ((-1) * τ 1000002 + 0)) := hf _ (List.Mem.tail _ (List.Mem.tail _ (List.Mem.tail _ (List.Mem.tail _ (List.Mem.tail _ (List.Mem.tail _ (List.Mem.tail _ (List.Mem.tail _ (List.Mem.tail _ (List.Mem.head _))))))))))
  have f10 : 0 ≤ 0 + ((-1) * τ 1000000 + (1 * τ 1000002 + 0)) := hf _ (List.Mem.tail _ (List.Mem.tail _ (List.Mem.tail _ (List.Mem.tail _ (List.Mem.tail _ (List.Mem.tail _ (List.Mem.tail _ (List.Mem.tail _ (List.Mem.tail _ (List.Mem.tail _ (List.Mem.head _)))))))))))
  have f11 : 0 ≤ 0 + (1 * τ 1000001 + ((-1) * τ 1000003 + 0)) := hf _ (List.Mem.tail _ (List.Mem.tail _ (List.Mem.tail _ (List.Mem.tail _ (List.Mem.tail _ (List.Mem.tail _ (List.Mem.tail _ (List.Mem.tail _ (List.Mem.tail _ (List.Mem.tail _ (List.Mem.tail _ (List.Mem.head _))))))))))))
  have f12 : 0 ≤ 0 + ((-1) * τ 1000001 + (1 * τ 1000003 + 0)) := hf _ (List.Mem.tail _ (List.Mem.tail _ (List.Mem.tail _ (List.Mem.tail _ (List.Mem.tail _ (List.Mem.tail _ (List.Mem.tail _ (List.Mem.tail _ (List.Mem.tail _ (List.Mem.tail _ (List.Mem.tail _ (List.Mem.tail _ (List.Mem.head _)))))))))))))
  have f13 : 0 ≤ (-1) + ((-1) * τ 19001 + (1 * τ 19002 + 0)) := hf _ (List.Mem.tail _ (List.Mem.tail _ (List.Mem.tail _ (List.Mem.tail _ (List.Mem.tail _ (List.Mem.tail _ (List.Mem.tail _ (List.Mem.tail _ (List.Mem.tail _ (List.Mem.tail _ (List.Mem.tail _ (List.Mem.tail _ (List.Mem.tail _ (List.Mem.head _))))))))))))))
  have f14 : 0 ≤ (-1) + (1 * τ 133 + ((-1) * τ 19002 + 0)) := hf _ (List.Mem.tail _ (List.Mem.tail _ (List.Mem.tail _ (List.Mem.tail _ (List.Mem.tail _ (List.Mem.tail _ (List.Mem.tail _ (List.Mem.tail _ (List.Mem.tail _ (List.Mem.tail _ (List.Mem.tail _ (List.Mem.tail _ (List.Mem.tail _ (List.Mem.tail _ (List.Mem.head _)))))))))))))))
  have f15 : 0 ≤ (-1) + (1 * τ 133 + ((-1) * τ 19001 + 0)) := hf _ (List.Mem.tail _ (List.Mem.tail _ (List.Mem.tail _ (List.Mem.tail _ (List.Mem.tail _ (List.Mem.tail _ (List.Mem.tail _ (List.Mem.tail _ (List.Mem.tail _ (List.Mem.tail _ (List.Mem.tail _ (List.Mem.tail _ (List.Mem.tail _ (List.Mem.tail _ (List.Mem.tail _ (List.Mem.head _))))))))))))))))
  have mX1 : σ' 18588 = σ 18537 := lw_id (hs 18537 (by decide)) (hm 18588 (by decide))
  have mY1 : σ' 18589 = 4 := (hm 18589 (by decide)).trans rfl
  have mO1 : σ' 18590 = 0 + (1 * τ 1000002 + 0) := hm 18590 (by decide)
  have mA1 : σ' 18537 = 0 + (1 * τ 1000000 + 0) := hm 18537 (by decide)
  unfold sy_or at ho1
  rw [mX1, mY1, show (4 : Int).toNat = 2 ^ 2 from rfl] at ho1
  have mX2 : σ' 18591 = σ 18538 := lw_id (hs 18538 (by decide)) (hm 18591 (by decide))
  have mY2 : σ' 18592 = 2 := (hm 18592 (by decide)).trans rfl
  have mO2 : σ' 18593 = 0 + (1 * τ 1000003 + 0) := hm 18593 (by decide)
  have mA2 : σ' 18538 = 0 + (1 * τ 1000001 + 0) := hm 18538 (by decide)
  unfold sy_or at ho2
  rw [mX2, mY2, show (2 : Int).toNat = 2 ^ 1 from rfl] at ho2
  have ti : lw_ti a1.toNat a2.toNat (fun p => σ (18536 + p)) (fun p => σ' (18536 + p)) := by
    rw [show a1.toNat = 1 by omega, show a2.toNat = 2 by omega]
    intro p hp
    rcases (show p = 0 ∨ p = 1 ∨ p = 2 ∨ p = 3 ∨ p = 4 ∨ p = 5 ∨ p = 6 ∨ p = 7 by omega) with rfl | rfl | rfl | rfl | rfl | rfl | rfl | rfl
    · show σ' 18536 = if (0 : Nat) = 1 then _ else if (0 : Nat) = 2 then _ else _
      rw [if_neg (by decide), if_neg (by decide)]
      exact lw_id (hs _ (by decide)) (hm _ (by decide))
    · show σ' 18537 = if (1 : Nat) = 1 then _ else _
      rw [if_pos rfl]
      show σ' 18537 = (((σ 18537).toNat ||| 2 ^ 2 : Nat) : Int)
      omega
    · show σ' 18538 = if (2 : Nat) = 1 then _ else if (2 : Nat) = 2 then _ else _
      rw [if_neg (by decide), if_pos rfl]
      show σ' 18538 = (((σ 18538).toNat ||| 2 ^ 1 : Nat) : Int)
      omega
    · show σ' 18539 = if (3 : Nat) = 1 then _ else if (3 : Nat) = 2 then _ else _
      rw [if_neg (by decide), if_neg (by decide)]
      exact lw_id (hs _ (by decide)) (hm _ (by decide))
    · show σ' 18540 = if (4 : Nat) = 1 then _ else if (4 : Nat) = 2 then _ else _
      rw [if_neg (by decide), if_neg (by decide)]
      exact lw_id (hs _ (by decide)) (hm _ (by decide))
    · show σ' 18541 = if (5 : Nat) = 1 then _ else if (5 : Nat) = 2 then _ else _
      rw [if_neg (by decide), if_neg (by decide)]
      exact lw_id (hs _ (by decide)) (hm _ (by decide))
    · show σ' 18542 = if (6 : Nat) = 1 then _ else if (6 : Nat) = 2 then _ else _
      rw [if_neg (by decide), if_neg (by decide)]
      exact lw_id (hs _ (by decide)) (hm _ (by decide))
    · show σ' 18543 = if (7 : Nat) = 1 then _ else if (7 : Nat) = 2 then _ else _
      rw [if_neg (by decide), if_neg (by decide)]
      exact lw_id (hs _ (by decide)) (hm _ (by decide))
  exact Or.inl ⟨by omega, by omega, by omega, by omega, by omega, Or.inr ⟨by omega, ti, (fun p hp => (by rcases (show p = 0 ∨ p = 1 ∨ p = 2 ∨ p = 3 ∨ p = 4 ∨ p = 5 ∨ p = 6 ∨ p = 7 by omega) with rfl | rfl | rfl | rfl | rfl | rfl | rfl | rfl <;> exact lw_id (hs _ (by decide)) (hm _ (by decide))))⟩⟩
