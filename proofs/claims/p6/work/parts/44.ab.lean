theorem lw_px_17 {as : List rv_A} {σ σ' : Nat → Int} {o : rv_O} {x : Int32} {a1 a2 a3 a4 a5 : Int} {τ : Nat → Int} (hx : o.1 = some (.inl x)) (h1 : lw_av as 1 = a1) (h2 : lw_av as 2 = a2) (h3 : lw_av as 3 = a3) (h4 : lw_av as 4 = a4) (h5 : lw_av as 5 = a5) (hb : ∀ s, (sx_sr s).1 ≤ σ s ∧ σ s ≤ (sx_sr s).2) (hW : lw_W ([], [(0, [(5377, 1)]), (2, [(5377, (-1))]), ((-1), [(5889, 1)]), ((-2), [(19001, 1)]), (2, [(19001, (-1))]), (0, [(19002, 1)]), (0, [(19003, 1)]), (0, [(19003, (-1))]), (0, [(19004, 1)]), (0, [(19005, 1)]), ((-1), [(5377, (-1)), (5889, 1)])], [(9, (8, []))], some (false, (0, []))) as σ σ' τ o) : lw_px_C a1 a2 a3 a4 a5 x.toInt σ σ' := by
  unfold lw_px_C
  have b5377 : (-1) ≤ σ 5377 ∧ σ 5377 ≤ 3 := by
    have h0 := hb 5377
    rw [show sx_sr 5377 = ((-1), 3) from by decide +kernel] at h0
    exact h0
  have b5633 : (-1) ≤ σ 5633 ∧ σ 5633 ≤ 3 := by
    have h0 := hb 5633
    rw [show sx_sr 5633 = ((-1), 3) from by decide +kernel] at h0
    exact h0
  have b5889 : (-1) ≤ σ 5889 ∧ σ 5889 ≤ 3 := by
    have h0 := hb 5889
    rw [show sx_sr 5889 = ((-1), 3) from by decide +kernel] at h0
    exact h0
  have b6145 : (-1) ≤ σ 6145 ∧ σ 6145 ≤ 3 := by
    have h0 := hb 6145
    rw [show sx_sr 6145 = ((-1), 3) from by decide +kernel] at h0
    exact h0
  have b5378 : 0 ≤ σ 5378 ∧ σ 5378 ≤ 60 := by
    have h0 := hb 5378
    rw [show sx_sr 5378 = (0, 60) from by decide +kernel] at h0
    exact h0
  have b5634 : 0 ≤ σ 5634 ∧ σ 5634 ≤ 60 := by
    have h0 := hb 5634
    rw [show sx_sr 5634 = (0, 60) from by decide +kernel] at h0
    exact h0
  have b5890 : 0 ≤ σ 5890 ∧ σ 5890 ≤ 60 := by
    have h0 := hb 5890
    rw [show sx_sr 5890 = (0, 60) from by decide +kernel] at h0
    exact h0
  have b6146 : 0 ≤ σ 6146 ∧ σ 6146 ≤ 60 := by
    have h0 := hb 6146
    rw [show sx_sr 6146 = (0, 60) from by decide +kernel] at h0
    exact h0
  obtain ⟨hs, ht, hf, hr, hm, hw⟩ := hW
  have e1 : τ 19001 = a1 := by rw [ht 19001 (by decide) (by decide)]; exact h1
  have e2 : τ 19002 = a2 := by rw [ht 19002 (by decide) (by decide)]; exact h2
  have e3 : τ 19003 = a3 := by rw [ht 19003 (by decide) (by decide)]; exact h3
  have e4 : τ 19004 = a4 := by rw [ht 19004 (by decide) (by decide)]; exact h4
  have e5 : τ 19005 = a5 := by rw [ht 19005 (by decide) (by decide)]; exact h5
  have s5377 : τ 5377 = σ 5377 := hs 5377 (by decide)
  have s5378 : τ 5378 = σ 5378 := hs 5378 (by decide)
  have s5633 : τ 5633 = σ 5633 := hs 5633 (by decide)
  have s5634 : τ 5634 = σ 5634 := hs 5634 (by decide)
  have s5889 : τ 5889 = σ 5889 := hs 5889 (by decide)
  have s5890 : τ 5890 = σ 5890 := hs 5890 (by decide)
  have s6145 : τ 6145 = σ 6145 := hs 6145 (by decide)
  have s6146 : τ 6146 = σ 6146 := hs 6146 (by decide)
  clear hs ht hb
  rw [hx] at hr
  obtain ⟨y, hy, hv⟩ := hr
  cases hy
  replace hv : x.toInt = 0 + 0 := hv
  have f0 : 0 ≤ 0 + (1 * τ 5377 + 0) := hf _ (List.Mem.head _)
  have f1 : 0 ≤ 2 + ((-1) * τ 5377 + 0) := hf _ (List.Mem.tail _ (List.Mem.head _))
  have f2 : 0 ≤ (-1) + (1 * τ 5889 + 0) := hf _ (List.Mem.tail _ (List.Mem.tail _ (List.Mem.head _)))
  have f3 : 0 ≤ (-2) + (1 * τ 19001 + 0) := hf _ (List.Mem.tail _ (List.Mem.tail _ (List.Mem.tail _ (List.Mem.head _))))
  have f4 : 0 ≤ 2 + ((-1) * τ 19001 + 0) := hf _ (List.Mem.tail _ (List.Mem.tail _ (List.Mem.tail _ (List.Mem.tail _ (List.Mem.head _)))))
  have f5 : 0 ≤ 0 + (1 * τ 19002 + 0) := hf _ (List.Mem.tail _ (List.Mem.tail _ (List.Mem.tail _ (List.Mem.tail _ (List.Mem.tail _ (List.Mem.head _))))))
  have f6 : 0 ≤ 0 + (1 * τ 19003 + 0) := hf _ (List.Mem.tail _ (List.Mem.tail _ (List.Mem.tail _ (List.Mem.tail _ (List.Mem.tail _ (List.Mem.tail _ (List.Mem.head _)))))))
  have f7 : 0 ≤ 0 + ((-1) * τ 19003 + 0) := hf _ (List.Mem.tail _ (List.Mem.tail _ (List.Mem.tail _ (List.Mem.tail _ (List.Mem.tail _ (List.Mem.tail _ (List.Mem.tail _ (List.Mem.head _))))))))
  have f8 : 0 ≤ 0 + (1 * τ 19004 + 0) := hf _ (List.Mem.tail _ (List.Mem.tail _ (List.Mem.tail _ (List.Mem.tail _ (List.Mem.tail _ (List.Mem.tail _ (List.Mem.tail _ (List.Mem.tail _ (List.Mem.head _)))))))))
  have f9 : 0 ≤ 0 + (1 * τ 19005 + 0) := hf _ (List.Mem.tail _ (List.Mem.tail _ (List.Mem.tail _ (List.Mem.tail _ (List.Mem.tail _ (List.Mem.tail _ (List.Mem.tail _ (List.Mem.tail _ (List.Mem.tail _ (List.Mem.head _))))))))))
  have f10 : 0 ≤ (-1) + ((-1) * τ 5377 + (1 * τ 5889 + 0)) := hf _ (List.Mem.tail _ (List.Mem.tail _ (List.Mem.tail _ (List.Mem.tail _ (List.Mem.tail _ (List.Mem.tail _ (List.Mem.tail _ (List.Mem.tail _ (List.Mem.tail _ (List.Mem.tail _ (List.Mem.head _)))))))))))
  clear hf hm
  have ej : a1 = 2 := by omega
  subst ej
  have ek : a3 = 0 := by omega
  subst ek
  simp only [lw_sel0, lw_sel1, lw_sel2, lw_sel3]
  refine Or.inr ⟨by omega, fun h => ?_⟩
  obtain ⟨z0, z1, z2, z3, z4, z5, z6, z7, z8, z9, z10, z11⟩ := h
  omega
theorem lw_px_18 {as : List rv_A} {σ σ' : Nat → Int} {o : rv_O} {x : Int32} {a1 a2 a3 a4 a5 : Int} {τ : Nat → Int} (hx : o.1 = some (.inl x)) (h1 : lw_av as 1 = a1) (h2 : lw_av as 2 = a2) (h3 : lw_av as 3 = a3) (h4 : lw_av as 4 = a4) (h5 : lw_av as 5 = a5) (hb : ∀ s, (sx_sr s).1 ≤ σ s ∧ σ s ≤ (sx_sr s).2) (hW : lw_W ([], [(0, [(5377, 1)]), (2, [(5377, (-1))]), ((-1), [(6145, 1)]), (0, [(19001, 1)]), (0, [(19001, (-1))]), (0, [(19002, 1)]), ((-3), [(19003, 1)]), (3, [(19003, (-1))]), (0, [(19004, 1)]), (0, [(19005, 1)]), ((-1), [(5377, (-1)), (6145, 1)])], [(9, (8, []))], some (false, (0, []))) as σ σ' τ o) : lw_px_C a1 a2 a3 a4 a5 x.toInt σ σ' := by
  unfold lw_px_C
  have b5377 : (-1) ≤ σ 5377 ∧ σ 5377 ≤ 3 := by
    have h0 := hb 5377
    rw [show sx_sr 5377 = ((-1), 3) from by decide +kernel] at h0
    exact h0
  have b5633 : (-1) ≤ σ 5633 ∧ σ 5633 ≤ 3 := by
    have h0 := hb 5633
    rw [show sx_sr 5633 = ((-1), 3) from by decide +kernel] at h0
    exact h0
  have b5889 : (-1) ≤ σ 5889 ∧ σ 5889 ≤ 3 := by
    have h0 := hb 5889
    rw [show sx_sr 5889 = ((-1), 3) from by decide +kernel] at h0
    exact h0
  have b6145 : (-1) ≤ σ 6145 ∧ σ 6145 ≤ 3 := by
    have h0 := hb 6145
    rw [show sx_sr 6145 = ((-1), 3) from by decide +kernel] at h0
    exact h0
  have b5378 : 0 ≤ σ 5378 ∧ σ 5378 ≤ 60 := by
    have h0 := hb 5378
    rw [show sx_sr 5378 = (0, 60) from by decide +kernel] at h0
    exact h0
  have b5634 : 0 ≤ σ 5634 ∧ σ 5634 ≤ 60 := by
    have h0 := hb 5634
    rw [show sx_sr 5634 = (0, 60) from by decide +kernel] at h0
    exact h0
  have b5890 : 0 ≤ σ 5890 ∧ σ 5890 ≤ 60 := by
    have h0 := hb 5890
    rw [show sx_sr 5890 = (0, 60) from by decide +kernel] at h0
    exact h0
  have b6146 : 0 ≤ σ 6146 ∧ σ 6146 ≤ 60 := by
    have h0 := hb 6146
    rw [show sx_sr 6146 = (0, 60) from by decide +kernel] at h0
    exact h0
  obtain ⟨hs, ht, hf, hr, hm, hw⟩ := hW
  have e1 : τ 19001 = a1 := by rw [ht 19001 (by decide) (by decide)]; exact h1
  have e2 : τ 19002 = a2 := by rw [ht 19002 (by decide) (by decide)]; exact h2
  have e3 : τ 19003 = a3 := by rw [ht 19003 (by decide) (by decide)]; exact h3
  have e4 : τ 19004 = a4 := by rw [ht 19004 (by decide) (by decide)]; exact h4
  have e5 : τ 19005 = a5 := by rw [ht 19005 (by decide) (by decide)]; exact h5
  have s5377 : τ 5377 = σ 5377 := hs 5377 (by decide)
  have s5378 : τ 5378 = σ 5378 := hs 5378 (by decide)
  have s5633 : τ 5633 = σ 5633 := hs 5633 (by decide)
  have s5634 : τ 5634 = σ 5634 := hs 5634 (by decide)
  have s5889 : τ 5889 = σ 5889 := hs 5889 (by decide)
  have s5890 : τ 5890 = σ 5890 := hs 5890 (by decide)
  have s6145 : τ 6145 = σ 6145 := hs 6145 (by decide)
  have s6146 : τ 6146 = σ 6146 := hs 6146 (by decide)
  clear hs ht hb
  rw [hx] at hr
  obtain ⟨y, hy, hv⟩ := hr
  cases hy
  replace hv : x.toInt = 0 + 0 := hv
  have f0 : 0 ≤ 0 + (1 * τ 5377 + 0) := hf _ (List.Mem.head _)
  have f1 : 0 ≤ 2 + ((-1) * τ 5377 + 0) := hf _ (List.Mem.tail _ (List.Mem.head _))
  have f2 : 0 ≤ (-1) + (1 * τ 6145 + 0) := hf _ (List.Mem.tail _ (List.Mem.tail _ (List.Mem.head _)))
  have f3 : 0 ≤ 0 + (1 * τ 19001 + 0) := hf _ (List.Mem.tail _ (List.Mem.tail _ (List.Mem.tail _ (List.Mem.head _))))
  have f4 : 0 ≤ 0 + ((-1) * τ 19001 + 0) := hf _ (List.Mem.tail _ (List.Mem.tail _ (List.Mem.tail _ (List.Mem.tail _ (List.Mem.head _)))))
  have f5 : 0 ≤ 0 + (1 * τ 19002 + 0) := hf _ (List.Mem.tail _ (List.Mem.tail _ (List.Mem.tail _ (List.Mem.tail _ (List.Mem.tail _ (List.Mem.head _))))))
  have f6 : 0 ≤ (-3) + (1 * τ 19003 + 0) := hf _ (List.Mem.tail _ (List.Mem.tail _ (List.Mem.tail _ (List.Mem.tail _ (List.Mem.tail _ (List.Mem.tail _ (List.Mem.head _)))))))
  have f7 : 0 ≤ 3 + ((-1) * τ 19003 + 0) := hf _ (List.Mem.tail _ (List.Mem.tail _ (List.Mem.tail _ (List.Mem.tail _ (List.Mem.tail _ (List.Mem.tail _ (List.Mem.tail _ (List.Mem.head _))))))))
  have f8 : 0 ≤ 0 + (1 * τ 19004 + 0) := hf _ (List.Mem.tail _ (List.Mem.tail _ (List.Mem.tail _ (List.Mem.tail _ (List.Mem.tail _ (List.Mem.tail _ (List.Mem.tail _ (List.Mem.tail _ (List.Mem.head _)))))))))
  have f9 : 0 ≤ 0 + (1 * τ 19005 + 0) := hf _ (List.Mem.tail _ (List.Mem.tail _ (List.Mem.tail _ (List.Mem.tail _ (List.Mem.tail _ (List.Mem.tail _ (List.Mem.tail _ (List.Mem.tail _ (List.Mem.tail _ (List.Mem.head _))))))))))
  have f10 : 0 ≤ (-1) + ((-1) * τ 5377 + (1 * τ 6145 + 0)) := hf _ (List.Mem.tail _ (List.Mem.tail _ (List.Mem.tail _ (List.Mem.tail _ (List.Mem.tail _ (List.Mem.tail _ (List.Mem.tail _ (List.Mem.tail _ (List.Mem.tail _ (List.Mem.tail _ (List.Mem.head _)))))))))))
  clear hf hm
  have ej : a1 = 0 := by omega
  subst ej
  have ek : a3 = 3 := by omega
  subst ek
  simp only [lw_sel0, lw_sel1, lw_sel2, lw_sel3]
  refine Or.inr ⟨by omega, fun h => ?_⟩
  obtain ⟨z0, z1, z2, z3, z4, z5, z6, z7, z8, z9, z10, z11⟩ := h
  omega
theorem lw_px_19 {as : List rv_A} {σ σ' : Nat → Int} {o : rv_O} {x : Int32} {a1 a2 a3 a4 a5 : Int} {τ : Nat → Int} (hx : o.1 = some (.inl x)) (h1 : lw_av as 1 = a1) (h2 : lw_av as 2 = a2) (h3 : lw_av as 3 = a3) (h4 : lw_av as 4 = a4) (h5 : lw_av as 5 = a5) (hb : ∀ s, (sx_sr s).1 ≤ σ s ∧ σ s ≤ (sx_sr s).2) (hW : lw_W ([], [(0, [(5377, 1)]), (2, [(5377, (-1))]), ((-1), [(6145, 1)]), ((-3), [(19001, 1)]), (3, [(19001, (-1))]), (0, [(19002, 1)]), (0, [(19003, 1)]), (0, [(19003, (-1))]), (0, [(19004, 1)]), (0, [(19005, 1)]), ((-1), [(5377, (-1)), (6145, 1)])], [(9, (8, []))], some (false, (0, []))) as σ σ' τ o) : lw_px_C a1 a2 a3 a4 a5 x.toInt σ σ' := by
  unfold lw_px_C
  have b5377 : (-1) ≤ σ 5377 ∧ σ 5377 ≤ 3 := by
    have h0 := hb 5377
    rw [show sx_sr 5377 = ((-1), 3) from by decide +kernel] at h0
    exact h0
  have b5633 : (-1) ≤ σ 5633 ∧ σ 5633 ≤ 3 := by
    have h0 := hb 5633
    rw [show sx_sr 5633 = ((-1), 3) from by decide +kernel] at h0
    exact h0
  have b5889 : (-1) ≤ σ 5889 ∧ σ 5889 ≤ 3 := by
    have h0 := hb 5889
    rw [show sx_sr 5889 = ((-1), 3) from by decide +kernel] at h0
    exact h0
  have b6145 : (-1) ≤ σ 6145 ∧ σ 6145 ≤ 3 := by
    have h0 := hb 6145
    rw [show sx_sr 6145 = ((-1), 3) from by decide +kernel] at h0
    exact h0
  have b5378 : 0 ≤ σ 5378 ∧ σ 5378 ≤ 60 := by
    have h0 := hb 5378
    rw [show sx_sr 5378 = (0, 60) from by decide +kernel] at h0
    exact h0
  have b5634 : 0 ≤ σ 5634 ∧ σ 5634 ≤ 60 := by
    have h0 := hb 5634
    rw [show sx_sr 5634 = (0, 60) from by decide +kernel] at h0
    exact h0
  have b5890 : 0 ≤ σ 5890 ∧ σ 5890 ≤ 60 := by
    have h0 := hb 5890
    rw [show sx_sr 5890 = (0, 60) from by decide +kernel] at h0
    exact h0
  have b6146 : 0 ≤ σ 6146 ∧ σ 6146 ≤ 60 := by
    have h0 := hb 6146
    rw [show sx_sr 6146 = (0, 60) from by decide +kernel] at h0
    exact h0
  obtain ⟨hs, ht, hf, hr, hm, hw⟩ := hW
  have e1 : τ 19001 = a1 := by rw [ht 19001 (by decide) (by decide)]; exact h1
  have e2 : τ 19002 = a2 := by rw [ht 19002 (by decide) (by decide)]; exact h2
  have e3 : τ 19003 = a3 := by rw [ht 19003 (by decide) (by decide)]; exact h3
  have e4 : τ 19004 = a4 := by rw [ht 19004 (by decide) (by decide)]; exact h4
  have e5 : τ 19005 = a5 := by rw [ht 19005 (by decide) (by decide)]; exact h5
  have s5377 : τ 5377 = σ 5377 := hs 5377 (by decide)
  have s5378 : τ 5378 = σ 5378 := hs 5378 (by decide)
  have s5633 : τ 5633 = σ 5633 := hs 5633 (by decide)
  have s5634 : τ 5634 = σ 5634 := hs 5634 (by decide)
  have s5889 : τ 5889 = σ 5889 := hs 5889 (by decide)
  have s5890 : τ 5890 = σ 5890 := hs 5890 (by decide)
  have s6145 : τ 6145 = σ 6145 := hs 6145 (by decide)
  have s6146 : τ 6146 = σ 6146 := hs 6146 (by decide)
  clear hs ht hb
  rw [hx] at hr
  obtain ⟨y, hy, hv⟩ := hr
  cases hy
  replace hv : x.toInt = 0 + 0 := hv
  have f0 : 0 ≤ 0 + (1 * τ 5377 + 0) := hf _ (List.Mem.head _)
  have f1 : 0 ≤ 2 + ((-1) * τ 5377 + 0) := hf _ (List.Mem.tail _ (List.Mem.head _))
  have f2 : 0 ≤ (-1) + (1 * τ 6145 + 0) := hf _ (List.Mem.tail _ (List.Mem.tail _ (List.Mem.head _)))
  have f3 : 0 ≤ (-3) + (1 * τ 19001 + 0) := hf _ (List.Mem.tail _ (List.Mem.tail _ (List.Mem.tail _ (List.Mem.head _))))
  have f4 : 0 ≤ 3 + ((-1) * τ 19001 + 0) := hf _ (List.Mem.tail _ (List.Mem.tail _ (List.Mem.tail _ (List.Mem.tail _ (List.Mem.head _)))))
  have f5 : 0 ≤ 0 + (1 * τ 19002 + 0) := hf _ (List.Mem.tail _ (List.Mem.tail _ (List.Mem.tail _ (List.Mem.tail _ (List.Mem.tail _ (List.Mem.head _))))))
  have f6 : 0 ≤ 0 + (1 * τ 19003 + 0) := hf _ (List.Mem.tail _ (List.Mem.tail _ (List.Mem.tail _ (List.Mem.tail _ (List.Mem.tail _ (List.Mem.tail _ (List.Mem.head _)))))))
  have f7 : 0 ≤ 0 + ((-1) * τ 19003 + 0) := hf _ (List.Mem.tail _ (List.Mem.tail _ (List.Mem.tail _ (List.Mem.tail _ (List.Mem.tail _ (List.Mem.tail _ (List.Mem.tail _ (List.Mem.head _))))))))
  have f8 : 0 ≤ 0 + (1 * τ 19004 + 0) := hf _ (List.Mem.tail _ (List.Mem.tail _ (List.Mem.tail _ (List.Mem.tail _ (List.Mem.tail _ (List.Mem.tail _ (List.Mem.tail _ (List.Mem.tail _ (List.Mem.head _)))))))))
  have f9 : 0 ≤ 0 + (1 * τ 19005 + 0) := hf _ (List.Mem.tail _ (List.Mem.tail _ (List.Mem.tail _ (List.Mem.tail _ (List.Mem.tail _ (List.Mem.tail _ (List.Mem.tail _ (List.Mem.tail _ (List.Mem.tail _ (List.Mem.head _))))))))))
  have f10 : 0 ≤ (-1) + ((-1) * τ 5377 + (1 * τ 6145 + 0)) := hf _ (List.Mem.tail _ (List.Mem.tail _ (List.Mem.tail _ (List.Mem.tail _ (List.Mem.tail _ (List.Mem.tail _ (List.Mem.tail _ (List.Mem.tail _ (List.Mem.tail _ (List.Mem.tail _ (List.Mem.head _)))))))))))
  clear hf hm
  have ej : a1 = 3 := by omega
  subst ej
  have ek : a3 = 0 := by omega
  subst ek
  simp only [lw_sel0, lw_sel1, lw_sel2, lw_sel3]
  refine Or.inr ⟨by omega, fun h => ?_⟩
  obtain ⟨z0, z1, z2, z3, z4, z5, z6, z7, z8, z9, z10, z11⟩ := h
  omega
theorem lw_px_20 {as : List rv_A} {σ σ' : Nat → Int} {o : rv_O} {x : Int32} {a1 a2 a3 a4 a5 : Int} {τ : Nat → Int} (hx : o.1 = some (.inl x)) (h1 : lw_av as 1 = a1) (h2 : lw_av as 2 = a2) (h3 : lw_av as 3 = a3) (h4 : lw_av as 4 = a4) (h5 : lw_av as 5 = a5) (hb : ∀ s, (sx_sr s).1 ≤ σ s ∧ σ s ≤ (sx_sr s).2) (hW : lw_W ([], [(0, [(5377, 1)]), (0, [(19001, 1)]), (0, [(19001, (-1))]), (0, [(19002, 1)]), (0, [(19003, 1)]), (0, [(19003, (-1))]), (0, [(19004, 1)]), (0, [(19005, 1)]), ((-1), [(5378, (-1)), (19002, 1), (19005, 1)])], [(9, (3, []))], some (false, (0, []))) as σ σ' τ o) : lw_px_C a1 a2 a3 a4 a5 x.toInt σ σ' := by
  unfold lw_px_C
  have b5377 : (-1) ≤ σ 5377 ∧ σ 5377 ≤ 3 := by
    have h0 := hb 5377
    rw [show sx_sr 5377 = ((-1), 3) from by decide +kernel] at h0
    exact h0
  have b5633 : (-1) ≤ σ 5633 ∧ σ 5633 ≤ 3 := by
    have h0 := hb 5633
    rw [show sx_sr 5633 = ((-1), 3) from by decide +kernel] at h0
    exact h0
  have b5889 : (-1) ≤ σ 5889 ∧ σ 5889 ≤ 3 := by
    have h0 := hb 5889
    rw [show sx_sr 5889 = ((-1), 3) from by decide +kernel] at h0
    exact h0
  have b6145 : (-1) ≤ σ 6145 ∧ σ 6145 ≤ 3 := by
    have h0 := hb 6145
    rw [show sx_sr 6145 = ((-1), 3) from by decide +kernel] at h0
    exact h0
  have b5378 : 0 ≤ σ 5378 ∧ σ 5378 ≤ 60 := by
    have h0 := hb 5378
    rw [show sx_sr 5378 = (0, 60) from by decide +kernel] at h0
    exact h0
  have b5634 : 0 ≤ σ 5634 ∧ σ 5634 ≤ 60 := by
    have h0 := hb 5634
    rw [show sx_sr 5634 = (0, 60) from by decide +kernel] at h0
    exact h0
  have b5890 : 0 ≤ σ 5890 ∧ σ 5890 ≤ 60 := by
    have h0 := hb 5890
    rw [show sx_sr 5890 = (0, 60) from by decide +kernel] at h0
    exact h0
  have b6146 : 0 ≤ σ 6146 ∧ σ 6146 ≤ 60 := by
    have h0 := hb 6146
    rw [show sx_sr 6146 = (0, 60) from by decide +kernel] at h0
    exact h0
  obtain ⟨hs, ht, hf, hr, hm, hw⟩ := hW
  have e1 : τ 19001 = a1 := by rw [ht 19001 (by decide) (by decide)]; exact h1
  have e2 : τ 19002 = a2 := by rw [ht 19002 (by decide) (by decide)]; exact h2
  have e3 : τ 19003 = a3 := by rw [ht 19003 (by decide) (by decide)]; exact h3
  have e4 : τ 19004 = a4 := by rw [ht 19004 (by decide) (by decide)]; exact h4
  have e5 : τ 19005 = a5 := by rw [ht 19005 (by decide) (by decide)]; exact h5
  have s5377 : τ 5377 = σ 5377 := hs 5377 (by decide)
  have s5378 : τ 5378 = σ 5378 := hs 5378 (by decide)
  have s5633 : τ 5633 = σ 5633 := hs 5633 (by decide)
  have s5634 : τ 5634 = σ 5634 := hs 5634 (by decide)
  have s5889 : τ 5889 = σ 5889 := hs 5889 (by decide)
  have s5890 : τ 5890 = σ 5890 := hs 5890 (by decide)
  have s6145 : τ 6145 = σ 6145 := hs 6145 (by decide)
  have s6146 : τ 6146 = σ 6146 := hs 6146 (by decide)
  clear hs ht hb
  rw [hx] at hr
  obtain ⟨y, hy, hv⟩ := hr
  cases hy
  replace hv : x.toInt = 0 + 0 := hv
  have f0 : 0 ≤ 0 + (1 * τ 5377 + 0) := hf _ (List.Mem.head _)
  have f1 : 0 ≤ 0 + (1 * τ 19001 + 0) := hf _ (List.Mem.tail _ (List.Mem.head _))
  have f2 : 0 ≤ 0 + ((-1) * τ 19001 + 0) := hf _ (List.Mem.tail _ (List.Mem.tail _ (List.Mem.head _)))
  have f3 : 0 ≤ 0 + (1 * τ 19002 + 0) := hf _ (List.Mem.tail _ (List.Mem.tail _ (List.Mem.tail _ (List.Mem.head _))))
  have f4 : 0 ≤ 0 + (1 * τ 19003 + 0) := hf _ (List.Mem.tail _ (List.Mem.tail _ (List.Mem.tail _ (List.Mem.tail _ (List.Mem.head _)))))
  have f5 : 0 ≤ 0 + ((-1) * τ 19003 + 0) := hf _ (List.Mem.tail _ (List.Mem.tail _ (List.Mem.tail _ (List.Mem.tail _ (List.Mem.tail _ (List.Mem.head _))))))
  have f6 : 0 ≤ 0 + (1 * τ 19004 + 0) := hf _ (List.Mem.tail _ (List.Mem.tail _ (List.Mem.tail _ (List.Mem.tail _ (List.Mem.tail _ (List.Mem.tail _ (List.Mem.head _)))))))
  have f7 : 0 ≤ 0 + (1 * τ 19005 + 0) := hf _ (List.Mem.tail _ (List.Mem.tail _ (List.Mem.tail _ (List.Mem.tail _ (List.Mem.tail _ (List.Mem.tail _ (List.Mem.tail _ (List.Mem.head _))))))))
  have f8 : 0 ≤ (-1) + ((-1) * τ 5378 + (1 * τ 19002 + (1 * τ 19005 + 0))) := hf _ (List.Mem.tail _ (List.Mem.tail _ (List.Mem.tail _ (List.Mem.tail _ (List.Mem.tail _ (List.Mem.tail _ (List.Mem.tail _ (List.Mem.tail _ (List.Mem.head _)))))))))
  clear hf hm
  have ej : a1 = 0 := by omega
  subst ej
  have ek : a3 = 0 := by omega
  subst ek
  simp only [lw_sel0, lw_sel1, lw_sel2, lw_sel3]
  refine Or.inr ⟨by omega, fun h => ?_⟩
  obtain ⟨z0, z1, z2, z3, z4, z5, z6, z7, z8, z9, z10, z11⟩ := h
  omega
theorem lw_px_21 {as : List rv_A} {σ σ' : Nat → Int} {o : rv_O} {x : Int32} {a1 a2 a3 a4 a5 : Int} {τ : Nat → Int} (hx : o.1 = some (.inl x)) (h1 : lw_av as 1 = a1) (h2 : lw_av as 2 = a2) (h3 : lw_av as 3 = a3) (h4 : lw_av as 4 = a4) (h5 : lw_av as 5 = a5) (hb : ∀ s, (sx_sr s).1 ≤ σ s ∧ σ s ≤ (sx_sr s).2) (hW : lw_W ([], [(0, [(5377, 1)]), (0, [(19001, 1)]), (0, [(19001, (-1))]), (0, [(19002, 1)]), (60, [(19002, (-1))]), (0, [(19003, 1)]), (0, [(19003, (-1))]), (0, [(19004, 1)]), (0, [(19005, 1)]), (60, [(19005, (-1))]), ((-1), [(5378, (-1)), (19004, 1), (19005, 1)]), (0, [(5378, 1), (19002, (-1)), (19005, (-1))])], [(9, (3, []))], some (false, (0, []))) as σ σ' τ o) : lw_px_C a1 a2 a3 a4 a5 x.toInt σ σ' := by
  unfold lw_px_C
  have b5377 : (-1) ≤ σ 5377 ∧ σ 5377 ≤ 3 := by
    have h0 := hb 5377
    rw [show sx_sr 5377 = ((-1), 3) from by decide +kernel] at h0
    exact h0
  have b5633 : (-1) ≤ σ 5633 ∧ σ 5633 ≤ 3 := by
    have h0 := hb 5633
    rw [show sx_sr 5633 = ((-1), 3) from by decide +kernel] at h0
    exact h0
  have b5889 : (-1) ≤ σ 5889 ∧ σ 5889 ≤ 3 := by
    have h0 := hb 5889
    rw [show sx_sr 5889 = ((-1), 3) from by decide +kernel] at h0
    exact h0
  have b6145 : (-1) ≤ σ 6145 ∧ σ 6145 ≤ 3 := by
    have h0 := hb 6145
    rw [show sx_sr 6145 = ((-1), 3) from by decide +kernel] at h0
    exact h0
  have b5378 : 0 ≤ σ 5378 ∧ σ 5378 ≤ 60 := by
    have h0 := hb 5378
    rw [show sx_sr 5378 = (0, 60) from by decide +kernel] at h0
    exact h0
  have b5634 : 0 ≤ σ 5634 ∧ σ 5634 ≤ 60 := by
    have h0 := hb 5634
    rw [show sx_sr 5634 = (0, 60) from by decide +kernel] at h0
    exact h0
  have b5890 : 0 ≤ σ 5890 ∧ σ 5890 ≤ 60 := by
    have h0 := hb 5890
    rw [show sx_sr 5890 = (0, 60) from by decide +kernel] at h0
    exact h0
  have b6146 : 0 ≤ σ 6146 ∧ σ 6146 ≤ 60 := by
    have h0 := hb 6146
    rw [show sx_sr 6146 = (0, 60) from by decide +kernel] at h0
    exact h0
  obtain ⟨hs, ht, hf, hr, hm, hw⟩ := hW
  have e1 : τ 19001 = a1 := by rw [ht 19001 (by decide) (by decide)]; exact h1
  have e2 : τ 19002 = a2 := by rw [ht 19002 (by decide) (by decide)]; exact h2
  have e3 : τ 19003 = a3 := by rw [ht 19003 (by decide) (by decide)]; exact h3
  have e4 : τ 19004 = a4 := by rw [ht 19004 (by decide) (by decide)]; exact h4
  have e5 : τ 19005 = a5 := by rw [ht 19005 (by decide) (by decide)]; exact h5
  have s5377 : τ 5377 = σ 5377 := hs 5377 (by decide)
  have s5378 : τ 5378 = σ 5378 := hs 5378 (by decide)
  have s5633 : τ 5633 = σ 5633 := hs 5633 (by decide)
  have s5634 : τ 5634 = σ 5634 := hs 5634 (by decide)
  have s5889 : τ 5889 = σ 5889 := hs 5889 (by decide)
  have s5890 : τ 5890 = σ 5890 := hs 5890 (by decide)
  have s6145 : τ 6145 = σ 6145 := hs 6145 (by decide)
  have s6146 : τ 6146 = σ 6146 := hs 6146 (by decide)
  clear hs ht hb
  rw [hx] at hr
  obtain ⟨y, hy, hv⟩ := hr
  cases hy
  replace hv : x.toInt = 0 + 0 := hv
  have f0 : 0 ≤ 0 + (1 * τ 5377 + 0) := hf _ (List.Mem.head _)
  have f1 : 0 ≤ 0 + (1 * τ 19001 + 0) := hf _ (List.Mem.tail _ (List.Mem.head _))
  have f2 : 0 ≤ 0 + ((-1) * τ 19001 + 0) := hf _ (List.Mem.tail _ (List.Mem.tail _ (List.Mem.head _)))
  have f3 : 0 ≤ 0 + (1 * τ 19002 + 0) := hf _ (List.Mem.tail _ (List.Mem.tail _ (List.Mem.tail _ (List.Mem.head _))))
  have f4 : 0 ≤ 60 + ((-1) * τ 19002 + 0) := hf _ (List.Mem.tail _ (List.Mem.tail _ (List.Mem.tail _ (List.Mem.tail _ (List.Mem.head _)))))
  have f5 : 0 ≤ 0 + (1 * τ 19003 + 0) := hf _ (List.Mem.tail _ (List.Mem.tail _ (List.Mem.tail _ (List.Mem.tail _ (List.Mem.tail _ (List.Mem.head _))))))
  have f6 : 0 ≤ 0 + ((-1) * τ 19003 + 0) := hf _ (List.Mem.tail _ (List.Mem.tail _ (List.Mem.tail _ (List.Mem.tail _ (List.Mem.tail _ (List.Mem.tail _ (List.Mem.head _)))))))
  have f7 : 0 ≤ 0 + (1 * τ 19004 + 0) := hf _ (List.Mem.tail _ (List.Mem.tail _ (List.Mem.tail _ (List.Mem.tail _ (List.Mem.tail _ (List.Mem.tail _ (List.Mem.tail _ (List.Mem.head _))))))))
  have f8 : 0 ≤ 0 + (1 * τ 19005 + 0) := hf _ (List.Mem.tail _ (List.Mem.tail _ (List.Mem.tail _ (List.Mem.tail _ (List.Mem.tail _ (List.Mem.tail _ (List.Mem.tail _ (List.Mem.tail _ (List.Mem.head _)))))))))
  have f9 : 0 ≤ 60 + ((-1) * τ 19005 + 0) := hf _ (List.Mem.tail _ (List.Mem.tail _ (List.Mem.tail _ (List.Mem.tail _ (List.Mem.tail _ (List.Mem.tail _ (List.Mem.tail _ (List.Mem.tail _ (List.Mem.tail _ (List.Mem.head _))))))))))
  have f10 : 0 ≤ (-1) + ((-1) * τ 5378 + (1 * τ 19004 + (1 * τ 19005 + 0))) := hf _ (List.Mem.tail _ (List.Mem.tail _ (List.Mem.tail _ (List.Mem.tail _ (List.Mem.tail _ (List.Mem.tail _ (List.Mem.tail _ (List.Mem.tail _ (List.Mem.tail _ (List.Mem.tail _ (List.Mem.head _)))))))))))
  have f11 : 0 ≤ 0 + (1 * τ 5378 + ((-1) * τ 19002 + ((-1) * τ 19005 + 0))) := hf _ (List.Mem.tail _ (List.Mem.tail _ (List.Mem.tail _ (List.Mem.tail _ (List.Mem.tail _ (List.Mem.tail _ (List.Mem.tail _ (List.Mem.tail _ (List.Mem.tail _ (List.Mem.tail _ (List.Mem.tail _ (List.Mem.head _))))))))))))
  clear hf hm
  have ej : a1 = 0 := by omega
  subst ej
  have ek : a3 = 0 := by omega
  subst ek
  simp only [lw_sel0, lw_sel1, lw_sel2, lw_sel3]
  refine Or.inr ⟨by omega, fun h => ?_⟩
  obtain ⟨z0, z1, z2, z3, z4, z5, z6, z7, z8, z9, z10, z11⟩ := h
  omega
theorem lw_px_22 {as : List rv_A} {σ σ' : Nat → Int} {o : rv_O} {x : Int32} {a1 a2 a3 a4 a5 : Int} {τ : Nat → Int} (hx : o.1 = some (.inl x)) (h1 : lw_av as 1 = a1) (h2 : lw_av as 2 = a2) (h3 : lw_av as 3 = a3) (h4 : lw_av as 4 = a4) (h5 : lw_av as 5 = a5) (hb : ∀ s, (sx_sr s).1 ≤ σ s ∧ σ s ≤ (sx_sr s).2) (hW : lw_W ([], [(0, [(5377, 1)]), ((-1), [(5633, (-1))]), (0, [(19001, 1)]), (0, [(19001, (-1))]), (0, [(19002, 1)]), ((-1), [(19003, 1)]), (1, [(19003, (-1))]), (0, [(19004, 1)]), (0, [(19005, 1)])], [(9, (2, []))], some (false, (0, []))) as σ σ' τ o) : lw_px_C a1 a2 a3 a4 a5 x.toInt σ σ' := by
  unfold lw_px_C
  have b5377 : (-1) ≤ σ 5377 ∧ σ 5377 ≤ 3 := by
    have h0 := hb 5377
    rw [show sx_sr 5377 = ((-1), 3) from by decide +kernel] at h0
    exact h0
  have b5633 : (-1) ≤ σ 5633 ∧ σ 5633 ≤ 3 := by
    have h0 := hb 5633
    rw [show sx_sr 5633 = ((-1), 3) from by decide +kernel] at h0
    exact h0
  have b5889 : (-1) ≤ σ 5889 ∧ σ 5889 ≤ 3 := by
    have h0 := hb 5889
    rw [show sx_sr 5889 = ((-1), 3) from by decide +kernel] at h0
    exact h0
  have b6145 : (-1) ≤ σ 6145 ∧ σ 6145 ≤ 3 := by
    have h0 := hb 6145
    rw [show sx_sr 6145 = ((-1), 3) from by decide +kernel] at h0
    exact h0
  have b5378 : 0 ≤ σ 5378 ∧ σ 5378 ≤ 60 := by
    have h0 := hb 5378
    rw [show sx_sr 5378 = (0, 60) from by decide +kernel] at h0
    exact h0
  have b5634 : 0 ≤ σ 5634 ∧ σ 5634 ≤ 60 := by
    have h0 := hb 5634
    rw [show sx_sr 5634 = (0, 60) from by decide +kernel] at h0
    exact h0
  have b5890 : 0 ≤ σ 5890 ∧ σ 5890 ≤ 60 := by
    have h0 := hb 5890
    rw [show sx_sr 5890 = (0, 60) from by decide +kernel] at h0
    exact h0
  have b6146 : 0 ≤ σ 6146 ∧ σ 6146 ≤ 60 := by
    have h0 := hb 6146
    rw [show sx_sr 6146 = (0, 60) from by decide +kernel] at h0
    exact h0
  obtain ⟨hs, ht, hf, hr, hm, hw⟩ := hW
  have e1 : τ 19001 = a1 := by rw [ht 19001 (by decide) (by decide)]; exact h1
  have e2 : τ 19002 = a2 := by rw [ht 19002 (by decide) (by decide)]; exact h2
  have e3 : τ 19003 = a3 := by rw [ht 19003 (by decide) (by decide)]; exact h3
  have e4 : τ 19004 = a4 := by rw [ht 19004 (by decide) (by decide)]; exact h4
  have e5 : τ 19005 = a5 := by rw [ht 19005 (by decide) (by decide)]; exact h5
  have s5377 : τ 5377 = σ 5377 := hs 5377 (by decide)
  have s5378 : τ 5378 = σ 5378 := hs 5378 (by decide)
  have s5633 : τ 5633 = σ 5633 := hs 5633 (by decide)
  have s5634 : τ 5634 = σ 5634 := hs 5634 (by decide)
  have s5889 : τ 5889 = σ 5889 := hs 5889 (by decide)
  have s5890 : τ 5890 = σ 5890 := hs 5890 (by decide)
  have s6145 : τ 6145 = σ 6145 := hs 6145 (by decide)
  have s6146 : τ 6146 = σ 6146 := hs 6146 (by decide)
  clear hs ht hb
  rw [hx] at hr
  obtain ⟨y, hy, hv⟩ := hr
  cases hy
  replace hv : x.toInt = 0 + 0 := hv
  have f0 : 0 ≤ 0 + (1 * τ 5377 + 0) := hf _ (List.Mem.head _)
  have f1 : 0 ≤ (-1) + ((-1) * τ 5633 + 0) := hf _ (List.Mem.tail _ (List.Mem.head _))
  have f2 : 0 ≤ 0 + (1 * τ 19001 + 0) := hf _ (List.Mem.tail _ (List.Mem.tail _ (List.Mem.head _)))
  have f3 : 0 ≤ 0 + ((-1) * τ 19001 + 0) := hf _ (List.Mem.tail _ (List.Mem.tail _ (List.Mem.tail _ (List.Mem.head _))))
  have f4 : 0 ≤ 0 + (1 * τ 19002 + 0) := hf _ (List.Mem.tail _ (List.Mem.tail _ (List.Mem.tail _ (List.Mem.tail _ (List.Mem.head _)))))
  have f5 : 0 ≤ (-1) + (1 * τ 19003 + 0) := hf _ (List.Mem.tail _ (List.Mem.tail _ (List.Mem.tail _ (List.Mem.tail _ (List.Mem.tail _ (List.Mem.head _))))))
  have f6 : 0 ≤ 1 + ((-1) * τ 19003 + 0) := hf _ (List.Mem.tail _ (List.Mem.tail _ (List.Mem.tail _ (List.Mem.tail _ (List.Mem.tail _ (List.Mem.tail _ (List.Mem.head _)))))))
  have f7 : 0 ≤ 0 + (1 * τ 19004 + 0) := hf _ (List.Mem.tail _ (List.Mem.tail _ (List.Mem.tail _ (List.Mem.tail _ (List.Mem.tail _ (List.Mem.tail _ (List.Mem.tail _ (List.Mem.head _))))))))
  have f8 : 0 ≤ 0 + (1 * τ 19005 + 0) := hf _ (List.Mem.tail _ (List.Mem.tail _ (List.Mem.tail _ (List.Mem.tail _ (List.Mem.tail _ (List.Mem.tail _ (List.Mem.tail _ (List.Mem.tail _ (List.Mem.head _)))))))))
  clear hf hm
  have ej : a1 = 0 := by omega
  subst ej
  have ek : a3 = 1 := by omega
  subst ek
  simp only [lw_sel0, lw_sel1, lw_sel2, lw_sel3]
  refine Or.inr ⟨by omega, fun h => ?_⟩
  obtain ⟨z0, z1, z2, z3, z4, z5, z6, z7, z8, z9, z10, z11⟩ := h
  omega
theorem lw_px_23 {as : List rv_A} {σ σ' : Nat → Int} {o : rv_O} {x : Int32} {a1 a2 a3 a4 a5 : Int} {τ : Nat → Int} (hx : o.1 = some (.inl x)) (h1 : lw_av as 1 = a1) (h2 : lw_av as 2 = a2) (h3 : lw_av as 3 = a3) (h4 : lw_av as 4 = a4) (h5 : lw_av as 5 = a5) (hb : ∀ s, (sx_sr s).1 ≤ σ s ∧ σ s ≤ (sx_sr s).2) (hW : lw_W ([], [(0, [(5377, 1)]), (0, [(5633, 1)]), (0, [(19001, 1)]), (0, [(19001, (-1))]), (0, [(19002, 1)]), ((-1), [(19003, 1)]), (1, [(19003, (-1))]), (0, [(19004, 1)]), (0, [(19005, 1)]), ((-1), [(5378, (-1)), (19002, 1), (19005, 1)]), (0, [(5377, (-1)), (5633, 1)]), (0, [(5377, 1), (5633, (-1))])], [(9, (3, []))], some (false, (0, []))) as σ σ' τ o) : lw_px_C a1 a2 a3 a4 a5 x.toInt σ σ' := by
  unfold lw_px_C
  have b5377 : (-1) ≤ σ 5377 ∧ σ 5377 ≤ 3 := by
    have h0 := hb 5377
    rw [show sx_sr 5377 = ((-1), 3) from by decide +kernel] at h0
    exact h0
  have b5633 : (-1) ≤ σ 5633 ∧ σ 5633 ≤ 3 := by
    have h0 := hb 5633
    rw [show sx_sr 5633 = ((-1), 3) from by decide +kernel] at h0
    exact h0
  have b5889 : (-1) ≤ σ 5889 ∧ σ 5889 ≤ 3 := by
    have h0 := hb 5889
    rw [show sx_sr 5889 = ((-1), 3) from by decide +kernel] at h0
    exact h0
  have b6145 : (-1) ≤ σ 6145 ∧ σ 6145 ≤ 3 := by
    have h0 := hb 6145
    rw [show sx_sr 6145 = ((-1), 3) from by decide +kernel] at h0
    exact h0
  have b5378 : 0 ≤ σ 5378 ∧ σ 5378 ≤ 60 := by
    have h0 := hb 5378
    rw [show sx_sr 5378 = (0, 60) from by decide +kernel] at h0
    exact h0
  have b5634 : 0 ≤ σ 5634 ∧ σ 5634 ≤ 60 := by
    have h0 := hb 5634
    rw [show sx_sr 5634 = (0, 60) from by decide +kernel] at h0
    exact h0
  have b5890 : 0 ≤ σ 5890 ∧ σ 5890 ≤ 60 := by
    have h0 := hb 5890
    rw [show sx_sr 5890 = (0, 60) from by decide +kernel] at h0
    exact h0
  have b6146 : 0 ≤ σ 6146 ∧ σ 6146 ≤ 60 := by
    have h0 := hb 6146
    rw [show sx_sr 6146 = (0, 60) from by decide +kernel] at h0
    exact h0
  obtain ⟨hs, ht, hf, hr, hm, hw⟩ := hW
  have e1 : τ 19001 = a1 := by rw [ht 19001 (by decide) (by decide)]; exact h1
  have e2 : τ 19002 = a2 := by rw [ht 19002 (by decide) (by decide)]; exact h2
  have e3 : τ 19003 = a3 := by rw [ht 19003 (by decide) (by decide)]; exact h3
  have e4 : τ 19004 = a4 := by rw [ht 19004 (by decide) (by decide)]; exact h4
  have e5 : τ 19005 = a5 := by rw [ht 19005 (by decide) (by decide)]; exact h5
  have s5377 : τ 5377 = σ 5377 := hs 5377 (by decide)
  have s5378 : τ 5378 = σ 5378 := hs 5378 (by decide)
  have s5633 : τ 5633 = σ 5633 := hs 5633 (by decide)
  have s5634 : τ 5634 = σ 5634 := hs 5634 (by decide)
  have s5889 : τ 5889 = σ 5889 := hs 5889 (by decide)
  have s5890 : τ 5890 = σ 5890 := hs 5890 (by decide)
  have s6145 : τ 6145 = σ 6145 := hs 6145 (by decide)
  have s6146 : τ 6146 = σ 6146 := hs 6146 (by decide)
  clear hs ht hb
  rw [hx] at hr
  obtain ⟨y, hy, hv⟩ := hr
  cases hy
  replace hv : x.toInt = 0 + 0 := hv
  have f0 : 0 ≤ 0 + (1 * τ 5377 + 0) := hf _ (List.Mem.head _)
  have f1 : 0 ≤ 0 + (1 * τ 5633 + 0) := hf _ (List.Mem.tail _ (List.Mem.head _))
  have f2 : 0 ≤ 0 + (1 * τ 19001 + 0) := hf _ (List.Mem.tail _ (List.Mem.tail _ (List.Mem.head _)))
  have f3 : 0 ≤ 0 + ((-1) * τ 19001 + 0) := hf _ (List.Mem.tail _ (List.Mem.tail _ (List.Mem.tail _ (List.Mem.head _))))
  have f4 : 0 ≤ 0 + (1 * τ 19002 + 0) := hf _ (List.Mem.tail _ (List.Mem.tail _ (List.Mem.tail _ (List.Mem.tail _ (List.Mem.head _)))))
  have f5 : 0 ≤ (-1) + (1 * τ 19003 + 0) := hf _ (List.Mem.tail _ (List.Mem.tail _ (List.Mem.tail _ (List.Mem.tail _ (List.Mem.tail _ (List.Mem.head _))))))
  have f6 : 0 ≤ 1 + ((-1) * τ 19003 + 0) := hf _ (List.Mem.tail _ (List.Mem.tail _ (List.Mem.tail _ (List.Mem.tail _ (List.Mem.tail _ (List.Mem.tail _ (List.Mem.head _)))))))
  have f7 : 0 ≤ 0 + (1 * τ 19004 + 0) := hf _ (List.Mem.tail _ (List.Mem.tail _ (List.Mem.tail _ (List.Mem.tail _ (List.Mem.tail _ (List.Mem.tail _ (List.Mem.tail _ (List.Mem.head _))))))))
  have f8 : 0 ≤ 0 + (1 * τ 19005 + 0) := hf _ (List.Mem.tail _ (List.Mem.tail _ (List.Mem.tail _ (List.Mem.tail _ (List.Mem.tail _ (List.Mem.tail _ (List.Mem.tail _ (List.Mem.tail _ (List.Mem.head _)))))))))
  have f9 : 0 ≤ (-1) + ((-1) * τ 5378 + (1 * τ 19002 + (1 * τ 19005 + 0))) := hf _ (List.Mem.tail _ (List.Mem.tail _ (List.Mem.tail _ (List.Mem.tail _ (List.Mem.tail _ (List.Mem.tail _ (List.Mem.tail _ (List.Mem.tail _ (List.Mem.tail _ (List.Mem.head _))))))))))
  have f10 : 0 ≤ 0 + ((-1) * τ 5377 + (1 * τ 5633 + 0)) := hf _ (List.Mem.tail _ (List.Mem.tail _ (List.Mem.tail _ (List.Mem.tail _ (List.Mem.tail _ (List.Mem.tail _ (List.Mem.tail _ (List.Mem.tail _ (List.Mem.tail _ (List.Mem.tail _ (List.Mem.head _)))))))))))
  have f11 : 0 ≤ 0 + (1 * τ 5377 + ((-1) * τ 5633 + 0)) := hf _ (List.Mem.tail _ (List.Mem.tail _ (List.Mem.tail _ (List.Mem.tail _ (List.Mem.tail _ (List.Mem.tail _ (List.Mem.tail _ (List.Mem.tail _ (List.Mem.tail _ (List.Mem.tail _ (List.Mem.tail _ (List.Mem.head _))))))))))))
  clear hf hm
  have ej : a1 = 0 := by omega
  subst ej
  have ek : a3 = 1 := by omega
  subst ek
  simp only [lw_sel0, lw_sel1, lw_sel2, lw_sel3]
  refine Or.inr ⟨by omega, fun h => ?_⟩
  obtain ⟨z0, z1, z2, z3, z4, z5, z6, z7, z8, z9, z10, z11⟩ := h
  omega
theorem lw_px_24 {as : List rv_A} {σ σ' : Nat → Int} {o : rv_O} {x : Int32} {a1 a2 a3 a4 a5 : Int} {τ : Nat → Int} (hx : o.1 = some (.inl x)) (h1 : lw_av as 1 = a1) (h2 : lw_av as 2 = a2) (h3 : lw_av as 3 = a3) (h4 : lw_av as 4 = a4) (h5 : lw_av as 5 = a5) (hb : ∀ s, (sx_sr s).1 ≤ σ s ∧ σ s ≤ (sx_sr s).2) (hW : lw_W ([], [(0, [(5377, 1)]), (0, [(5633, 1)]), (0, [(19001, 1)]), (0, [(19001, (-1))]), (0, [(19002, 1)]), (60, [(19002, (-1))]), ((-1), [(19003, 1)]), (1, [(19003, (-1))]), (0, [(19004, 1)]), (0, [(19005, 1)]), (60, [(19005, (-1))]), ((-1), [(5634, (-1)), (19004, 1), (19005, 1)]), (0, [(5378, 1), (19002, (-1)), (19005, (-1))]), (0, [(5377, (-1)), (5633, 1)]), (0, [(5377, 1), (5633, (-1))])], [(9, (3, []))], some (false, (0, []))) as σ σ' τ o) : lw_px_C a1 a2 a3 a4 a5 x.toInt σ σ' := by
  unfold lw_px_C
  have b5377 : (-1) ≤ σ 5377 ∧ σ 5377 ≤ 3 := by
    have h0 := hb 5377
    rw [show sx_sr 5377 = ((-1), 3) from by decide +kernel] at h0
    exact h0
  have b5633 : (-1) ≤ σ 5633 ∧ σ 5633 ≤ 3 := by
    have h0 := hb 5633
    rw [show sx_sr 5633 = ((-1), 3) from by decide +kernel] at h0
    exact h0
  have b5889 : (-1) ≤ σ 5889 ∧ σ 5889 ≤ 3 := by
    have h0 := hb 5889
    rw [show sx_sr 5889 = ((-1), 3) from by decide +kernel] at h0
    exact h0
  have b6145 : (-1) ≤ σ 6145 ∧ σ 6145 ≤ 3 := by
    have h0 := hb 6145
    rw [show sx_sr 6145 = ((-1), 3) from by decide +kernel] at h0
    exact h0
  have b5378 : 0 ≤ σ 5378 ∧ σ 5378 ≤ 60 := by
    have h0 := hb 5378
    rw [show sx_sr 5378 = (0, 60) from by decide +kernel] at h0
    exact h0
  have b5634 : 0 ≤ σ 5634 ∧ σ 5634 ≤ 60 := by
    have h0 := hb 5634
    rw [show sx_sr 5634 = (0, 60) from by decide +kernel] at h0
    exact h0
  have b5890 : 0 ≤ σ 5890 ∧ σ 5890 ≤ 60 := by
    have h0 := hb 5890
    rw [show sx_sr 5890 = (0, 60) from by decide +kernel] at h0
    exact h0
  have b6146 : 0 ≤ σ 6146 ∧ σ 6146 ≤ 60 := by
    have h0 := hb 6146
    rw [show sx_sr 6146 = (0, 60) from by decide +kernel] at h0
    exact h0
  obtain ⟨hs, ht, hf, hr, hm, hw⟩ := hW
  have e1 : τ 19001 = a1 := by rw [ht 19001 (by decide) (by decide)]; exact h1
  have e2 : τ 19002 = a2 := by rw [ht 19002 (by decide) (by decide)]; exact h2
  have e3 : τ 19003 = a3 := by rw [ht 19003 (by decide) (by decide)]; exact h3
  have e4 : τ 19004 = a4 := by rw [ht 19004 (by decide) (by decide)]; exact h4
  have e5 : τ 19005 = a5 := by rw [ht 19005 (by decide) (by decide)]; exact h5
  have s5377 : τ 5377 = σ 5377 := hs 5377 (by decide)
  have s5378 : τ 5378 = σ 5378 := hs 5378 (by decide)
  have s5633 : τ 5633 = σ 5633 := hs 5633 (by decide)
  have s5634 : τ 5634 = σ 5634 := hs 5634 (by decide)
  have s5889 : τ 5889 = σ 5889 := hs 5889 (by decide)
  have s5890 : τ 5890 = σ 5890 := hs 5890 (by decide)
  have s6145 : τ 6145 = σ 6145 := hs 6145 (by decide)
  have s6146 : τ 6146 = σ 6146 := hs 6146 (by decide)
  clear hs ht hb
  rw [hx] at hr
  obtain ⟨y, hy, hv⟩ := hr
  cases hy
  replace hv : x.toInt = 0 + 0 := hv
  have f0 : 0 ≤ 0 + (1 * τ 5377 + 0) := hf _ (List.Mem.head _)
  have f1 : 0 ≤ 0 + (1 * τ 5633 + 0) := hf _ (List.Mem.tail _ (List.Mem.head _))
  have f2 : 0 ≤ 0 + (1 * τ 19001 + 0) := hf _ (List.Mem.tail _ (List.Mem.tail _ (List.Mem.head _)))
  have f3 : 0 ≤ 0 + ((-1) * τ 19001 + 0) := hf _ (List.Mem.tail _ (List.Mem.tail _ (List.Mem.tail _ (List.Mem.head _))))
  have f4 : 0 ≤ 0 + (1 * τ 19002 + 0) := hf _ (List.Mem.tail _ (List.Mem.tail _ (List.Mem.tail _ (List.Mem.tail _ (List.Mem.head _)))))
  have f5 : 0 ≤ 60 + ((-1) * τ 19002 + 0) := hf _ (List.Mem.tail _ (List.Mem.tail _ (List.Mem.tail _ (List.Mem.tail _ (List.Mem.tail _ (List.Mem.head _))))))
  have f6 : 0 ≤ (-1) + (1 * τ 19003 + 0) := hf _ (List.Mem.tail _ (List.Mem.tail _ (List.Mem.tail _ (List.Mem.tail _ (List.Mem.tail _ (List.Mem.tail _ (List.Mem.head _)))))))
  have f7 : 0 ≤ 1 + ((-1) * τ 19003 + 0) := hf _ (List.Mem.tail _ (List.Mem.tail _ (List.Mem.tail _ (List.Mem.tail _ (List.Mem.tail _ (List.Mem.tail _ (List.Mem.tail _ (List.Mem.head _))))))))
  have f8 : 0 ≤ 0 + (1 * τ 19004 + 0) := hf _ (List.Mem.tail _ (List.Mem.tail _ (List.Mem.tail _ (List.Mem.tail _ (List.Mem.tail _ (List.Mem.tail _ (List.Mem.tail _ (List.Mem.tail _ (List.Mem.head _)))))))))
  have f9 : 0 ≤ 0 + (1 * τ 19005 + 0) := hf _ (List.Mem.tail _ (List.Mem.tail _ (List.Mem.tail _ (List.Mem.tail _ (List.Mem.tail _ (List.Mem.tail _ (List.Mem.tail _ (List.Mem.tail _ (List.Mem.tail _ (List.Mem.head _))))))))))
  have f10 : 0 ≤ 60 + ((-1) * τ 19005 + 0) := hf _ (List.Mem.tail _ (List.Mem.tail _ (List.Mem.tail _ (List.Mem.tail _ (List.Mem.tail _ (List.Mem.tail _ (List.Mem.tail _ (List.Mem.tail _ (List.Mem.tail _ (List.Mem.tail _ (List.Mem.head _)))))))))))
  have f11 : 0 ≤ (-1) + ((-1) * τ 5634 + (1 * τ 19004 + (1 * τ 19005 + 0))) := hf _ (List.Mem.tail _ (List.Mem.tail _ (List.Mem.tail _ (List.Mem.tail _ (List.Mem.tail _ (List.Mem.tail _ (List.Mem.tail _ (List.Mem.tail _ (List.Mem.tail _ (List.Mem.tail _ (List.Mem.tail _ (List.Mem.head _))))))))))))
  have f12 : 0 ≤ 0 + (1 * τ 5378 + ((-1) * τ 19002 + ((-1) * τ 19005 + 0))) := hf _ (List.Mem.tail _ (List.Mem.tail _ (List.Mem.tail _ (List.Mem.tail _ (List.Mem.tail _ (List.Mem.tail _ (List.Mem.tail _ (List.Mem.tail _ (List.Mem.tail _ (List.Mem.tail _ (List.Mem.tail _ (List.Mem.tail _ (List.Mem.head _)))))))))))))
  have f13 : 0 ≤ 0 + ((-1) * τ 5377 + (1 * τ 5633 + 0)) := hf _ (List.Mem.tail _ (List.Mem.tail _ (List.Mem.tail _ (List.Mem.tail _ (List.Mem.tail _ (List.Mem.tail _ (List.Mem.tail _ (List.Mem.tail _ (List.Mem.tail _ (List.Mem.tail _ (List.Mem.tail _ (List.Mem.tail _ (List.Mem.tail _ (List.Mem.head _))))))))))))))
  have f14 : 0 ≤ 0 + (1 * τ 5377 + ((-1) * τ 5633 + 0)) := hf _ (List.Mem.tail _ (List.Mem.tail _ (List.Mem.tail _ (List.Mem.tail _ (List.Mem.tail _ (List.Mem.tail _ (List.Mem.tail _ (List.Mem.tail _ (List.Mem.tail _ (List.Mem.tail _ (List.Mem.tail _ (List.Mem.tail _ (List.Mem.tail _ (List.Mem.tail _ (List.Mem.head _)))))))))))))))
  clear hf hm
  have ej : a1 = 0 := by omega
  subst ej
  have ek : a3 = 1 := by omega
  subst ek
  simp only [lw_sel0, lw_sel1, lw_sel2, lw_sel3]
  refine Or.inr ⟨by omega, fun h => ?_⟩
  obtain ⟨z0, z1, z2, z3, z4, z5, z6, z7, z8, z9, z10, z11⟩ := h
  omega
theorem lw_px_25 {as : List rv_A} {σ σ' : Nat → Int} {o : rv_O} {x : Int32} {a1 a2 a3 a4 a5 : Int} {τ : Nat → Int} (hx : o.1 = some (.inl x)) (h1 : lw_av as 1 = a1) (h2 : lw_av as 2 = a2) (h3 : lw_av as 3 = a3) (h4 : lw_av as 4 = a4) (h5 : lw_av as 5 = a5) (hb : ∀ s, (sx_sr s).1 ≤ σ s ∧ σ s ≤ (sx_sr s).2) (hW : lw_W ([], [(0, [(5377, 1)]), (0, [(5633, 1)]), ((-1), [(19001, 1)]), (1, [(19001, (-1))]), (0, [(19002, 1)]), (0, [(19003, 1)]), (0, [(19003, (-1))]), (0, [(19004, 1)]), (0, [(19005, 1)]), ((-1), [(5634, (-1)), (19002, 1), (19005, 1)]), (0, [(5377, 1), (5633, (-1))]), (0, [(5377, (-1)), (5633, 1)])], [(9, (3, []))], some (false, (0, []))) as σ σ' τ o) : lw_px_C a1 a2 a3 a4 a5 x.toInt σ σ' := by
  unfold lw_px_C
  have b5377 : (-1) ≤ σ 5377 ∧ σ 5377 ≤ 3 := by
    have h0 := hb 5377
    rw [show sx_sr 5377 = ((-1), 3) from by decide +kernel] at h0
    exact h0
  have b5633 : (-1) ≤ σ 5633 ∧ σ 5633 ≤ 3 := by
    have h0 := hb 5633
    rw [show sx_sr 5633 = ((-1), 3) from by decide +kernel] at h0
    exact h0
  have b5889 : (-1) ≤ σ 5889 ∧ σ 5889 ≤ 3 := by
    have h0 := hb 5889
    rw [show sx_sr 5889 = ((-1), 3) from by decide +kernel] at h0
    exact h0
  have b6145 : (-1) ≤ σ 6145 ∧ σ 6145 ≤ 3 := by
    have h0 := hb 6145
    rw [show sx_sr 6145 = ((-1), 3) from by decide +kernel] at h0
    exact h0
  have b5378 : 0 ≤ σ 5378 ∧ σ 5378 ≤ 60 := by
    have h0 := hb 5378
    rw [show sx_sr 5378 = (0, 60) from by decide +kernel] at h0
    exact h0
  have b5634 : 0 ≤ σ 5634 ∧ σ 5634 ≤ 60 := by
    have h0 := hb 5634
    rw [show sx_sr 5634 = (0, 60) from by decide +kernel] at h0
    exact h0
  have b5890 : 0 ≤ σ 5890 ∧ σ 5890 ≤ 60 := by
    have h0 := hb 5890
    rw [show sx_sr 5890 = (0, 60) from by decide +kernel] at h0
    exact h0
  have b6146 : 0 ≤ σ 6146 ∧ σ 6146 ≤ 60 := by
    have h0 := hb 6146
    rw [show sx_sr 6146 = (0, 60) from by decide +kernel] at h0
    exact h0
  obtain ⟨hs, ht, hf, hr, hm, hw⟩ := hW
  have e1 : τ 19001 = a1 := by rw [ht 19001 (by decide) (by decide)]; exact h1
  have e2 : τ 19002 = a2 := by rw [ht 19002 (by decide) (by decide)]; exact h2
  have e3 : τ 19003 = a3 := by rw [ht 19003 (by decide) (by decide)]; exact h3
  have e4 : τ 19004 = a4 := by rw [ht 19004 (by decide) (by decide)]; exact h4
  have e5 : τ 19005 = a5 := by rw [ht 19005 (by decide) (by decide)]; exact h5
  have s5377 : τ 5377 = σ 5377 := hs 5377 (by decide)
  have s5378 : τ 5378 = σ 5378 := hs 5378 (by decide)
  have s5633 : τ 5633 = σ 5633 := hs 5633 (by decide)
  have s5634 : τ 5634 = σ 5634 := hs 5634 (by decide)
  have s5889 : τ 5889 = σ 5889 := hs 5889 (by decide)
  have s5890 : τ 5890 = σ 5890 := hs 5890 (by decide)
  have s6145 : τ 6145 = σ 6145 := hs 6145 (by decide)
  have s6146 : τ 6146 = σ 6146 := hs 6146 (by decide)
  clear hs ht hb
  rw [hx] at hr
  obtain ⟨y, hy, hv⟩ := hr
  cases hy
  replace hv : x.toInt = 0 + 0 := hv
  have f0 : 0 ≤ 0 + (1 * τ 5377 + 0) := hf _ (List.Mem.head _)
  have f1 : 0 ≤ 0 + (1 * τ 5633 + 0) := hf _ (List.Mem.tail _ (List.Mem.head _))
  have f2 : 0 ≤ (-1) + (1 * τ 19001 + 0) := hf _ (List.Mem.tail _ (List.Mem.tail _ (List.Mem.head _)))
  have f3 : 0 ≤ 1 + ((-1) * τ 19001 + 0) := hf _ (List.Mem.tail _ (List.Mem.tail _ (List.Mem.tail _ (List.Mem.head _))))
  have f4 : 0 ≤ 0 + (1 * τ 19002 + 0) := hf _ (List.Mem.tail _ (List.Mem.tail _ (List.Mem.tail _ (List.Mem.tail _ (List.Mem.head _)))))
  have f5 : 0 ≤ 0 + (1 * τ 19003 + 0) := hf _ (List.Mem.tail _ (List.Mem.tail _ (List.Mem.tail _ (List.Mem.tail _ (List.Mem.tail _ (List.Mem.head _))))))
  have f6 : 0 ≤ 0 + ((-1) * τ 19003 + 0) := hf _ (List.Mem.tail _ (List.Mem.tail _ (List.Mem.tail _ (List.Mem.tail _ (List.Mem.tail _ (List.Mem.tail _ (List.Mem.head _)))))))
  have f7 : 0 ≤ 0 + (1 * τ 19004 + 0) := hf _ (List.Mem.tail _ (List.Mem.tail _ (List.Mem.tail _ (List.Mem.tail _ (List.Mem.tail _ (List.Mem.tail _ (List.Mem.tail _ (List.Mem.head _))))))))
  have f8 : 0 ≤ 0 + (1 * τ 19005 + 0) := hf _ (List.Mem.tail _ (List.Mem.tail _ (List.Mem.tail _ (List.Mem.tail _ (List.Mem.tail _ (List.Mem.tail _ (List.Mem.tail _ (List.Mem.tail _ (List.Mem.head _)))))))))
  have f9 : 0 ≤ (-1) + ((-1) * τ 5634 + (1 * τ 19002 + (1 * τ 19005 + 0))) := hf _ (List.Mem.tail _ (List.Mem.tail _ (List.Mem.tail _ (List.Mem.tail _ (List.Mem.tail _ (List.Mem.tail _ (List.Mem.tail _ (List.Mem.tail _ (List.Mem.tail _ (List.Mem.head _))))))))))
  have f10 : 0 ≤ 0 + (1 * τ 5377 + ((-1) * τ 5633 + 0)) := hf _ (List.Mem.tail _ (List.Mem.tail _ (List.Mem.tail _ (List.Mem.tail _ (List.Mem.tail _ (List.Mem.tail _ (List.Mem.tail _ (List.Mem.tail _ (List.Mem.tail _ (List.Mem.tail _ (List.Mem.head _)))))))))))
  have f11 : 0 ≤ 0 + ((-1) * τ 5377 + (1 * τ 5633 + 0)) := hf _ (List.Mem.tail _ (List.Mem.tail _ (List.Mem.tail _ (List.Mem.tail _ (List.Mem.tail _ (List.Mem.tail _ (List.Mem.tail _ (List.Mem.tail _ (List.Mem.tail _ (List.Mem.tail _ (List.Mem.tail _ (List.Mem.head _))))))))))))
  clear hf hm
  have ej : a1 = 1 := by omega
  subst ej
  have ek : a3 = 0 := by omega
  subst ek
  simp only [lw_sel0, lw_sel1, lw_sel2, lw_sel3]
  refine Or.inr ⟨by omega, fun h => ?_⟩
  obtain ⟨z0, z1, z2, z3, z4, z5, z6, z7, z8, z9, z10, z11⟩ := h
  omega
theorem lw_px_26 {as : List rv_A} {σ σ' : Nat → Int} {o : rv_O} {x : Int32} {a1 a2 a3 a4 a5 : Int} {τ : Nat → Int} (hx : o.1 = some (.inl x)) (h1 : lw_av as 1 = a1) (h2 : lw_av as 2 = a2) (h3 : lw_av as 3 = a3) (h4 : lw_av as 4 = a4) (h5 : lw_av as 5 = a5) (hb : ∀ s, (sx_sr s).1 ≤ σ s ∧ σ s ≤ (sx_sr s).2) (hW : lw_W ([], [(0, [(5377, 1)]), (0, [(5633, 1)]), ((-1), [(19001, 1)]), (1, [(19001, (-1))]), (0, [(19002, 1)]), (60, [(19002, (-1))]), (0, [(19003, 1)]), (0, [(19003, (-1))]), (0, [(19004, 1)]), (0, [(19005, 1)]), (60, [(19005, (-1))]), ((-1), [(5378, (-1)), (19004, 1), (19005, 1)]), (0, [(5634, 1), (19002, (-1)), (19005, (-1))]), (0, [(5377, 1), (5633, (-1))]), (0, [(5377, (-1)), (5633, 1)])], [(9, (3, []))], some (false, (0, []))) as σ σ' τ o) : lw_px_C a1 a2 a3 a4 a5 x.toInt σ σ' := by
  unfold lw_px_C
  have b5377 : (-1) ≤ σ 5377 ∧ σ 5377 ≤ 3 := by
    have h0 := hb 5377
    rw [show sx_sr 5377 = ((-1), 3) from by decide +kernel] at h0
    exact h0
  have b5633 : (-1) ≤ σ 5633 ∧ σ 5633 ≤ 3 := by
    have h0 := hb 5633
    rw [show sx_sr 5633 = ((-1), 3) from by decide +kernel] at h0
    exact h0
  have b5889 : (-1) ≤ σ 5889 ∧ σ 5889 ≤ 3 := by
    have h0 := hb 5889
    rw [show sx_sr 5889 = ((-1), 3) from by decide +kernel] at h0
    exact h0
  have b6145 : (-1) ≤ σ 6145 ∧ σ 6145 ≤ 3 := by
    have h0 := hb 6145
    rw [show sx_sr 6145 = ((-1), 3) from by decide +kernel] at h0
    exact h0
  have b5378 : 0 ≤ σ 5378 ∧ σ 5378 ≤ 60 := by
    have h0 := hb 5378
    rw [show sx_sr 5378 = (0, 60) from by decide +kernel] at h0
    exact h0
  have b5634 : 0 ≤ σ 5634 ∧ σ 5634 ≤ 60 := by
    have h0 := hb 5634
    rw [show sx_sr 5634 = (0, 60) from by decide +kernel] at h0
    exact h0
  have b5890 : 0 ≤ σ 5890 ∧ σ 5890 ≤ 60 := by
    have h0 := hb 5890
    rw [show sx_sr 5890 = (0, 60) from by decide +kernel] at h0
    exact h0
  have b6146 : 0 ≤ σ 6146 ∧ σ 6146 ≤ 60 := by
    have h0 := hb 6146
    rw [show sx_sr 6146 = (0, 60) from by decide +kernel] at h0
    exact h0
  obtain ⟨hs, ht, hf, hr, hm, hw⟩ := hW
  have e1 : τ 19001 = a1 := by rw [ht 19001 (by decide) (by decide)]; exact h1
  have e2 : τ 19002 = a2 := by rw [ht 19002 (by decide) (by decide)]; exact h2
  have e3 : τ 19003 = a3 := by rw [ht 19003 (by decide) (by decide)]; exact h3
  have e4 : τ 19004 = a4 := by rw [ht 19004 (by decide) (by decide)]; exact h4
  have e5 : τ 19005 = a5 := by rw [ht 19005 (by decide) (by decide)]; exact h5
  have s5377 : τ 5377 = σ 5377 := hs 5377 (by decide)
  have s5378 : τ 5378 = σ 5378 := hs 5378 (by decide)
  have s5633 : τ 5633 = σ 5633 := hs 5633 (by decide)
  have s5634 : τ 5634 = σ 5634 := hs 5634 (by decide)
  have s5889 : τ 5889 = σ 5889 := hs 5889 (by decide)
  have s5890 : τ 5890 = σ 5890 := hs 5890 (by decide)
  have s6145 : τ 6145 = σ 6145 := hs 6145 (by decide)
  have s6146 : τ 6146 = σ 6146 := hs 6146 (by decide)
  clear hs ht hb
  rw [hx] at hr
  obtain ⟨y, hy, hv⟩ := hr
  cases hy
  replace hv : x.toInt = 0 + 0 := hv
  have f0 : 0 ≤ 0 + (1 * τ 5377 + 0) := hf _ (List.Mem.head _)
  have f1 : 0 ≤ 0 + (1 * τ 5633 + 0) := hf _ (List.Mem.tail _ (List.Mem.head _))
  have f2 : 0 ≤ (-1) + (1 * τ 19001 + 0) := hf _ (List.Mem.tail _ (List.Mem.tail _ (List.Mem.head _)))
  have f3 : 0 ≤ 1 + ((-1) * τ 19001 + 0) := hf _ (List.Mem.tail _ (List.Mem.tail _ (List.Mem.tail _ (List.Mem.head _))))
  have f4 : 0 ≤ 0 + (1 * τ 19002 + 0) := hf _ (List.Mem.tail _ (List.Mem.tail _ (List.Mem.tail _ (List.Mem.tail _ (List.Mem.head _)))))
  have f5 : 0 ≤ 60 + ((-1) * τ 19002 + 0) := hf _ (List.Mem.tail _ (List.Mem.tail _ (List.Mem.tail _ (List.Mem.tail _ (List.Mem.tail _ (List.Mem.head _))))))
  have f6 : 0 ≤ 0 + (1 * τ 19003 + 0) := hf _ (List.Mem.tail _ (List.Mem.tail _ (List.Mem.tail _ (List.Mem.tail _ (List.Mem.tail _ (List.Mem.tail _ (List.Mem.head _)))))))
  have f7 : 0 ≤ 0 + ((-1) * τ 19003 + 0) := hf _ (List.Mem.tail _ (List.Mem.tail _ (List.Mem.tail _ (List.Mem.tail _ (List.Mem.tail _ (List.Mem.tail _ (List.Mem.tail _ (List.Mem.head _))))))))
  have f8 : 0 ≤ 0 + (1 * τ 19004 + 0) := hf _ (List.Mem.tail _ (List.Mem.tail _ (List.Mem.tail _ (List.Mem.tail _ (List.Mem.tail _ (List.Mem.tail _ (List.Mem.tail _ (List.Mem.tail _ (List.Mem.head _)))))))))
  have f9 : 0 ≤ 0 + (1 * τ 19005 + 0) := hf _ (List.Mem.tail _ (List.Mem.tail _ (List.Mem.tail _ (List.Mem.tail _ (List.Mem.tail _ (List.Mem.tail _ (List.Mem.tail _ (List.Mem.tail _ (List.Mem.tail _ (List.Mem.head _))))))))))
  have f10 : 0 ≤ 60 + ((-1) * τ 19005 + 0) := hf _ (List.Mem.tail _ (List.Mem.tail _ (List.Mem.tail _ (List.Mem.tail _ (List.Mem.tail _ (List.Mem.tail _ (List.Mem.tail _ (List.Mem.tail _ (List.Mem.tail _ (List.Mem.tail _ (List.Mem.head _)))))))))))
  have f11 : 0 ≤ (-1) + ((-1) * τ 5378 + (1 * τ 19004 + (1 * τ 19005 + 0))) := hf _ (List.Mem.tail _ (List.Mem.tail _ (List.Mem.tail _ (List.Mem.tail _ (List.Mem.tail _ (List.Mem.tail _ (List.Mem.tail _ (List.Mem.tail _ (List.Mem.tail _ (List.Mem.tail _ (List.Mem.tail _ (List.Mem.head _))))))))))))
  have f12 : 0 ≤ 0 + (1 * τ 5634 + ((-1) * τ 19002 + ((-1) * τ 19005 + 0))) := hf _ (List.Mem.tail _ (List.Mem.tail _ (List.Mem.tail _ (List.Mem.tail _ (List.Mem.tail _ (List.Mem.tail _ (List.Mem.tail _ (List.Mem.tail _ (List.Mem.tail _ (List.Mem.tail _ (List.Mem.tail _ (List.Mem.tail _ (List.Mem.head _)))))))))))))
  have f13 : 0 ≤ 0 + (1 * τ 5377 + ((-1) * τ 5633 + 0)) := hf _ (List.Mem.tail _ (List.Mem.tail _ (List.Mem.tail _ (List.Mem.tail _ (List.Mem.tail _ (List.Mem.tail _ (List.Mem.tail _ (List.Mem.tail _ (List.Mem.tail _ (List.Mem.tail _ (List.Mem.tail _ (List.Mem.tail _ (List.Mem.tail _ (List.Mem.head _))))))))))))))
  have f14 : 0 ≤ 0 + ((-1) * τ 5377 + (1 * τ 5633 + 0)) := hf _ (List.Mem.tail _ (List.Mem.tail _ (List.Mem.tail _ (List.Mem.tail _ (List.Mem.tail _ (List.Mem.tail _ (List.Mem.tail _ (List.Mem.tail _ (List.Mem.tail _ (List.Mem.tail _ (List.Mem.tail _ (List.Mem.tail _ (List.Mem.tail _ (List.Mem.tail _ (List.Mem.head _)))))))))))))))
  clear hf hm
  have ej : a1 = 1 := by omega
  subst ej
  have ek : a3 = 0 := by omega
  subst ek
  simp only [lw_sel0, lw_sel1, lw_sel2, lw_sel3]
  refine Or.inr ⟨by omega, fun h => ?_⟩
  obtain ⟨z0, z1, z2, z3, z4, z5, z6, z7, z8, z9, z10, z11⟩ := h
  omega
theorem lw_px_27 {as : List rv_A} {σ σ' : Nat → Int} {o : rv_O} {x : Int32} {a1 a2 a3 a4 a5 : Int} {τ : Nat → Int} (hx : o.1 = some (.inl x)) (h1 : lw_av as 1 = a1) (h2 : lw_av as 2 = a2) (h3 : lw_av as 3 = a3) (h4 : lw_av as 4 = a4) (h5 : lw_av as 5 = a5) (hb : ∀ s, (sx_sr s).1 ≤ σ s ∧ σ s ≤ (sx_sr s).2) (hW : lw_W ([], [(0, [(5377, 1)]), ((-1), [(5889, (-1))]), (0, [(19001, 1)]), (0, [(19001, (-1))]), (0, [(19002, 1)]), ((-2), [(19003, 1)]), (2, [(19003, (-1))]), (0, [(19004, 1)]), (0, [(19005, 1)])], [(9, (2, []))], some (false, (0, []))) as σ σ' τ o) : lw_px_C a1 a2 a3 a4 a5 x.toInt σ σ' := by
  unfold lw_px_C
  have b5377 : (-1) ≤ σ 5377 ∧ σ 5377 ≤ 3 := by
    have h0 := hb 5377
    rw [show sx_sr 5377 = ((-1), 3) from by decide +kernel] at h0
    exact h0
  have b5633 : (-1) ≤ σ 5633 ∧ σ 5633 ≤ 3 := by
    have h0 := hb 5633
    rw [show sx_sr 5633 = ((-1), 3) from by decide +kernel] at h0
    exact h0
  have b5889 : (-1) ≤ σ 5889 ∧ σ 5889 ≤ 3 := by
    have h0 := hb 5889
    rw [show sx_sr 5889 = ((-1), 3) from by decide +kernel] at h0
    exact h0
  have b6145 : (-1) ≤ σ 6145 ∧ σ 6145 ≤ 3 := by
    have h0 := hb 6145
    rw [show sx_sr 6145 = ((-1), 3) from by decide +kernel] at h0
    exact h0
  have b5378 : 0 ≤ σ 5378 ∧ σ 5378 ≤ 60 := by
    have h0 := hb 5378
    rw [show sx_sr 5378 = (0, 60) from by decide +kernel] at h0
    exact h0
  have b5634 : 0 ≤ σ 5634 ∧ σ 5634 ≤ 60 := by
    have h0 := hb 5634
    rw [show sx_sr 5634 = (0, 60) from by decide +kernel] at h0
    exact h0
  have b5890 : 0 ≤ σ 5890 ∧ σ 5890 ≤ 60 := by
    have h0 := hb 5890
    rw [show sx_sr 5890 = (0, 60) from by decide +kernel] at h0
    exact h0
  have b6146 : 0 ≤ σ 6146 ∧ σ 6146 ≤ 60 := by
    have h0 := hb 6146
    rw [show sx_sr 6146 = (0, 60) from by decide +kernel] at h0
    exact h0
  obtain ⟨hs, ht, hf, hr, hm, hw⟩ := hW
  have e1 : τ 19001 = a1 := by rw [ht 19001 (by decide) (by decide)]; exact h1
  have e2 : τ 19002 = a2 := by rw [ht 19002 (by decide) (by decide)]; exact h2
  have e3 : τ 19003 = a3 := by rw [ht 19003 (by decide) (by decide)]; exact h3
  have e4 : τ 19004 = a4 := by rw [ht 19004 (by decide) (by decide)]; exact h4
  have e5 : τ 19005 = a5 := by rw [ht 19005 (by decide) (by decide)]; exact h5
  have s5377 : τ 5377 = σ 5377 := hs 5377 (by decide)
  have s5378 : τ 5378 = σ 5378 := hs 5378 (by decide)
  have s5633 : τ 5633 = σ 5633 := hs 5633 (by decide)
  have s5634 : τ 5634 = σ 5634 := hs 5634 (by decide)
  have s5889 : τ 5889 = σ 5889 := hs 5889 (by decide)
  have s5890 : τ 5890 = σ 5890 := hs 5890 (by decide)
  have s6145 : τ 6145 = σ 6145 := hs 6145 (by decide)
  have s6146 : τ 6146 = σ 6146 := hs 6146 (by decide)
  clear hs ht hb
  rw [hx] at hr
  obtain ⟨y, hy, hv⟩ := hr
  cases hy
  replace hv : x.toInt = 0 + 0 := hv
  have f0 : 0 ≤ 0 + (1 * τ 5377 + 0) := hf _ (List.Mem.head _)
  have f1 : 0 ≤ (-1) + ((-1) * τ 5889 + 0) := hf _ (List.Mem.tail _ (List.Mem.head _))
  have f2 : 0 ≤ 0 + (1 * τ 19001 + 0) := hf _ (List.Mem.tail _ (List.Mem.tail _ (List.Mem.head _)))
  have f3 : 0 ≤ 0 + ((-1) * τ 19001 + 0) := hf _ (List.Mem.tail _ (List.Mem.tail _ (List.Mem.tail _ (List.Mem.head _))))
  have f4 : 0 ≤ 0 + (1 * τ 19002 + 0) := hf _ (List.Mem.tail _ (List.Mem.tail _ (List.Mem.tail _ (List.Mem.tail _ (List.Mem.head _)))))
  have f5 : 0 ≤ (-2) + (1 * τ 19003 + 0) := hf _ (List.Mem.tail _ (List.Mem.tail _ (List.Mem.tail _ (List.Mem.tail _ (List.Mem.tail _ (List.Mem.head _))))))
  have f6 : 0 ≤ 2 + ((-1) * τ 19003 + 0) := hf _ (List.Mem.tail _ (List.Mem.tail _ (List.Mem.tail _ (List.Mem.tail _ (List.Mem.tail _ (List.Mem.tail _ (List.Mem.head _)))))))
  have f7 : 0 ≤ 0 + (1 * τ 19004 + 0) := hf _ (List.Mem.tail _ (List.Mem.tail _ (List.Mem.tail _ (List.Mem.tail _ (List.Mem.tail _ (List.Mem.tail _ (List.Mem.tail _ (List.Mem.head _))))))))
  have f8 : 0 ≤ 0 + (1 * τ 19005 + 0) := hf _ (List.Mem.tail _ (List.Mem.tail _ (List.Mem.tail _ (List.Mem.tail _ (List.Mem.tail _ (List.Mem.tail _ (List.Mem.tail _ (List.Mem.tail _ (List.Mem.head _)))))))))
  clear hf hm
  have ej : a1 = 0 := by omega
  subst ej
  have ek : a3 = 2 := by omega
  subst ek
  simp only [lw_sel0, lw_sel1, lw_sel2, lw_sel3]
  refine Or.inr ⟨by omega, fun h => ?_⟩
  obtain ⟨z0, z1, z2, z3, z4, z5, z6, z7, z8, z9, z10, z11⟩ := h
  omega
theorem lw_px_28 {as : List rv_A} {σ σ' : Nat → Int} {o : rv_O} {x : Int32} {a1 a2 a3 a4 a5 : Int} {τ : Nat → Int} (hx : o.1 = some (.inl x)) (h1 : lw_av as 1 = a1) (h2 : lw_av as 2 = a2) (h3 : lw_av as 3 = a3) (h4 : lw_av as 4 = a4) (h5 : lw_av as 5 = a5) (hb : ∀ s, (sx_sr s).1 ≤ σ s ∧ σ s ≤ (sx_sr s).2) (hW : lw_W ([], [(0, [(5377, 1)]), (0, [(5889, 1)]), (0, [(19001, 1)]), (0, [(19001, (-1))]), (0, [(19002, 1)]), ((-2), [(19003, 1)]), (2, [(19003, (-1))]), (0, [(19004, 1)]), (0, [(19005, 1)]), ((-1), [(5378, (-1)), (19002, 1), (19005, 1)]), (0, [(5377, (-1)), (5889, 1)]), (0, [(5377, 1), (5889, (-1))])], [(9, (3, []))], some (false, (0, []))) as σ σ' τ o) : lw_px_C a1 a2 a3 a4 a5 x.toInt σ σ' := by
  unfold lw_px_C
  have b5377 : (-1) ≤ σ 5377 ∧ σ 5377 ≤ 3 := by
    have h0 := hb 5377
    rw [show sx_sr 5377 = ((-1), 3) from by decide +kernel] at h0
    exact h0
  have b5633 : (-1) ≤ σ 5633 ∧ σ 5633 ≤ 3 := by
    have h0 := hb 5633
    rw [show sx_sr 5633 = ((-1), 3) from by decide +kernel] at h0
    exact h0
  have b5889 : (-1) ≤ σ 5889 ∧ σ 5889 ≤ 3 := by
    have h0 := hb 5889
    rw [show sx_sr 5889 = ((-1), 3) from by decide +kernel] at h0
    exact h0
  have b6145 : (-1) ≤ σ 6145 ∧ σ 6145 ≤ 3 := by
    have h0 := hb 6145
    rw [show sx_sr 6145 = ((-1), 3) from by decide +kernel] at h0
    exact h0
  have b5378 : 0 ≤ σ 5378 ∧ σ 5378 ≤ 60 := by
    have h0 := hb 5378
    rw [show sx_sr 5378 = (0, 60) from by decide +kernel] at h0
    exact h0
  have b5634 : 0 ≤ σ 5634 ∧ σ 5634 ≤ 60 := by
    have h0 := hb 5634
    rw [show sx_sr 5634 = (0, 60) from by decide +kernel] at h0
    exact h0
  have b5890 : 0 ≤ σ 5890 ∧ σ 5890 ≤ 60 := by
    have h0 := hb 5890
    rw [show sx_sr 5890 = (0, 60) from by decide +kernel] at h0
    exact h0
  have b6146 : 0 ≤ σ 6146 ∧ σ 6146 ≤ 60 := by
    have h0 := hb 6146
    rw [show sx_sr 6146 = (0, 60) from by decide +kernel] at h0
    exact h0
  obtain ⟨hs, ht, hf, hr, hm, hw⟩ := hW
  have e1 : τ 19001 = a1 := by rw [ht 19001 (by decide) (by decide)]; exact h1
  have e2 : τ 19002 = a2 := by rw [ht 19002 (by decide) (by decide)]; exact h2
  have e3 : τ 19003 = a3 := by rw [ht 19003 (by decide) (by decide)]; exact h3
  have e4 : τ 19004 = a4 := by rw [ht 19004 (by decide) (by decide)]; exact h4
  have e5 : τ 19005 = a5 := by rw [ht 19005 (by decide) (by decide)]; exact h5
  have s5377 : τ 5377 = σ 5377 := hs 5377 (by decide)
  have s5378 : τ 5378 = σ 5378 := hs 5378 (by decide)
  have s5633 : τ 5633 = σ 5633 := hs 5633 (by decide)
  have s5634 : τ 5634 = σ 5634 := hs 5634 (by decide)
  have s5889 : τ 5889 = σ 5889 := hs 5889 (by decide)
  have s5890 : τ 5890 = σ 5890 := hs 5890 (by decide)
  have s6145 : τ 6145 = σ 6145 := hs 6145 (by decide)
  have s6146 : τ 6146 = σ 6146 := hs 6146 (by decide)
  clear hs ht hb
  rw [hx] at hr
  obtain ⟨y, hy, hv⟩ := hr
  cases hy
  replace hv : x.toInt = 0 + 0 := hv
  have f0 : 0 ≤ 0 + (1 * τ 5377 + 0) := hf _ (List.Mem.head _)
  have f1 : 0 ≤ 0 + (1 * τ 5889 + 0) := hf _ (List.Mem.tail _ (List.Mem.head _))
  have f2 : 0 ≤ 0 + (1 * τ 19001 + 0) := hf _ (List.Mem.tail _ (List.Mem.tail _ (List.Mem.head _)))
  have f3 : 0 ≤ 0 + ((-1) * τ 19001 + 0) := hf _ (List.Mem.tail _ (List.Mem.tail _ (List.Mem.tail _ (List.Mem.head _))))
  have f4 : 0 ≤ 0 + (1 * τ 19002 + 0) := hf _ (List.Mem.tail _ (List.Mem.tail _ (List.Mem.tail _ (List.Mem.tail _ (List.Mem.head _)))))
  have f5 : 0 ≤ (-2) + (1 * τ 19003 + 0) := hf _ (List.Mem.tail _ (List.Mem.tail _ (List.Mem.tail _ (List.Mem.tail _ (List.Mem.tail _ (List.Mem.head _))))))
  have f6 : 0 ≤ 2 + ((-1) * τ 19003 + 0) := hf _ (List.Mem.tail _ (List.Mem.tail _ (List.Mem.tail _ (List.Mem.tail _ (List.Mem.tail _ (List.Mem.tail _ (List.Mem.head _)))))))
  have f7 : 0 ≤ 0 + (1 * τ 19004 + 0) := hf _ (List.Mem.tail _ (List.Mem.tail _ (List.Mem.tail _ (List.Mem.tail _ (List.Mem.tail _ (List.Mem.tail _ (List.Mem.tail _ (List.Mem.head _))))))))
  have f8 : 0 ≤ 0 + (1 * τ 19005 + 0) := hf _ (List.Mem.tail _ (List.Mem.tail _ (List.Mem.tail _ (List.Mem.tail _ (List.Mem.tail _ (List.Mem.tail _ (List.Mem.tail _ (List.Mem.tail _ (List.Mem.head _)))))))))
  have f9 : 0 ≤ (-1) + ((-1) * τ 5378 + (1 * τ 19002 + (1 * τ 19005 + 0))) := hf _ (List.Mem.tail _ (List.Mem.tail _ (List.Mem.tail _ (List.Mem.tail _ (List.Mem.tail _ (List.Mem.tail _ (List.Mem.tail _ (List.Mem.tail _ (List.Mem.tail _ (List.Mem.head _))))))))))
  have f10 : 0 ≤ 0 + ((-1) * τ 5377 + (1 * τ 5889 + 0)) := hf _ (List.Mem.tail _ (List.Mem.tail _ (List.Mem.tail _ (List.Mem.tail _ (List.Mem.tail _ (List.Mem.tail _ (List.Mem.tail _ (List.Mem.tail _ (List.Mem.tail _ (List.Mem.tail _ (List.Mem.head _)))))))))))
  have f11 : 0 ≤ 0 + (1 * τ 5377 + ((-1) * τ 5889 + 0)) := hf _ (List.Mem.tail _ (List.Mem.tail _ (List.Mem.tail _ (List.Mem.tail _ (List.Mem.tail _ (List.Mem.tail _ (List.Mem.tail _ (List.Mem.tail _ (List.Mem.tail _ (List.Mem.tail _ (List.Mem.tail _ (List.Mem.head _))))))))))))
  clear hf hm
  have ej : a1 = 0 := by omega
  subst ej
  have ek : a3 = 2 := by omega
  subst ek
  simp only [lw_sel0, lw_sel1, lw_sel2, lw_sel3]
  refine Or.inr ⟨by omega, fun h => ?_⟩
  obtain ⟨z0, z1, z2, z3, z4, z5, z6, z7, z8, z9, z10, z11⟩ := h
  omega
theorem lw_px_29 {as : List rv_A} {σ σ' : Nat → Int} {o : rv_O} {x : Int32} {a1 a2 a3 a4 a5 : Int} {τ : Nat → Int} (hx : o.1 = some (.inl x)) (h1 : lw_av as 1 = a1) (h2 : lw_av as 2 = a2) (h3 : lw_av as 3 = a3) (h4 : lw_av as 4 = a4) (h5 : lw_av as 5 = a5) (hb : ∀ s, (sx_sr s).1 ≤ σ s ∧ σ s ≤ (sx_sr s).2) (hW : lw_W ([], [(0, [(5377, 1)]), (0, [(5889, 1)]), (0, [(19001, 1)]), (0, [(19001, (-1))]), (0, [(19002, 1)]), (60, [(19002, (-1))]), ((-2), [(19003, 1)]), (2, [(19003, (-1))]), (0, [(19004, 1)]), (0, [(19005, 1)]), (60, [(19005, (-1))]), ((-1), [(5890, (-1)), (19004, 1), (19005, 1)]), (0, [(5378, 1), (19002, (-1)), (19005, (-1))]), (0, [(5377, (-1)), (5889, 1)]), (0, [(5377, 1), (5889, (-1))])], [(9, (3, []))], some (false, (0, []))) as σ σ' τ o) : lw_px_C a1 a2 a3 a4 a5 x.toInt σ σ' := by
  unfold lw_px_C
  have b5377 : (-1) ≤ σ 5377 ∧ σ 5377 ≤ 3 := by
    have h0 := hb 5377
    rw [show sx_sr 5377 = ((-1), 3) from by decide +kernel] at h0
    exact h0
  have b5633 : (-1) ≤ σ 5633 ∧ σ 5633 ≤ 3 := by
    have h0 := hb 5633
    rw [show sx_sr 5633 = ((-1), 3) from by decide +kernel] at h0
    exact h0
  have b5889 : (-1) ≤ σ 5889 ∧ σ 5889 ≤ 3 := by
    have h0 := hb 5889
    rw [show sx_sr 5889 = ((-1), 3) from by decide +kernel] at h0
    exact h0
  have b6145 : (-1) ≤ σ 6145 ∧ σ 6145 ≤ 3 := by
    have h0 := hb 6145
    rw [show sx_sr 6145 = ((-1), 3) from by decide +kernel] at h0
    exact h0
  have b5378 : 0 ≤ σ 5378 ∧ σ 5378 ≤ 60 := by
    have h0 := hb 5378
    rw [show sx_sr 5378 = (0, 60) from by decide +kernel] at h0
    exact h0
  have b5634 : 0 ≤ σ 5634 ∧ σ 5634 ≤ 60 := by
    have h0 := hb 5634
    rw [show sx_sr 5634 = (0, 60) from by decide +kernel] at h0
    exact h0
  have b5890 : 0 ≤ σ 5890 ∧ σ 5890 ≤ 60 := by
    have h0 := hb 5890
    rw [show sx_sr 5890 = (0, 60) from by decide +kernel] at h0
    exact h0
  have b6146 : 0 ≤ σ 6146 ∧ σ 6146 ≤ 60 := by
    have h0 := hb 6146
    rw [show sx_sr 6146 = (0, 60) from by decide +kernel] at h0
    exact h0
  obtain ⟨hs, ht, hf, hr, hm, hw⟩ := hW
  have e1 : τ 19001 = a1 := by rw [ht 19001 (by decide) (by decide)]; exact h1
  have e2 : τ 19002 = a2 := by rw [ht 19002 (by decide) (by decide)]; exact h2
  have e3 : τ 19003 = a3 := by rw [ht 19003 (by decide) (by decide)]; exact h3
  have e4 : τ 19004 = a4 := by rw [ht 19004 (by decide) (by decide)]; exact h4
  have e5 : τ 19005 = a5 := by rw [ht 19005 (by decide) (by decide)]; exact h5
  have s5377 : τ 5377 = σ 5377 := hs 5377 (by decide)
  have s5378 : τ 5378 = σ 5378 := hs 5378 (by decide)
  have s5633 : τ 5633 = σ 5633 := hs 5633 (by decide)
  have s5634 : τ 5634 = σ 5634 := hs 5634 (by decide)
  have s5889 : τ 5889 = σ 5889 := hs 5889 (by decide)
  have s5890 : τ 5890 = σ 5890 := hs 5890 (by decide)
  have s6145 : τ 6145 = σ 6145 := hs 6145 (by decide)
  have s6146 : τ 6146 = σ 6146 := hs 6146 (by decide)
  clear hs ht hb
  rw [hx] at hr
  obtain ⟨y, hy, hv⟩ := hr
  cases hy
  replace hv : x.toInt = 0 + 0 := hv
  have f0 : 0 ≤ 0 + (1 * τ 5377 + 0) := hf _ (List.Mem.head _)
  have f1 : 0 ≤ 0 + (1 * τ 5889 + 0) := hf _ (List.Mem.tail _ (List.Mem.head _))
  have f2 : 0 ≤ 0 + (1 * τ 19001 + 0) := hf _ (List.Mem.tail _ (List.Mem.tail _ (List.Mem.head _)))
  have f3 : 0 ≤ 0 + ((-1) * τ 19001 + 0) := hf _ (List.Mem.tail _ (List.Mem.tail _ (List.Mem.tail _ (List.Mem.head _))))
  have f4 : 0 ≤ 0 + (1 * τ 19002 + 0) := hf _ (List.Mem.tail _ (List.Mem.tail _ (List.Mem.tail _ (List.Mem.tail _ (List.Mem.head _)))))
  have f5 : 0 ≤ 60 + ((-1) * τ 19002 + 0) := hf _ (List.Mem.tail _ (List.Mem.tail _ (List.Mem.tail _ (List.Mem.tail _ (List.Mem.tail _ (List.Mem.head _))))))
  have f6 : 0 ≤ (-2) + (1 * τ 19003 + 0) := hf _ (List.Mem.tail _ (List.Mem.tail _ (List.Mem.tail _ (List.Mem.tail _ (List.Mem.tail _ (List.Mem.tail _ (List.Mem.head _)))))))
  have f7 : 0 ≤ 2 + ((-1) * τ 19003 + 0) := hf _ (List.Mem.tail _ (List.Mem.tail _ (List.Mem.tail _ (List.Mem.tail _ (List.Mem.tail _ (List.Mem.tail _ (List.Mem.tail _ (List.Mem.head _))))))))
  have f8 : 0 ≤ 0 + (1 * τ 19004 + 0) := hf _ (List.Mem.tail _ (List.Mem.tail _ (List.Mem.tail _ (List.Mem.tail _ (List.Mem.tail _ (List.Mem.tail _ (List.Mem.tail _ (List.Mem.tail _ (List.Mem.head _)))))))))
  have f9 : 0 ≤ 0 + (1 * τ 19005 + 0) := hf _ (List.Mem.tail _ (List.Mem.tail _ (List.Mem.tail _ (List.Mem.tail _ (List.Mem.tail _ (List.Mem.tail _ (List.Mem.tail _ (List.Mem.tail _ (List.Mem.tail _ (List.Mem.head _))))))))))
  have f10 : 0 ≤ 60 + ((-1) * τ 19005 + 0) := hf _ (List.Mem.tail _ (List.Mem.tail _ (List.Mem.tail _ (List.Mem.tail _ (List.Mem.tail _ (List.Mem.tail _ (List.Mem.tail _ (List.Mem.tail _ (List.Mem.tail _ (List.Mem.tail _ (List.Mem.head _)))))))))))
  have f11 : 0 ≤ (-1) + ((-1) * τ 5890 + (1 * τ 19004 + (1 * τ 19005 + 0))) := hf _ (List.Mem.tail _ (List.Mem.tail _ (List.Mem.tail _ (List.Mem.tail _ (List.Mem.tail _ (List.Mem.tail _ (List.Mem.tail _ (List.Mem.tail _ (List.Mem.tail _ (List.Mem.tail _ (List.Mem.tail _ (List.Mem.head _))))))))))))
  have f12 : 0 ≤ 0 + (1 * τ 5378 + ((-1) * τ 19002 + ((-1) * τ 19005 + 0))) := hf _ (List.Mem.tail _ (List.Mem.tail _ (List.Mem.tail _ (List.Mem.tail _ (List.Mem.tail _ (List.Mem.tail _ (List.Mem.tail _ (List.Mem.tail _ (List.Mem.tail _ (List.Mem.tail _ (List.Mem.tail _ (List.Mem.tail _ (List.Mem.head _)))))))))))))
  have f13 : 0 ≤ 0 + ((-1) * τ 5377 + (1 * τ 5889 + 0)) := hf _ (List.Mem.tail _ (List.Mem.tail _ (List.Mem.tail _ (List.Mem.tail _ (List.Mem.tail _ (List.Mem.tail _ (List.Mem.tail _ (List.Mem.tail _ (List.Mem.tail _ (List.Mem.tail _ (List.Mem.tail _ (List.Mem.tail _ (List.Mem.tail _ (List.Mem.head _))))))))))))))
  have f14 : 0 ≤ 0 + (1 * τ 5377 + ((-1) * τ 5889 + 0)) := hf _ (List.Mem.tail _ (List.Mem.tail _ (List.Mem.tail _ (List.Mem.tail _ (List.Mem.tail _ (List.Mem.tail _ (List.Mem.tail _ (List.Mem.tail _ (List.Mem.tail _ (List.Mem.tail _ (List.Mem.tail _ (List.Mem.tail _ (List.Mem.tail _ (List.Mem.tail _ (List.Mem.head _)))))))))))))))
  clear hf hm
  have ej : a1 = 0 := by omega
  subst ej
  have ek : a3 = 2 := by omega
  subst ek
  simp only [lw_sel0, lw_sel1, lw_sel2, lw_sel3]
  refine Or.inr ⟨by omega, fun h => ?_⟩
  obtain ⟨z0, z1, z2, z3, z4, z5, z6, z7, z8, z9, z10, z11⟩ := h
  omega
theorem lw_px_30 {as : List rv_A} {σ σ' : Nat → Int} {o : rv_O} {x : Int32} {a1 a2 a3 a4 a5 : Int} {τ : Nat → Int} (hx : o.1 = some (.inl x)) (h1 : lw_av as 1 = a1) (h2 : lw_av as 2 = a2) (h3 : lw_av as 3 = a3) (h4 : lw_av as 4 = a4) (h5 : lw_av as 5 = a5) (hb : ∀ s, (sx_sr s).1 ≤ σ s ∧ σ s ≤ (sx_sr s).2) (hW : lw_W ([], [(0, [(5377, 1)]), (0, [(5889, 1)]), ((-2), [(19001, 1)]), (2, [(19001, (-1))]), (0, [(19002, 1)]), (0, [(19003, 1)]), (0, [(19003, (-1))]), (0, [(19004, 1)]), (0, [(19005, 1)]), ((-1), [(5890, (-1)), (19002, 1), (19005, 1)]), (0, [(5377, 1), (5889, (-1))]), (0, [(5377, (-1)), (5889, 1)])], [(9, (3, []))], some (false, (0, []))) as σ σ' τ o) : lw_px_C a1 a2 a3 a4 a5 x.toInt σ σ' := by
  unfold lw_px_C
  have b5377 : (-1) ≤ σ 5377 ∧ σ 5377 ≤ 3 := by
    have h0 := hb 5377
    rw [show sx_sr 5377 = ((-1), 3) from by decide +kernel] at h0
    exact h0
  have b5633 : (-1) ≤ σ 5633 ∧ σ 5633 ≤ 3 := by
    have h0 := hb 5633
    rw [show sx_sr 5633 = ((-1), 3) from by decide +kernel] at h0
    exact h0
  have b5889 : (-1) ≤ σ 5889 ∧ σ 5889 ≤ 3 := by
    have h0 := hb 5889
    rw [show sx_sr 5889 = ((-1), 3) from by decide +kernel] at h0
    exact h0
  have b6145 : (-1) ≤ σ 6145 ∧ σ 6145 ≤ 3 := by
    have h0 := hb 6145
    rw [show sx_sr 6145 = ((-1), 3) from by decide +kernel] at h0
    exact h0
  have b5378 : 0 ≤ σ 5378 ∧ σ 5378 ≤ 60 := by
    have h0 := hb 5378
    rw [show sx_sr 5378 = (0, 60) from by decide +kernel] at h0
    exact h0
  have b5634 : 0 ≤ σ 5634 ∧ σ 5634 ≤ 60 := by
    have h0 := hb 5634
    rw [show sx_sr 5634 = (0, 60) from by decide +kernel] at h0
    exact h0
  have b5890 : 0 ≤ σ 5890 ∧ σ 5890 ≤ 60 := by
    have h0 := hb 5890
    rw [show sx_sr 5890 = (0, 60) from by decide +kernel] at h0
    exact h0
  have b6146 : 0 ≤ σ 6146 ∧ σ 6146 ≤ 60 := by
    have h0 := hb 6146
    rw [show sx_sr 6146 = (0, 60) from by decide +kernel] at h0
    exact h0
  obtain ⟨hs, ht, hf, hr, hm, hw⟩ := hW
  have e1 : τ 19001 = a1 := by rw [ht 19001 (by decide) (by decide)]; exact h1
  have e2 : τ 19002 = a2 := by rw [ht 19002 (by decide) (by decide)]; exact h2
  have e3 : τ 19003 = a3 := by rw [ht 19003 (by decide) (by decide)]; exact h3
  have e4 : τ 19004 = a4 := by rw [ht 19004 (by decide) (by decide)]; exact h4
  have e5 : τ 19005 = a5 := by rw [ht 19005 (by decide) (by decide)]; exact h5
  have s5377 : τ 5377 = σ 5377 := hs 5377 (by decide)
  have s5378 : τ 5378 = σ 5378 := hs 5378 (by decide)
  have s5633 : τ 5633 = σ 5633 := hs 5633 (by decide)
  have s5634 : τ 5634 = σ 5634 := hs 5634 (by decide)
  have s5889 : τ 5889 = σ 5889 := hs 5889 (by decide)
  have s5890 : τ 5890 = σ 5890 := hs 5890 (by decide)
  have s6145 : τ 6145 = σ 6145 := hs 6145 (by decide)
  have s6146 : τ 6146 = σ 6146 := hs 6146 (by decide)
  clear hs ht hb
  rw [hx] at hr
  obtain ⟨y, hy, hv⟩ := hr
  cases hy
  replace hv : x.toInt = 0 + 0 := hv
  have f0 : 0 ≤ 0 + (1 * τ 5377 + 0) := hf _ (List.Mem.head _)
  have f1 : 0 ≤ 0 + (1 * τ 5889 + 0) := hf _ (List.Mem.tail _ (List.Mem.head _))
  have f2 : 0 ≤ (-2) + (1 * τ 19001 + 0) := hf _ (List.Mem.tail _ (List.Mem.tail _ (List.Mem.head _)))
  have f3 : 0 ≤ 2 + ((-1) * τ 19001 + 0) := hf _ (List.Mem.tail _ (List.Mem.tail _ (List.Mem.tail _ (List.Mem.head _))))
  have f4 : 0 ≤ 0 + (1 * τ 19002 + 0) := hf _ (List.Mem.tail _ (List.Mem.tail _ (List.Mem.tail _ (List.Mem.tail _ (List.Mem.head _)))))
  have f5 : 0 ≤ 0 + (1 * τ 19003 + 0) := hf _ (List.Mem.tail _ (List.Mem.tail _ (List.Mem.tail _ (List.Mem.tail _ (List.Mem.tail _ (List.Mem.head _))))))
  have f6 : 0 ≤ 0 + ((-1) * τ 19003 + 0) := hf _ (List.Mem.tail _ (List.Mem.tail _ (List.Mem.tail _ (List.Mem.tail _ (List.Mem.tail _ (List.Mem.tail _ (List.Mem.head _)))))))
  have f7 : 0 ≤ 0 + (1 * τ 19004 + 0) := hf _ (List.Mem.tail _ (List.Mem.tail _ (List.Mem.tail _ (List.Mem.tail _ (List.Mem.tail _ (List.Mem.tail _ (List.Mem.tail _ (List.Mem.head _))))))))
  have f8 : 0 ≤ 0 + (1 * τ 19005 + 0) := hf _ (List.Mem.tail _ (List.Mem.tail _ (List.Mem.tail _ (List.Mem.tail _ (List.Mem.tail _ (List.Mem.tail _ (List.Mem.tail _ (List.Mem.tail _ (List.Mem.head _)))))))))
  have f9 : 0 ≤ (-1) + ((-1) * τ 5890 + (1 * τ 19002 + (1 * τ 19005 + 0))) := hf _ (List.Mem.tail _ (List.Mem.tail _ (List.Mem.tail _ (List.Mem.tail _ (List.Mem.tail _ (List.Mem.tail _ (List.Mem.tail _ (List.Mem.tail _ (List.Mem.tail _ (List.Mem.head _))))))))))
  have f10 : 0 ≤ 0 + (1 * τ 5377 + ((-1) * τ 5889 + 0)) := hf _ (List.Mem.tail _ (List.Mem.tail _ (List.Mem.tail _ (List.Mem.tail _ (List.Mem.tail _ (List.Mem.tail _ (List.Mem.tail _ (List.Mem.tail _ (List.Mem.tail _ (List.Mem.tail _ (List.Mem.head _)))))))))))
  have f11 : 0 ≤ 0 + ((-1) * τ 5377 + (1 * τ 5889 + 0)) := hf _ (List.Mem.tail _ (List.Mem.tail _ (List.Mem.tail _ (List.Mem.tail _ (List.Mem.tail _ (List.Mem.tail _ (List.Mem.tail _ (List.Mem.tail _ (List.Mem.tail _ (List.Mem.tail _ (List.Mem.tail _ (List.Mem.head _))))))))))))
  clear hf hm
  have ej : a1 = 2 := by omega
  subst ej
  have ek : a3 = 0 := by omega
  subst ek
  simp only [lw_sel0, lw_sel1, lw_sel2, lw_sel3]
  refine Or.inr ⟨by omega, fun h => ?_⟩
  obtain ⟨z0, z1, z2, z3, z4, z5, z6, z7, z8, z9, z10, z11⟩ := h
  omega
theorem lw_px_31 {as : List rv_A} {σ σ' : Nat → Int} {o : rv_O} {x : Int32} {a1 a2 a3 a4 a5 : Int} {τ : Nat → Int} (hx : o.1 = some (.inl x)) (h1 : lw_av as 1 = a1) (h2 : lw_av as 2 = a2) (h3 : lw_av as 3 = a3) (h4 : lw_av as 4 = a4) (h5 : lw_av as 5 = a5) (hb : ∀ s, (sx_sr s).1 ≤ σ s ∧ σ s ≤ (sx_sr s).2) (hW : lw_W ([], [(0, [(5377, 1)]), (0, [(5889, 1)]), ((-2), [(19001, 1)]), (2, [(19001, (-1))]), (0, [(19002, 1)]), (60, [(19002, (-1))]), (0, [(19003, 1)]), (0, [(19003, (-1))]), (0, [(19004, 1)]), (0, [(19005, 1)]), (60, [(19005, (-1))]), ((-1), [(5378, (-1)), (19004, 1), (19005, 1)]), (0, [(5890, 1), (19002, (-1)), (19005, (-1))]), (0, [(5377, 1), (5889, (-1))]), (0, [(5377, (-1)), (5889, 1)])], [(9, (3, []))], some (false, (0, []))) as σ σ' τ o) : lw_px_C a1 a2 a3 a4 a5 x.toInt σ σ' := by
  unfold lw_px_C
  have b5377 : (-1) ≤ σ 5377 ∧ σ 5377 ≤ 3 := by
    have h0 := hb 5377
    rw [show sx_sr 5377 = ((-1), 3) from by decide +kernel] at h0
    exact h0
  have b5633 : (-1) ≤ σ 5633 ∧ σ 5633 ≤ 3 := by
    have h0 := hb 5633
    rw [show sx_sr 5633 = ((-1), 3) from by decide +kernel] at h0
    exact h0
  have b5889 : (-1) ≤ σ 5889 ∧ σ 5889 ≤ 3 := by
    have h0 := hb 5889
    rw [show sx_sr 5889 = ((-1), 3) from by decide +kernel] at h0
    exact h0
  have b6145 : (-1) ≤ σ 6145 ∧ σ 6145 ≤ 3 := by
    have h0 := hb 6145
    rw [show sx_sr 6145 = ((-1), 3) from by decide +kernel] at h0
    exact h0
  have b5378 : 0 ≤ σ 5378 ∧ σ 5378 ≤ 60 := by
    have h0 := hb 5378
    rw [show sx_sr 5378 = (0, 60) from by decide +kernel] at h0
    exact h0
  have b5634 : 0 ≤ σ 5634 ∧ σ 5634 ≤ 60 := by
    have h0 := hb 5634
    rw [show sx_sr 5634 = (0, 60) from by decide +kernel] at h0
    exact h0
  have b5890 : 0 ≤ σ 5890 ∧ σ 5890 ≤ 60 := by
    have h0 := hb 5890
    rw [show sx_sr 5890 = (0, 60) from by decide +kernel] at h0
    exact h0
  have b6146 : 0 ≤ σ 6146 ∧ σ 6146 ≤ 60 := by
    have h0 := hb 6146
    rw [show sx_sr 6146 = (0, 60) from by decide +kernel] at h0
    exact h0
  obtain ⟨hs, ht, hf, hr, hm, hw⟩ := hW
  have e1 : τ 19001 = a1 := by rw [ht 19001 (by decide) (by decide)]; exact h1
  have e2 : τ 19002 = a2 := by rw [ht 19002 (by decide) (by decide)]; exact h2
  have e3 : τ 19003 = a3 := by rw [ht 19003 (by decide) (by decide)]; exact h3
  have e4 : τ 19004 = a4 := by rw [ht 19004 (by decide) (by decide)]; exact h4
  have e5 : τ 19005 = a5 := by rw [ht 19005 (by decide) (by decide)]; exact h5
  have s5377 : τ 5377 = σ 5377 := hs 5377 (by decide)
  have s5378 : τ 5378 = σ 5378 := hs 5378 (by decide)
  have s5633 : τ 5633 = σ 5633 := hs 5633 (by decide)
  have s5634 : τ 5634 = σ 5634 := hs 5634 (by decide)
  have s5889 : τ 5889 = σ 5889 := hs 5889 (by decide)
  have s5890 : τ 5890 = σ 5890 := hs 5890 (by decide)
  have s6145 : τ 6145 = σ 6145 := hs 6145 (by decide)
  have s6146 : τ 6146 = σ 6146 := hs 6146 (by decide)
  clear hs ht hb
  rw [hx] at hr
  obtain ⟨y, hy, hv⟩ := hr
  cases hy
  replace hv : x.toInt = 0 + 0 := hv
  have f0 : 0 ≤ 0 + (1 * τ 5377 + 0) := hf _ (List.Mem.head _)
  have f1 : 0 ≤ 0 + (1 * τ 5889 + 0) := hf _ (List.Mem.tail _ (List.Mem.head _))
  have f2 : 0 ≤ (-2) + (1 * τ 19001 + 0) := hf _ (List.Mem.tail _ (List.Mem.tail _ (List.Mem.head _)))
  have f3 : 0 ≤ 2 + ((-1) * τ 19001 + 0) := hf _ (List.Mem.tail _ (List.Mem.tail _ (List.Mem.tail _ (List.Mem.head _))))
  have f4 : 0 ≤ 0 + (1 * τ 19002 + 0) := hf _ (List.Mem.tail _ (List.Mem.tail _ (List.Mem.tail _ (List.Mem.tail _ (List.Mem.head _)))))
  have f5 : 0 ≤ 60 + ((-1) * τ 19002 + 0) := hf _ (List.Mem.tail _ (List.Mem.tail _ (List.Mem.tail _ (List.Mem.tail _ (List.Mem.tail _ (List.Mem.head _))))))
  have f6 : 0 ≤ 0 + (1 * τ 19003 + 0) := hf _ (List.Mem.tail _ (List.Mem.tail _ (List.Mem.tail _ (List.Mem.tail _ (List.Mem.tail _ (List.Mem.tail _ (List.Mem.head _)))))))
  have f7 : 0 ≤ 0 + ((-1) * τ 19003 + 0) := hf _ (List.Mem.tail _ (List.Mem.tail _ (List.Mem.tail _ (List.Mem.tail _ (List.Mem.tail _ (List.Mem.tail _ (List.Mem.tail _ (List.Mem.head _))))))))
  have f8 : 0 ≤ 0 + (1 * τ 19004 + 0) := hf _ (List.Mem.tail _ (List.Mem.tail _ (List.Mem.tail _ (List.Mem.tail _ (List.Mem.tail _ (List.Mem.tail _ (List.Mem.tail _ (List.Mem.tail _ (List.Mem.head _)))))))))
  have f9 : 0 ≤ 0 + (1 * τ 19005 + 0) := hf _ (List.Mem.tail _ (List.Mem.tail _ (List.Mem.tail _ (List.Mem.tail _ (List.Mem.tail _ (List.Mem.tail _ (List.Mem.tail _ (List.Mem.tail _ (List.Mem.tail _ (List.Mem.head _))))))))))
  have f10 : 0 ≤ 60 + ((-1) * τ 19005 + 0) := hf _ (List.Mem.tail _ (List.Mem.tail _ (List.Mem.tail _ (List.Mem.tail _ (List.Mem.tail _ (List.Mem.tail _ (List.Mem.tail _ (List.Mem.tail _ (List.Mem.tail _ (List.Mem.tail _ (List.Mem.head _)))))))))))
  have f11 : 0 ≤ (-1) + ((-1) * τ 5378 + (1 * τ 19004 + (1 * τ 19005 + 0))) := hf _ (List.Mem.tail _ (List.Mem.tail _ (List.Mem.tail _ (List.Mem.tail _ (List.Mem.tail _ (List.Mem.tail _ (List.Mem.tail _ (List.Mem.tail _ (List.Mem.tail _ (List.Mem.tail _ (List.Mem.tail _ (List.Mem.head _))))))))))))
  have f12 : 0 ≤ 0 + (1 * τ 5890 + ((-1) * τ 19002 + ((-1) * τ 19005 + 0))) := hf _ (List.Mem.tail _ (List.Mem.tail _ (List.Mem.tail _ (List.Mem.tail _ (List.Mem.tail _ (List.Mem.tail _ (List.Mem.tail _ (List.Mem.tail _ (List.Mem.tail _ (List.Mem.tail _ (List.Mem.tail _ (List.Mem.tail _ (List.Mem.head _)))))))))))))
  have f13 : 0 ≤ 0 + (1 * τ 5377 + ((-1) * τ 5889 + 0)) := hf _ (List.Mem.tail _ (List.Mem.tail _ (List.Mem.tail _ (List.Mem.tail _ (List.Mem.tail _ (List.Mem.tail _ (List.Mem.tail _ (List.Mem.tail _ (List.Mem.tail _ (List.Mem.tail _ (List.Mem.tail _ (List.Mem.tail _ (List.Mem.tail _ (List.Mem.head _))))))))))))))
  have f14 : 0 ≤ 0 + ((-1) * τ 5377 + (1 * τ 5889 + 0)) := hf _ (List.Mem.tail _ (List.Mem.tail _ (List.Mem.tail _ (List.Mem.tail _ (List.Mem.tail _ (List.Mem.tail _ (List.Mem.tail _ (List.Mem.tail _ (List.Mem.tail _ (List.Mem.tail _ (List.Mem.tail _ (List.Mem.tail _ (List.Mem.tail _ (List.Mem.tail _ (List.Mem.head _)))))))))))))))
  clear hf hm
  have ej : a1 = 2 := by omega
  subst ej
  have ek : a3 = 0 := by omega
  subst ek
  simp only [lw_sel0, lw_sel1, lw_sel2, lw_sel3]
  refine Or.inr ⟨by omega, fun h => ?_⟩
  obtain ⟨z0, z1, z2, z3, z4, z5, z6, z7, z8, z9, z10, z11⟩ := h
  omega
theorem lw_px_32 {as : List rv_A} {σ σ' : Nat → Int} {o : rv_O} {x : Int32} {a1 a2 a3 a4 a5 : Int} {τ : Nat → Int} (hx : o.1 = some (.inl x)) (h1 : lw_av as 1 = a1) (h2 : lw_av as 2 = a2) (h3 : lw_av as 3 = a3) (h4 : lw_av as 4 = a4) (h5 : lw_av as 5 = a5) (hb : ∀ s, (sx_sr s).1 ≤ σ s ∧ σ s ≤ (sx_sr s).2) (hW : lw_W ([], [(0, [(5377, 1)]), ((-1), [(6145, (-1))]), (0, [(19001, 1)]), (0, [(19001, (-1))]), (0, [(19002, 1)]), ((-3), [(19003, 1)]), (3, [(19003, (-1))]), (0, [(19004, 1)]), (0, [(19005, 1)])], [(9, (2, []))], some (false, (0, []))) as σ σ' τ o) : lw_px_C a1 a2 a3 a4 a5 x.toInt σ σ' := by
  unfold lw_px_C
  have b5377 : (-1) ≤ σ 5377 ∧ σ 5377 ≤ 3 := by
    have h0 := hb 5377
    rw [show sx_sr 5377 = ((-1), 3) from by decide +kernel] at h0
    exact h0
  have b5633 : (-1) ≤ σ 5633 ∧ σ 5633 ≤ 3 := by
    have h0 := hb 5633
    rw [show sx_sr 5633 = ((-1), 3) from by decide +kernel] at h0
    exact h0
  have b5889 : (-1) ≤ σ 5889 ∧ σ 5889 ≤ 3 := by
    have h0 := hb 5889
    rw [show sx_sr 5889 = ((-1), 3) from by decide +kernel] at h0
    exact h0
  have b6145 : (-1) ≤ σ 6145 ∧ σ 6145 ≤ 3 := by
    have h0 := hb 6145
    rw [show sx_sr 6145 = ((-1), 3) from by decide +kernel] at h0
    exact h0
  have b5378 : 0 ≤ σ 5378 ∧ σ 5378 ≤ 60 := by
    have h0 := hb 5378
    rw [show sx_sr 5378 = (0, 60) from by decide +kernel] at h0
    exact h0
  have b5634 : 0 ≤ σ 5634 ∧ σ 5634 ≤ 60 := by
    have h0 := hb 5634
    rw [show sx_sr 5634 = (0, 60) from by decide +kernel] at h0
    exact h0
  have b5890 : 0 ≤ σ 5890 ∧ σ 5890 ≤ 60 := by
    have h0 := hb 5890
    rw [show sx_sr 5890 = (0, 60) from by decide +kernel] at h0
    exact h0
  have b6146 : 0 ≤ σ 6146 ∧ σ 6146 ≤ 60 := by
    have h0 := hb 6146
    rw [show sx_sr 6146 = (0, 60) from by decide +kernel] at h0
    exact h0
  obtain ⟨hs, ht, hf, hr, hm, hw⟩ := hW
  have e1 : τ 19001 = a1 := by rw [ht 19001 (by decide) (by decide)]; exact h1
  have e2 : τ 19002 = a2 := by rw [ht 19002 (by decide) (by decide)]; exact h2
  have e3 : τ 19003 = a3 := by rw [ht 19003 (by decide) (by decide)]; exact h3
  have e4 : τ 19004 = a4 := by rw [ht 19004 (by decide) (by decide)]; exact h4
  have e5 : τ 19005 = a5 := by rw [ht 19005 (by decide) (by decide)]; exact h5
  have s5377 : τ 5377 = σ 5377 := hs 5377 (by decide)
  have s5378 : τ 5378 = σ 5378 := hs 5378 (by decide)
  have s5633 : τ 5633 = σ 5633 := hs 5633 (by decide)
  have s5634 : τ 5634 = σ 5634 := hs 5634 (by decide)
  have s5889 : τ 5889 = σ 5889 := hs 5889 (by decide)
  have s5890 : τ 5890 = σ 5890 := hs 5890 (by decide)
  have s6145 : τ 6145 = σ 6145 := hs 6145 (by decide)
  have s6146 : τ 6146 = σ 6146 := hs 6146 (by decide)
  clear hs ht hb
  rw [hx] at hr
  obtain ⟨y, hy, hv⟩ := hr
  cases hy
  replace hv : x.toInt = 0 + 0 := hv
  have f0 : 0 ≤ 0 + (1 * τ 5377 + 0) := hf _ (List.Mem.head _)
  have f1 : 0 ≤ (-1) + ((-1) * τ 6145 + 0) := hf _ (List.Mem.tail _ (List.Mem.head _))
  have f2 : 0 ≤ 0 + (1 * τ 19001 + 0) := hf _ (List.Mem.tail _ (List.Mem.tail _ (List.Mem.head _)))
  have f3 : 0 ≤ 0 + ((-1) * τ 19001 + 0) := hf _ (List.Mem.tail _ (List.Mem.tail _ (List.Mem.tail _ (List.Mem.head _))))
  have f4 : 0 ≤ 0 + (1 * τ 19002 + 0) := hf _ (List.Mem.tail _ (List.Mem.tail _ (List.Mem.tail _ (List.Mem.tail _ (List.Mem.head _)))))
  have f5 : 0 ≤ (-3) + (1 * τ 19003 + 0) := hf _ (List.Mem.tail _ (List.Mem.tail _ (List.Mem.tail _ (List.Mem.tail _ (List.Mem.tail _ (List.Mem.head _))))))
  have f6 : 0 ≤ 3 + ((-1) * τ 19003 + 0) := hf _ (List.Mem.tail _ (List.Mem.tail _ (List.Mem.tail _ (List.Mem.tail _ (List.Mem.tail _ (List.Mem.tail _ (List.Mem.head _)))))))
  have f7 : 0 ≤ 0 + (1 * τ 19004 + 0) := hf _ (List.Mem.tail _ (List.Mem.tail _ (List.Mem.tail _ (List.Mem.tail _ (List.Mem.tail _ (List.Mem.tail _ (List.Mem.tail _ (List.Mem.head _))))))))
  have f8 : 0 ≤ 0 + (1 * τ 19005 + 0) := hf _ (List.Mem.tail _ (List.Mem.tail _ (List.Mem.tail _ (List.Mem.tail _ (List.Mem.tail _ (List.Mem.tail _ (List.Mem.tail _ (List.Mem.tail _ (List.Mem.head _)))))))))
  clear hf hm
  have ej : a1 = 0 := by omega
  subst ej
  have ek : a3 = 3 := by omega
  subst ek
  simp only [lw_sel0, lw_sel1, lw_sel2, lw_sel3]
  refine Or.inr ⟨by omega, fun h => ?_⟩
  obtain ⟨z0, z1, z2, z3, z4, z5, z6, z7, z8, z9, z10, z11⟩ := h
  omega
theorem lw_px_33 {as : List rv_A} {σ σ' : Nat → Int} {o : rv_O} {x : Int32} {a1 a2 a3 a4 a5 : Int} {τ : Nat → Int} (hx : o.1 = some (.inl x)) (h1 : lw_av as 1 = a1) (h2 : lw_av as 2 = a2) (h3 : lw_av as 3 = a3) (h4 : lw_av as 4 = a4) (h5 : lw_av as 5 = a5) (hb : ∀ s, (sx_sr s).1 ≤ σ s ∧ σ s ≤ (sx_sr s).2) (hW : lw_W ([], [(0, [(5377, 1)]), (0, [(6145, 1)]), (0, [(19001, 1)]), (0, [(19001, (-1))]), (0, [(19002, 1)]), ((-3), [(19003, 1)]), (3, [(19003, (-1))]), (0, [(19004, 1)]), (0, [(19005, 1)]), ((-1), [(5378, (-1)), (19002, 1), (19005, 1)]), (0, [(5377, (-1)), (6145, 1)]), (0, [(5377, 1), (6145, (-1))])], [(9, (3, []))], some (false, (0, []))) as σ σ' τ o) : lw_px_C a1 a2 a3 a4 a5 x.toInt σ σ' := by
  unfold lw_px_C
  have b5377 : (-1) ≤ σ 5377 ∧ σ 5377 ≤ 3 := by
    have h0 := hb 5377
    rw [show sx_sr 5377 = ((-1), 3) from by decide +kernel] at h0
    exact h0
  have b5633 : (-1) ≤ σ 5633 ∧ σ 5633 ≤ 3 := by
    have h0 := hb 5633
    rw [show sx_sr 5633 = ((-1), 3) from by decide +kernel] at h0
    exact h0
  have b5889 : (-1) ≤ σ 5889 ∧ σ 5889 ≤ 3 := by
    have h0 := hb 5889
    rw [show sx_sr 5889 = ((-1), 3) from by decide +kernel] at h0
    exact h0
  have b6145 : (-1) ≤ σ 6145 ∧ σ 6145 ≤ 3 := by
    have h0 := hb 6145
    rw [show sx_sr 6145 = ((-1), 3) from by decide +kernel] at h0
    exact h0
  have b5378 : 0 ≤ σ 5378 ∧ σ 5378 ≤ 60 := by
    have h0 := hb 5378
    rw [show sx_sr 5378 = (0, 60) from by decide +kernel] at h0
    exact h0
  have b5634 : 0 ≤ σ 5634 ∧ σ 5634 ≤ 60 := by
    have h0 := hb 5634
    rw [show sx_sr 5634 = (0, 60) from by decide +kernel] at h0
    exact h0
  have b5890 : 0 ≤ σ 5890 ∧ σ 5890 ≤ 60 := by
    have h0 := hb 5890
    rw [show sx_sr 5890 = (0, 60) from by decide +kernel] at h0
    exact h0
  have b6146 : 0 ≤ σ 6146 ∧ σ 6146 ≤ 60 := by
    have h0 := hb 6146
    rw [show sx_sr 6146 = (0, 60) from by decide +kernel] at h0
    exact h0
  obtain ⟨hs, ht, hf, hr, hm, hw⟩ := hW
  have e1 : τ 19001 = a1 := by rw [ht 19001 (by decide) (by decide)]; exact h1
  have e2 : τ 19002 = a2 := by rw [ht 19002 (by decide) (by decide)]; exact h2
  have e3 : τ 19003 = a3 := by rw [ht 19003 (by decide) (by decide)]; exact h3
  have e4 : τ 19004 = a4 := by rw [ht 19004 (by decide) (by decide)]; exact h4
  have e5 : τ 19005 = a5 := by rw [ht 19005 (by decide) (by decide)]; exact h5
  have s5377 : τ 5377 = σ 5377 := hs 5377 (by decide)
  have s5378 : τ 5378 = σ 5378 := hs 5378 (by decide)
  have s5633 : τ 5633 = σ 5633 := hs 5633 (by decide)
  have s5634 : τ 5634 = σ 5634 := hs 5634 (by decide)
  have s5889 : τ 5889 = σ 5889 := hs 5889 (by decide)
  have s5890 : τ 5890 = σ 5890 := hs 5890 (by decide)
  have s6145 : τ 6145 = σ 6145 := hs 6145 (by decide)
  have s6146 : τ 6146 = σ 6146 := hs 6146 (by decide)
  clear hs ht hb
  rw [hx] at hr
  obtain ⟨y, hy, hv⟩ := hr
  cases hy
  replace hv : x.toInt = 0 + 0 := hv
  have f0 : 0 ≤ 0 + (1 * τ 5377 + 0) := hf _ (List.Mem.head _)
  have f1 : 0 ≤ 0 + (1 * τ 6145 + 0) := hf _ (List.Mem.tail _ (List.Mem.head _))
  have f2 : 0 ≤ 0 + (1 * τ 19001 + 0) := hf _ (List.Mem.tail _ (List.Mem.tail _ (List.Mem.head _)))
  have f3 : 0 ≤ 0 + ((-1) * τ 19001 + 0) := hf _ (List.Mem.tail _ (List.Mem.tail _ (List.Mem.tail _ (List.Mem.head _))))
  have f4 : 0 ≤ 0 + (1 * τ 19002 + 0) := hf _ (List.Mem.tail _ (List.Mem.tail _ (List.Mem.tail _ (List.Mem.tail _ (List.Mem.head _)))))
  have f5 : 0 ≤ (-3) + (1 * τ 19003 + 0) := hf _ (List.Mem.tail _ (List.Mem.tail _ (List.Mem.tail _ (List.Mem.tail _ (List.Mem.tail _ (List.Mem.head _))))))
  have f6 : 0 ≤ 3 + ((-1) * τ 19003 + 0) := hf _ (List.Mem.tail _ (List.Mem.tail _ (List.Mem.tail _ (List.Mem.tail _ (List.Mem.tail _ (List.Mem.tail _ (List.Mem.head _)))))))
  have f7 : 0 ≤ 0 + (1 * τ 19004 + 0) := hf _ (List.Mem.tail _ (List.Mem.tail _ (List.Mem.tail _ (List.Mem.tail _ (List.Mem.tail _ (List.Mem.tail _ (List.Mem.tail _ (List.Mem.head _))))))))
  have f8 : 0 ≤ 0 + (1 * τ 19005 + 0) := hf _ (List.Mem.tail _ (List.Mem.tail _ (List.Mem.tail _ (List.Mem.tail _ (List.Mem.tail _ (List.Mem.tail _ (List.Mem.tail _ (List.Mem.tail _ (List.Mem.head _)))))))))
  have f9 : 0 ≤ (-1) + ((-1) * τ 5378 + (1 * τ 19002 + (1 * τ 19005 + 0))) := hf _ (List.Mem.tail _ (List.Mem.tail _ (List.Mem.tail _ (List.Mem.tail _ (List.Mem.tail _ (List.Mem.tail _ (List.Mem.tail _ (List.Mem.tail _ (List.Mem.tail _ (List.Mem.head _))))))))))
  have f10 : 0 ≤ 0 + ((-1) * τ 5377 + (1 * τ 6145 + 0)) := hf _ (List.Mem.tail _ (List.Mem.tail _ (List.Mem.tail _ (List.Mem.tail _ (List.Mem.tail _ (List.Mem.tail _ (List.Mem.tail _ (List.Mem.tail _ (List.Mem.tail _ (List.Mem.tail _ (List.Mem.head _)))))))))))
  have f11 : 0 ≤ 0 + (1 * τ 5377 + ((-1) * τ 6145 + 0)) := hf _ (List.Mem.tail _ (List.Mem.tail _ (List.Mem.tail _ (List.Mem.tail _ (List.Mem.tail _ (List.Mem.tail _ (List.Mem.tail _ (List.Mem.tail _ (List.Mem.tail _ (List.Mem.tail _ (List.Mem.tail _ (List.Mem.head _))))))))))))
  clear hf hm
  have ej : a1 = 0 := by omega
  subst ej
  have ek : a3 = 3 := by omega
  subst ek
  simp only [lw_sel0, lw_sel1, lw_sel2, lw_sel3]
  refine Or.inr ⟨by omega, fun h => ?_⟩
  obtain ⟨z0, z1, z2, z3, z4, z5, z6, z7, z8, z9, z10, z11⟩ := h
  omega
theorem lw_px_34 {as : List rv_A} {σ σ' : Nat → Int} {o : rv_O} {x : Int32} {a1 a2 a3 a4 a5 : Int} {τ : Nat → Int} (hx : o.1 = some (.inl x)) (h1 : lw_av as 1 = a1) (h2 : lw_av as 2 = a2) (h3 : lw_av as 3 = a3) (h4 : lw_av as 4 = a4) (h5 : lw_av as 5 = a5) (hb : ∀ s, (sx_sr s).1 ≤ σ s ∧ σ s ≤ (sx_sr s).2) (hW : lw_W ([], [(0, [(5377, 1)]), (0, [(6145, 1)]), (0, [(19001, 1)]), (0, [(19001, (-1))]), (0, [(19002, 1)]), (60, [(19002, (-1))]), ((-3), [(19003, 1)]), (3, [(19003, (-1))]), (0, [(19004, 1)]), (0, [(19005, 1)]), (60, [(19005, (-1))]), ((-1), [(6146, (-1)), (19004, 1), (19005, 1)]), (0, [(5378, 1), (19002, (-1)), (19005, (-1))]), (0, [(5377, (-1)), (6145, 1)]), (0, [(5377, 1), (6145, (-1))])], [(9, (3, []))], some (false, (0, []))) as σ σ' τ o) : lw_px_C a1 a2 a3 a4 a5 x.toInt σ σ' := by
  unfold lw_px_C
  have b5377 : (-1) ≤ σ 5377 ∧ σ 5377 ≤ 3 := by
    have h0 := hb 5377
    rw [show sx_sr 5377 = ((-1), 3) from by decide +kernel] at h0
    exact h0
  have b5633 : (-1) ≤ σ 5633 ∧ σ 5633 ≤ 3 := by
    have h0 := hb 5633
    rw [show sx_sr 5633 = ((-1), 3) from by decide +kernel] at h0
    exact h0
  have b5889 : (-1) ≤ σ 5889 ∧ σ 5889 ≤ 3 := by
    have h0 := hb 5889
    rw [show sx_sr 5889 = ((-1), 3) from by decide +kernel] at h0
    exact h0
  have b6145 : (-1) ≤ σ 6145 ∧ σ 6145 ≤ 3 := by
    have h0 := hb 6145
    rw [show sx_sr 6145 = ((-1), 3) from by decide +kernel] at h0
    exact h0
  have b5378 : 0 ≤ σ 5378 ∧ σ 5378 ≤ 60 := by
    have h0 := hb 5378
    rw [show sx_sr 5378 = (0, 60) from by decide +kernel] at h0
    exact h0
  have b5634 : 0 ≤ σ 5634 ∧ σ 5634 ≤ 60 := by
    have h0 := hb 5634
    rw [show sx_sr 5634 = (0, 60) from by decide +kernel] at h0
    exact h0
  have b5890 : 0 ≤ σ 5890 ∧ σ 5890 ≤ 60 := by
    have h0 := hb 5890
    rw [show sx_sr 5890 = (0, 60) from by decide +kernel] at h0
    exact h0
  have b6146 : 0 ≤ σ 6146 ∧ σ 6146 ≤ 60 := by
    have h0 := hb 6146
    rw [show sx_sr 6146 = (0, 60) from by decide +kernel] at h0
    exact h0
  obtain ⟨hs, ht, hf, hr, hm, hw⟩ := hW
  have e1 : τ 19001 = a1 := by rw [ht 19001 (by decide) (by decide)]; exact h1
  have e2 : τ 19002 = a2 := by rw [ht 19002 (by decide) (by decide)]; exact h2
  have e3 : τ 19003 = a3 := by rw [ht 19003 (by decide) (by decide)]; exact h3
  have e4 : τ 19004 = a4 := by rw [ht 19004 (by decide) (by decide)]; exact h4
  have e5 : τ 19005 = a5 := by rw [ht 19005 (by decide) (by decide)]; exact h5
  have s5377 : τ 5377 = σ 5377 := hs 5377 (by decide)
  have s5378 : τ 5378 = σ 5378 := hs 5378 (by decide)
  have s5633 : τ 5633 = σ 5633 := hs 5633 (by decide)
  have s5634 : τ 5634 = σ 5634 := hs 5634 (by decide)
  have s5889 : τ 5889 = σ 5889 := hs 5889 (by decide)
  have s5890 : τ 5890 = σ 5890 := hs 5890 (by decide)
  have s6145 : τ 6145 = σ 6145 := hs 6145 (by decide)
  have s6146 : τ 6146 = σ 6146 := hs 6146 (by decide)
  clear hs ht hb
  rw [hx] at hr
  obtain ⟨y, hy, hv⟩ := hr
  cases hy
  replace hv : x.toInt = 0 + 0 := hv
  have f0 : 0 ≤ 0 + (1 * τ 5377 + 0) := hf _ (List.Mem.head _)
  have f1 : 0 ≤ 0 + (1 * τ 6145 + 0) := hf _ (List.Mem.tail _ (List.Mem.head _))
  have f2 : 0 ≤ 0 + (1 * τ 19001 + 0) := hf _ (List.Mem.tail _ (List.Mem.tail _ (List.Mem.head _)))
  have f3 : 0 ≤ 0 + ((-1) * τ 19001 + 0) := hf _ (List.Mem.tail _ (List.Mem.tail _ (List.Mem.tail _ (List.Mem.head _))))
  have f4 : 0 ≤ 0 + (1 * τ 19002 + 0) := hf _ (List.Mem.tail _ (List.Mem.tail _ (List.Mem.tail _ (List.Mem.tail _ (List.Mem.head _)))))
  have f5 : 0 ≤ 60 + ((-1) * τ 19002 + 0) := hf _ (List.Mem.tail _ (List.Mem.tail _ (List.Mem.tail _ (List.Mem.tail _ (List.Mem.tail _ (List.Mem.head _))))))
  have f6 : 0 ≤ (-3) + (1 * τ 19003 + 0) := hf _ (List.Mem.tail _ (List.Mem.tail _ (List.Mem.tail _ (List.Mem.tail _ (List.Mem.tail _ (List.Mem.tail _ (List.Mem.head _)))))))
  have f7 : 0 ≤ 3 + ((-1) * τ 19003 + 0) := hf _ (List.Mem.tail _ (List.Mem.tail _ (List.Mem.tail _ (List.Mem.tail _ (List.Mem.tail _ (List.Mem.tail _ (List.Mem.tail _ (List.Mem.head _))))))))
  have f8 : 0 ≤ 0 + (1 * τ 19004 + 0) := hf _ (List.Mem.tail _ (List.Mem.tail _ (List.Mem.tail _ (List.Mem.tail _ (List.Mem.tail _ (List.Mem.tail _ (List.Mem.tail _ (List.Mem.tail _ (List.Mem.head _)))))))))
  have f9 : 0 ≤ 0 + (1 * τ 19005 + 0) := hf _ (List.Mem.tail _ (List.Mem.tail _ (List.Mem.tail _ (List.Mem.tail _ (List.Mem.tail _ (List.Mem.tail _ (List.Mem.tail _ (List.Mem.tail _ (List.Mem.tail _ (List.Mem.head _))))))))))
  have f10 : 0 ≤ 60 + ((-1) * τ 19005 + 0) := hf _ (List.Mem.tail _ (List.Mem.tail _ (List.Mem.tail _ (List.Mem.tail _ (List.Mem.tail _ (List.Mem.tail _ (List.Mem.tail _ (List.Mem.tail _ (List.Mem.tail _ (List.Mem.tail _ (List.Mem.head _)))))))))))
  have f11 : 0 ≤ (-1) + ((-1) * τ 6146 + (1 * τ 19004 + (1 * τ 19005 + 0))) := hf _ (List.Mem.tail _ (List.Mem.tail _ (List.Mem.tail _ (List.Mem.tail _ (List.Mem.tail _ (List.Mem.tail _ (List.Mem.tail _ (List.Mem.tail _ (List.Mem.tail _ (List.Mem.tail _ (List.Mem.tail _ (List.Mem.head _))))))))))))
  have f12 : 0 ≤ 0 + (1 * τ 5378 + ((-1) * τ 19002 + ((-1) * τ 19005 + 0))) := hf _ (List.Mem.tail _ (List.Mem.tail _ (List.Mem.tail _ (List.Mem.tail _ (List.Mem.tail _ (List.Mem.tail _ (List.Mem.tail _ (List.Mem.tail _ (List.Mem.tail _ (List.Mem.tail _ (List.Mem.tail _ (List.Mem.tail _ (List.Mem.head _)))))))))))))
  have f13 : 0 ≤ 0 + ((-1) * τ 5377 + (1 * τ 6145 + 0)) := hf _ (List.Mem.tail _ (List.Mem.tail _ (List.Mem.tail _ (List.Mem.tail _ (List.Mem.tail _ (List.Mem.tail _ (List.Mem.tail _ (List.Mem.tail _ (List.Mem.tail _ (List.Mem.tail _ (List.Mem.tail _ (List.Mem.tail _ (List.Mem.tail _ (List.Mem.head _))))))))))))))
  have f14 : 0 ≤ 0 + (1 * τ 5377 + ((-1) * τ 6145 + 0)) := hf _ (List.Mem.tail _ (List.Mem.tail _ (List.Mem.tail _ (List.Mem.tail _ (List.Mem.tail _ (List.Mem.tail _ (List.Mem.tail _ (List.Mem.tail _ (List.Mem.tail _ (List.Mem.tail _ (List.Mem.tail _ (List.Mem.tail _ (List.Mem.tail _ (List.Mem.tail _ (List.Mem.head _)))))))))))))))
  clear hf hm
  have ej : a1 = 0 := by omega
  subst ej
  have ek : a3 = 3 := by omega
  subst ek
  simp only [lw_sel0, lw_sel1, lw_sel2, lw_sel3]
  refine Or.inr ⟨by omega, fun h => ?_⟩
  obtain ⟨z0, z1, z2, z3, z4, z5, z6, z7, z8, z9, z10, z11⟩ := h
  omega
theorem lw_px_35 {as : List rv_A} {σ σ' : Nat → Int} {o : rv_O} {x : Int32} {a1 a2 a3 a4 a5 : Int} {τ : Nat → Int} (hx : o.1 = some (.inl x)) (h1 : lw_av as 1 = a1) (h2 : lw_av as 2 = a2) (h3 : lw_av as 3 = a3) (h4 : lw_av as 4 = a4) (h5 : lw_av as 5 = a5) (hb : ∀ s, (sx_sr s).1 ≤ σ s ∧ σ s ≤ (sx_sr s).2) (hW : lw_W ([], [(0, [(5377, 1)]), (0, [(6145, 1)]), ((-3), [(19001, 1)]), (3, [(19001, (-1))]), (0, [(19002, 1)]), (0, [(19003, 1)]), (0, [(19003, (-1))]), (0, [(19004, 1)]), (0, [(19005, 1)]), ((-1), [(6146, (-1)), (19002, 1), (19005, 1)]), (0, [(5377, 1), (6145, (-1))]), (0, [(5377, (-1)), (6145, 1)])], [(9, (3, []))], some (false, (0, []))) as σ σ' τ o) : lw_px_C a1 a2 a3 a4 a5 x.toInt σ σ' := by
  unfold lw_px_C
  have b5377 : (-1) ≤ σ 5377 ∧ σ 5377 ≤ 3 := by
    have h0 := hb 5377
    rw [show sx_sr 5377 = ((-1), 3) from by decide +kernel] at h0
    exact h0
  have b5633 : (-1) ≤ σ 5633 ∧ σ 5633 ≤ 3 := by
    have h0 := hb 5633
    rw [show sx_sr 5633 = ((-1), 3) from by decide +kernel] at h0
    exact h0
  have b5889 : (-1) ≤ σ 5889 ∧ σ 5889 ≤ 3 := by
    have h0 := hb 5889
    rw [show sx_sr 5889 = ((-1), 3) from by decide +kernel] at h0
    exact h0
  have b6145 : (-1) ≤ σ 6145 ∧ σ 6145 ≤ 3 := by
    have h0 := hb 6145
    rw [show sx_sr 6145 = ((-1), 3) from by decide +kernel] at h0
    exact h0
  have b5378 : 0 ≤ σ 5378 ∧ σ 5378 ≤ 60 := by
    have h0 := hb 5378
    rw [show sx_sr 5378 = (0, 60) from by decide +kernel] at h0
    exact h0
  have b5634 : 0 ≤ σ 5634 ∧ σ 5634 ≤ 60 := by
    have h0 := hb 5634
    rw [show sx_sr 5634 = (0, 60) from by decide +kernel] at h0
    exact h0
  have b5890 : 0 ≤ σ 5890 ∧ σ 5890 ≤ 60 := by
    have h0 := hb 5890
    rw [show sx_sr 5890 = (0, 60) from by decide +kernel] at h0
    exact h0
  have b6146 : 0 ≤ σ 6146 ∧ σ 6146 ≤ 60 := by
    have h0 := hb 6146
    rw [show sx_sr 6146 = (0, 60) from by decide +kernel] at h0
    exact h0
  obtain ⟨hs, ht, hf, hr, hm, hw⟩ := hW
  have e1 : τ 19001 = a1 := by rw [ht 19001 (by decide) (by decide)]; exact h1
  have e2 : τ 19002 = a2 := by rw [ht 19002 (by decide) (by decide)]; exact h2
  have e3 : τ 19003 = a3 := by rw [ht 19003 (by decide) (by decide)]; exact h3
  have e4 : τ 19004 = a4 := by rw [ht 19004 (by decide) (by decide)]; exact h4
  have e5 : τ 19005 = a5 := by rw [ht 19005 (by decide) (by decide)]; exact h5
  have s5377 : τ 5377 = σ 5377 := hs 5377 (by decide)
  have s5378 : τ 5378 = σ 5378 := hs 5378 (by decide)
  have s5633 : τ 5633 = σ 5633 := hs 5633 (by decide)
  have s5634 : τ 5634 = σ 5634 := hs 5634 (by decide)
  have s5889 : τ 5889 = σ 5889 := hs 5889 (by decide)
  have s5890 : τ 5890 = σ 5890 := hs 5890 (by decide)
  have s6145 : τ 6145 = σ 6145 := hs 6145 (by decide)
  have s6146 : τ 6146 = σ 6146 := hs 6146 (by decide)
  clear hs ht hb
  rw [hx] at hr
  obtain ⟨y, hy, hv⟩ := hr
  cases hy
  replace hv : x.toInt = 0 + 0 := hv
  have f0 : 0 ≤ 0 + (1 * τ 5377 + 0) := hf _ (List.Mem.head _)
  have f1 : 0 ≤ 0 + (1 * τ 6145 + 0) := hf _ (List.Mem.tail _ (List.Mem.head _))
  have f2 : 0 ≤ (-3) + (1 * τ 19001 + 0) := hf _ (List.Mem.tail _ (List.Mem.tail _ (List.Mem.head _)))
  have f3 : 0 ≤ 3 + ((-1) * τ 19001 + 0) := hf _ (List.Mem.tail _ (List.Mem.tail _ (List.Mem.tail _ (List.Mem.head _))))
  have f4 : 0 ≤ 0 + (1 * τ 19002 + 0) := hf _ (List.Mem.tail _ (List.Mem.tail _ (List.Mem.tail _ (List.Mem.tail _ (List.Mem.head _)))))
  have f5 : 0 ≤ 0 + (1 * τ 19003 + 0) := hf _ (List.Mem.tail _ (List.Mem.tail _ (List.Mem.tail _ (List.Mem.tail _ (List.Mem.tail _ (List.Mem.head _))))))
  have f6 : 0 ≤ 0 + ((-1) * τ 19003 + 0) := hf _ (List.Mem.tail _ (List.Mem.tail _ (List.Mem.tail _ (List.Mem.tail _ (List.Mem.tail _ (List.Mem.tail _ (List.Mem.head _)))))))
  have f7 : 0 ≤ 0 + (1 * τ 19004 + 0) := hf _ (List.Mem.tail _ (List.Mem.tail _ (List.Mem.tail _ (List.Mem.tail _ (List.Mem.tail _ (List.Mem.tail _ (List.Mem.tail _ (List.Mem.head _))))))))
  have f8 : 0 ≤ 0 + (1 * τ 19005 + 0) := hf _ (List.Mem.tail _ (List.Mem.tail _ (List.Mem.tail _ (List.Mem.tail _ (List.Mem.tail _ (List.Mem.tail _ (List.Mem.tail _ (List.Mem.tail _ (List.Mem.head _)))))))))
  have f9 : 0 ≤ (-1) + ((-1) * τ 6146 + (1 * τ 19002 + (1 * τ 19005 + 0))) := hf _ (List.Mem.tail _ (List.Mem.tail _ (List.Mem.tail _ (List.Mem.tail _ (List.Mem.tail _ (List.Mem.tail _ (List.Mem.tail _ (List.Mem.tail _ (List.Mem.tail _ (List.Mem.head _))))))))))
  have f10 : 0 ≤ 0 + (1 * τ 5377 + ((-1) * τ 6145 + 0)) := hf _ (List.Mem.tail _ (List.Mem.tail _ (List.Mem.tail _ (List.Mem.tail _ (List.Mem.tail _ (List.Mem.tail _ (List.Mem.tail _ (List.Mem.tail _ (List.Mem.tail _ (List.Mem.tail _ (List.Mem.head _)))))))))))
  have f11 : 0 ≤ 0 + ((-1) * τ 5377 + (1 * τ 6145 + 0)) := hf _ (List.Mem.tail _ (List.Mem.tail _ (List.Mem.tail _ (List.Mem.tail _ (List.Mem.tail _ (List.Mem.tail _ (List.Mem.tail _ (List.Mem.tail _ (List.Mem.tail _ (List.Mem.tail _ (List.Mem.tail _ (List.Mem.head _))))))))))))
  clear hf hm
  have ej : a1 = 3 := by omega
  subst ej
  have ek : a3 = 0 := by omega
  subst ek
  simp only [lw_sel0, lw_sel1, lw_sel2, lw_sel3]
  refine Or.inr ⟨by omega, fun h => ?_⟩
  obtain ⟨z0, z1, z2, z3, z4, z5, z6, z7, z8, z9, z10, z11⟩ := h
  omega
theorem lw_px_36 {as : List rv_A} {σ σ' : Nat → Int} {o : rv_O} {x : Int32} {a1 a2 a3 a4 a5 : Int} {τ : Nat → Int} (hx : o.1 = some (.inl x)) (h1 : lw_av as 1 = a1) (h2 : lw_av as 2 = a2) (h3 : lw_av as 3 = a3) (h4 : lw_av as 4 = a4) (h5 : lw_av as 5 = a5) (hb : ∀ s, (sx_sr s).1 ≤ σ s ∧ σ s ≤ (sx_sr s).2) (hW : lw_W ([], [(0, [(5377, 1)]), (0, [(6145, 1)]), ((-3), [(19001, 1)]), (3, [(19001, (-1))]), (0, [(19002, 1)]), (60, [(19002, (-1))]), (0, [(19003, 1)]), (0, [(19003, (-1))]), (0, [(19004, 1)]), (0, [(19005, 1)]), (60, [(19005, (-1))]), ((-1), [(5378, (-1)), (19004, 1), (19005, 1)]), (0, [(6146, 1), (19002, (-1)), (19005, (-1))]), (0, [(5377, 1), (6145, (-1))]), (0, [(5377, (-1)), (6145, 1)])], [(9, (3, []))], some (false, (0, []))) as σ σ' τ o) : lw_px_C a1 a2 a3 a4 a5 x.toInt σ σ' := by
  unfold lw_px_C
  have b5377 : (-1) ≤ σ 5377 ∧ σ 5377 ≤ 3 := by
    have h0 := hb 5377
    rw [show sx_sr 5377 = ((-1), 3) from by decide +kernel] at h0
    exact h0
  have b5633 : (-1) ≤ σ 5633 ∧ σ 5633 ≤ 3 := by
    have h0 := hb 5633
    rw [show sx_sr 5633 = ((-1), 3) from by decide +kernel] at h0
    exact h0
  have b5889 : (-1) ≤ σ 5889 ∧ σ 5889 ≤ 3 := by
    have h0 := hb 5889
    rw [show sx_sr 5889 = ((-1), 3) from by decide +kernel] at h0
    exact h0
  have b6145 : (-1) ≤ σ 6145 ∧ σ 6145 ≤ 3 := by
    have h0 := hb 6145
    rw [show sx_sr 6145 = ((-1), 3) from by decide +kernel] at h0
    exact h0
  have b5378 : 0 ≤ σ 5378 ∧ σ 5378 ≤ 60 := by
    have h0 := hb 5378
    rw [show sx_sr 5378 = (0, 60) from by decide +kernel] at h0
    exact h0
  have b5634 : 0 ≤ σ 5634 ∧ σ 5634 ≤ 60 := by
    have h0 := hb 5634
    rw [show sx_sr 5634 = (0, 60) from by decide +kernel] at h0
    exact h0
  have b5890 : 0 ≤ σ 5890 ∧ σ 5890 ≤ 60 := by
    have h0 := hb 5890
    rw [show sx_sr 5890 = (0, 60) from by decide +kernel] at h0
    exact h0
  have b6146 : 0 ≤ σ 6146 ∧ σ 6146 ≤ 60 := by
    have h0 := hb 6146
    rw [show sx_sr 6146 = (0, 60) from by decide +kernel] at h0
    exact h0
  obtain ⟨hs, ht, hf, hr, hm, hw⟩ := hW
  have e1 : τ 19001 = a1 := by rw [ht 19001 (by decide) (by decide)]; exact h1
  have e2 : τ 19002 = a2 := by rw [ht 19002 (by decide) (by decide)]; exact h2
  have e3 : τ 19003 = a3 := by rw [ht 19003 (by decide) (by decide)]; exact h3
  have e4 : τ 19004 = a4 := by rw [ht 19004 (by decide) (by decide)]; exact h4
  have e5 : τ 19005 = a5 := by rw [ht 19005 (by decide) (by decide)]; exact h5
  have s5377 : τ 5377 = σ 5377 := hs 5377 (by decide)
  have s5378 : τ 5378 = σ 5378 := hs 5378 (by decide)
  have s5633 : τ 5633 = σ 5633 := hs 5633 (by decide)
  have s5634 : τ 5634 = σ 5634 := hs 5634 (by decide)
  have s5889 : τ 5889 = σ 5889 := hs 5889 (by decide)
  have s5890 : τ 5890 = σ 5890 := hs 5890 (by decide)
  have s6145 : τ 6145 = σ 6145 := hs 6145 (by decide)
  have s6146 : τ 6146 = σ 6146 := hs 6146 (by decide)
  clear hs ht hb
  rw [hx] at hr
  obtain ⟨y, hy, hv⟩ := hr
  cases hy
  replace hv : x.toInt = 0 + 0 := hv
  have f0 : 0 ≤ 0 + (1 * τ 5377 + 0) := hf _ (List.Mem.head _)
  have f1 : 0 ≤ 0 + (1 * τ 6145 + 0) := hf _ (List.Mem.tail _ (List.Mem.head _))
  have f2 : 0 ≤ (-3) + (1 * τ 19001 + 0) := hf _ (List.Mem.tail _ (List.Mem.tail _ (List.Mem.head _)))
  have f3 : 0 ≤ 3 + ((-1) * τ 19001 + 0) := hf _ (List.Mem.tail _ (List.Mem.tail _ (List.Mem.tail _ (List.Mem.head _))))
  have f4 : 0 ≤ 0 + (1 * τ 19002 + 0) := hf _ (List.Mem.tail _ (List.Mem.tail _ (List.Mem.tail _ (List.Mem.tail _ (List.Mem.head _)))))
  have f5 : 0 ≤ 60 + ((-1) * τ 19002 + 0) := hf _ (List.Mem.tail _ (List.Mem.tail _ (List.Mem.tail _ (List.Mem.tail _ (List.Mem.tail _ (List.Mem.head _))))))
  have f6 : 0 ≤ 0 + (1 * τ 19003 + 0) := hf _ (List.Mem.tail _ (List.Mem.tail _ (List.Mem.tail _ (List.Mem.tail _ (List.Mem.tail _ (List.Mem.tail _ (List.Mem.head _)))))))
  have f7 : 0 ≤ 0 + ((-1) * τ 19003 + 0) := hf _ (List.Mem.tail _ (List.Mem.tail _ (List.Mem.tail _ (List.Mem.tail _ (List.Mem.tail _ (List.Mem.tail _ (List.Mem.tail _ (List.Mem.head _))))))))
  have f8 : 0 ≤ 0 + (1 * τ 19004 + 0) := hf _ (List.Mem.tail _ (List.Mem.tail _ (List.Mem.tail _ (List.Mem.tail _ (List.Mem.tail _ (List.Mem.tail _ (List.Mem.tail _ (List.Mem.tail _ (List.Mem.head _)))))))))
  have f9 : 0 ≤ 0 + (1 * τ 19005 + 0) := hf _ (List.Mem.tail _ (List.Mem.tail _ (List.Mem.tail _ (List.Mem.tail _ (List.Mem.tail _ (List.Mem.tail _ (List.Mem.tail _ (List.Mem.tail _ (List.Mem.tail _ (List.Mem.head _))))))))))
  have f10 : 0 ≤ 60 + ((-1) * τ 19005 + 0) := hf _ (List.Mem.tail _ (List.Mem.tail _ (List.Mem.tail _ (List.Mem.tail _ (List.Mem.tail _ (List.Mem.tail _ (List.Mem.tail _ (List.Mem.tail _ (List.Mem.tail _ (List.Mem.tail _ (List.Mem.head _)))))))))))
  have f11 : 0 ≤ (-1) + ((-1) * τ 5378 + (1 * τ 19004 + (1 * τ 19005 + 0))) := hf _ (List.Mem.tail _ (List.Mem.tail _ (List.Mem.tail _ (List.Mem.tail _ (List.Mem.tail _ (List.Mem.tail _ (List.Mem.tail _ (List.Mem.tail _ (List.Mem.tail _ (List.Mem.tail _ (List.Mem.tail _ (List.Mem.head _))))))))))))
  have f12 : 0 ≤ 0 + (1 * τ 6146 + ((-1) * τ 19002 + ((-1) * τ 19005 + 0))) := hf _ (List.Mem.tail _ (List.Mem.tail _ (List.Mem.tail _ (List.Mem.tail _ (List.Mem.tail _ (List.Mem.tail _ (List.Mem.tail _ (List.Mem.tail _ (List.Mem.tail _ (List.Mem.tail _ (List.Mem.tail _ (List.Mem.tail _ (List.Mem.head _)))))))))))))
  have f13 : 0 ≤ 0 + (1 * τ 5377 + ((-1) * τ 6145 + 0)) := hf _ (List.Mem.tail _ (List.Mem.tail _ (List.Mem.tail _ (List.Mem.tail _ (List.Mem.tail _ (List.Mem.tail _ (List.Mem.tail _ (List.Mem.tail _ (List.Mem.tail _ (List.Mem.tail _ (List.Mem.tail _ (List.Mem.tail _ (List.Mem.tail _ (List.Mem.head _))))))))))))))
  have f14 : 0 ≤ 0 + ((-1) * τ 5377 + (1 * τ 6145 + 0)) := hf _ (List.Mem.tail _ (List.Mem.tail _ (List.Mem.tail _ (List.Mem.tail _ (List.Mem.tail _ (List.Mem.tail _ (List.Mem.tail _ (List.Mem.tail _ (List.Mem.tail _ (List.Mem.tail _ (List.Mem.tail _ (List.Mem.tail _ (List.Mem.tail _ (List.Mem.tail _ (List.Mem.head _)))))))))))))))
  clear hf hm
  have ej : a1 = 3 := by omega
  subst ej
  have ek : a3 = 0 := by omega
  subst ek
  simp only [lw_sel0, lw_sel1, lw_sel2, lw_sel3]
  refine Or.inr ⟨by omega, fun h => ?_⟩
  obtain ⟨z0, z1, z2, z3, z4, z5, z6, z7, z8, z9, z10, z11⟩ := h
  omega
theorem lw_px_37 {as : List rv_A} {σ σ' : Nat → Int} {o : rv_O} {x : Int32} {a1 a2 a3 a4 a5 : Int} {τ : Nat → Int} (hx : o.1 = some (.inl x)) (h1 : lw_av as 1 = a1) (h2 : lw_av as 2 = a2) (h3 : lw_av as 3 = a3) (h4 : lw_av as 4 = a4) (h5 : lw_av as 5 = a5) (hb : ∀ s, (sx_sr s).1 ≤ σ s ∧ σ s ≤ (sx_sr s).2) (hW : lw_W ([], [((-1), [(5377, 1)]), (0, [(5633, 1)]), (2, [(5633, (-1))]), (0, [(19001, 1)]), (0, [(19001, (-1))]), (0, [(19002, 1)]), ((-1), [(19003, 1)]), (1, [(19003, (-1))]), (0, [(19004, 1)]), (0, [(19005, 1)]), ((-1), [(5377, 1), (5633, (-1))])], [(9, (8, []))], some (false, (0, []))) as σ σ' τ o) : lw_px_C a1 a2 a3 a4 a5 x.toInt σ σ' := by
  unfold lw_px_C
  have b5377 : (-1) ≤ σ 5377 ∧ σ 5377 ≤ 3 := by
    have h0 := hb 5377
    rw [show sx_sr 5377 = ((-1), 3) from by decide +kernel] at h0
    exact h0
  have b5633 : (-1) ≤ σ 5633 ∧ σ 5633 ≤ 3 := by
    have h0 := hb 5633
    rw [show sx_sr 5633 = ((-1), 3) from by decide +kernel] at h0
    exact h0
  have b5889 : (-1) ≤ σ 5889 ∧ σ 5889 ≤ 3 := by
    have h0 := hb 5889
    rw [show sx_sr 5889 = ((-1), 3) from by decide +kernel] at h0
    exact h0
  have b6145 : (-1) ≤ σ 6145 ∧ σ 6145 ≤ 3 := by
    have h0 := hb 6145
    rw [show sx_sr 6145 = ((-1), 3) from by decide +kernel] at h0
    exact h0
  have b5378 : 0 ≤ σ 5378 ∧ σ 5378 ≤ 60 := by
    have h0 := hb 5378
    rw [show sx_sr 5378 = (0, 60) from by decide +kernel] at h0
    exact h0
  have b5634 : 0 ≤ σ 5634 ∧ σ 5634 ≤ 60 := by
    have h0 := hb 5634
    rw [show sx_sr 5634 = (0, 60) from by decide +kernel] at h0
    exact h0
  have b5890 : 0 ≤ σ 5890 ∧ σ 5890 ≤ 60 := by
    have h0 := hb 5890
    rw [show sx_sr 5890 = (0, 60) from by decide +kernel] at h0
    exact h0
  have b6146 : 0 ≤ σ 6146 ∧ σ 6146 ≤ 60 := by
    have h0 := hb 6146
    rw [show sx_sr 6146 = (0, 60) from by decide +kernel] at h0
    exact h0
  obtain ⟨hs, ht, hf, hr, hm, hw⟩ := hW
  have e1 : τ 19001 = a1 := by rw [ht 19001 (by decide) (by decide)]; exact h1
  have e2 : τ 19002 = a2 := by rw [ht 19002 (by decide) (by decide)]; exact h2
  have e3 : τ 19003 = a3 := by rw [ht 19003 (by decide) (by decide)]; exact h3
  have e4 : τ 19004 = a4 := by rw [ht 19004 (by decide) (by decide)]; exact h4
  have e5 : τ 19005 = a5 := by rw [ht 19005 (by decide) (by decide)]; exact h5
  have s5377 : τ 5377 = σ 5377 := hs 5377 (by decide)
  have s5378 : τ 5378 = σ 5378 := hs 5378 (by decide)
  have s5633 : τ 5633 = σ 5633 := hs 5633 (by decide)
  have s5634 : τ 5634 = σ 5634 := hs 5634 (by decide)
  have s5889 : τ 5889 = σ 5889 := hs 5889 (by decide)
  have s5890 : τ 5890 = σ 5890 := hs 5890 (by decide)
  have s6145 : τ 6145 = σ 6145 := hs 6145 (by decide)
  have s6146 : τ 6146 = σ 6146 := hs 6146 (by decide)
  clear hs ht hb
  rw [hx] at hr
  obtain ⟨y, hy, hv⟩ := hr
  cases hy
  replace hv : x.toInt = 0 + 0 := hv
  have f0 : 0 ≤ (-1) + (1 * τ 5377 + 0) := hf _ (List.Mem.head _)
  have f1 : 0 ≤ 0 + (1 * τ 5633 + 0) := hf _ (List.Mem.tail _ (List.Mem.head _))
  have f2 : 0 ≤ 2 + ((-1) * τ 5633 + 0) := hf _ (List.Mem.tail _ (List.Mem.tail _ (List.Mem.head _)))
  have f3 : 0 ≤ 0 + (1 * τ 19001 + 0) := hf _ (List.Mem.tail _ (List.Mem.tail _ (List.Mem.tail _ (List.Mem.head _))))
  have f4 : 0 ≤ 0 + ((-1) * τ 19001 + 0) := hf _ (List.Mem.tail _ (List.Mem.tail _ (List.Mem.tail _ (List.Mem.tail _ (List.Mem.head _)))))
  have f5 : 0 ≤ 0 + (1 * τ 19002 + 0) := hf _ (List.Mem.tail _ (List.Mem.tail _ (List.Mem.tail _ (List.Mem.tail _ (List.Mem.tail _ (List.Mem.head _))))))
  have f6 : 0 ≤ (-1) + (1 * τ 19003 + 0) := hf _ (List.Mem.tail _ (List.Mem.tail _ (List.Mem.tail _ (List.Mem.tail _ (List.Mem.tail _ (List.Mem.tail _ (List.Mem.head _)))))))
  have f7 : 0 ≤ 1 + ((-1) * τ 19003 + 0) := hf _ (List.Mem.tail _ (List.Mem.tail _ (List.Mem.tail _ (List.Mem.tail _ (List.Mem.tail _ (List.Mem.tail _ (List.Mem.tail _ (List.Mem.head _))))))))
  have f8 : 0 ≤ 0 + (1 * τ 19004 + 0) := hf _ (List.Mem.tail _ (List.Mem.tail _ (List.Mem.tail _ (List.Mem.tail _ (List.Mem.tail _ (List.Mem.tail _ (List.Mem.tail _ (List.Mem.tail _ (List.Mem.head _)))))))))
  have f9 : 0 ≤ 0 + (1 * τ 19005 + 0) := hf _ (List.Mem.tail _ (List.Mem.tail _ (List.Mem.tail _ (List.Mem.tail _ (List.Mem.tail _ (List.Mem.tail _ (List.Mem.tail _ (List.Mem.tail _ (List.Mem.tail _ (List.Mem.head _))))))))))
  have f10 : 0 ≤ (-1) + (1 * τ 5377 + ((-1) * τ 5633 + 0)) := hf _ (List.Mem.tail _ (List.Mem.tail _ (List.Mem.tail _ (List.Mem.tail _ (List.Mem.tail _ (List.Mem.tail _ (List.Mem.tail _ (List.Mem.tail _ (List.Mem.tail _ (List.Mem.tail _ (List.Mem.head _)))))))))))
  clear hf hm
  have ej : a1 = 0 := by omega
  subst ej
  have ek : a3 = 1 := by omega
  subst ek
  simp only [lw_sel0, lw_sel1, lw_sel2, lw_sel3]
  refine Or.inr ⟨by omega, fun h => ?_⟩
  obtain ⟨z0, z1, z2, z3, z4, z5, z6, z7, z8, z9, z10, z11⟩ := h
  omega
theorem lw_px_38 {as : List rv_A} {σ σ' : Nat → Int} {o : rv_O} {x : Int32} {a1 a2 a3 a4 a5 : Int} {τ : Nat → Int} (hx : o.1 = some (.inl x)) (h1 : lw_av as 1 = a1) (h2 : lw_av as 2 = a2) (h3 : lw_av as 3 = a3) (h4 : lw_av as 4 = a4) (h5 : lw_av as 5 = a5) (hb : ∀ s, (sx_sr s).1 ≤ σ s ∧ σ s ≤ (sx_sr s).2) (hW : lw_W ([], [((-1), [(5377, 1)]), (0, [(5633, 1)]), (2, [(5633, (-1))]), ((-1), [(19001, 1)]), (1, [(19001, (-1))]), (0, [(19002, 1)]), (0, [(19003, 1)]), (0, [(19003, (-1))]), (0, [(19004, 1)]), (0, [(19005, 1)]), ((-1), [(5377, 1), (5633, (-1))])], [(9, (8, []))], some (false, (0, []))) as σ σ' τ o) : lw_px_C a1 a2 a3 a4 a5 x.toInt σ σ' := by
  unfold lw_px_C
  have b5377 : (-1) ≤ σ 5377 ∧ σ 5377 ≤ 3 := by
    have h0 := hb 5377
    rw [show sx_sr 5377 = ((-1), 3) from by decide +kernel] at h0
    exact h0
  have b5633 : (-1) ≤ σ 5633 ∧ σ 5633 ≤ 3 := by
    have h0 := hb 5633
    rw [show sx_sr 5633 = ((-1), 3) from by decide +kernel] at h0
    exact h0
  have b5889 : (-1) ≤ σ 5889 ∧ σ 5889 ≤ 3 := by
    have h0 := hb 5889
    rw [show sx_sr 5889 = ((-1), 3) from by decide +kernel] at h0
    exact h0
  have b6145 : (-1) ≤ σ 6145 ∧ σ 6145 ≤ 3 := by
    have h0 := hb 6145
    rw [show sx_sr 6145 = ((-1), 3) from by decide +kernel] at h0
    exact h0
  have b5378 : 0 ≤ σ 5378 ∧ σ 5378 ≤ 60 := by
    have h0 := hb 5378
    rw [show sx_sr 5378 = (0, 60) from by decide +kernel] at h0
    exact h0
  have b5634 : 0 ≤ σ 5634 ∧ σ 5634 ≤ 60 := by
    have h0 := hb 5634
    rw [show sx_sr 5634 = (0, 60) from by decide +kernel] at h0
    exact h0
  have b5890 : 0 ≤ σ 5890 ∧ σ 5890 ≤ 60 := by
    have h0 := hb 5890
    rw [show sx_sr 5890 = (0, 60) from by decide +kernel] at h0
    exact h0
  have b6146 : 0 ≤ σ 6146 ∧ σ 6146 ≤ 60 := by
    have h0 := hb 6146
    rw [show sx_sr 6146 = (0, 60) from by decide +kernel] at h0
    exact h0
  obtain ⟨hs, ht, hf, hr, hm, hw⟩ := hW
  have e1 : τ 19001 = a1 := by rw [ht 19001 (by decide) (by decide)]; exact h1
  have e2 : τ 19002 = a2 := by rw [ht 19002 (by decide) (by decide)]; exact h2
  have e3 : τ 19003 = a3 := by rw [ht 19003 (by decide) (by decide)]; exact h3
  have e4 : τ 19004 = a4 := by rw [ht 19004 (by decide) (by decide)]; exact h4
  have e5 : τ 19005 = a5 := by rw [ht 19005 (by decide) (by decide)]; exact h5
  have s5377 : τ 5377 = σ 5377 := hs 5377 (by decide)
  have s5378 : τ 5378 = σ 5378 := hs 5378 (by decide)
  have s5633 : τ 5633 = σ 5633 := hs 5633 (by decide)
  have s5634 : τ 5634 = σ 5634 := hs 5634 (by decide)
  have s5889 : τ 5889 = σ 5889 := hs 5889 (by decide)
  have s5890 : τ 5890 = σ 5890 := hs 5890 (by decide)
  have s6145 : τ 6145 = σ 6145 := hs 6145 (by decide)
  have s6146 : τ 6146 = σ 6146 := hs 6146 (by decide)
  clear hs ht hb
  rw [hx] at hr
  obtain ⟨y, hy, hv⟩ := hr
  cases hy
  replace hv : x.toInt = 0 + 0 := hv
  have f0 : 0 ≤ (-1) + (1 * τ 5377 + 0) := hf _ (List.Mem.head _)
  have f1 : 0 ≤ 0 + (1 * τ 5633 + 0) := hf _ (List.Mem.tail _ (List.Mem.head _))
  have f2 : 0 ≤ 2 + ((-1) * τ 5633 + 0) := hf _ (List.Mem.tail _ (List.Mem.tail _ (List.Mem.head _)))
  have f3 : 0 ≤ (-1) + (1 * τ 19001 + 0) := hf _ (List.Mem.tail _ (List.Mem.tail _ (List.Mem.tail _ (List.Mem.head _))))
  have f4 : 0 ≤ 1 + ((-1) * τ 19001 + 0) := hf _ (List.Mem.tail _ (List.Mem.tail _ (List.Mem.tail _ (List.Mem.tail _ (List.Mem.head _)))))
  have f5 : 0 ≤ 0 + (1 * τ 19002 + 0) := hf _ (List.Mem.tail _ (List.Mem.tail _ (List.Mem.tail _ (List.Mem.tail _ (List.Mem.tail _ (List.Mem.head _))))))
  have f6 : 0 ≤ 0 + (1 * τ 19003 + 0) := hf _ (List.Mem.tail _ (List.Mem.tail _ (List.Mem.tail _ (List.Mem.tail _ (List.Mem.tail _ (List.Mem.tail _ (List.Mem.head _)))))))
  have f7 : 0 ≤ 0 + ((-1) * τ 19003 + 0) := hf _ (List.Mem.tail _ (List.Mem.tail _ (List.Mem.tail _ (List.Mem.tail _ (List.Mem.tail _ (List.Mem.tail _ (List.Mem.tail _ (List.Mem.head _))))))))
  have f8 : 0 ≤ 0 + (1 * τ 19004 + 0) := hf _ (List.Mem.tail _ (List.Mem.tail _ (List.Mem.tail _ (List.Mem.tail _ (List.Mem.tail _ (List.Mem.tail _ (List.Mem.tail _ (List.Mem.tail _ (List.Mem.head _)))))))))
  have f9 : 0 ≤ 0 + (1 * τ 19005 + 0) := hf _ (List.Mem.tail _ (List.Mem.tail _ (List.Mem.tail _ (List.Mem.tail _ (List.Mem.tail _ (List.Mem.tail _ (List.Mem.tail _ (List.Mem.tail _ (List.Mem.tail _ (List.Mem.head _))))))))))
  have f10 : 0 ≤ (-1) + (1 * τ 5377 + ((-1) * τ 5633 + 0)) := hf _ (List.Mem.tail _ (List.Mem.tail _ (List.Mem.tail _ (List.Mem.tail _ (List.Mem.tail _ (List.Mem.tail _ (List.Mem.tail _ (List.Mem.tail _ (List.Mem.tail _ (List.Mem.tail _ (List.Mem.head _)))))))))))
  clear hf hm
  have ej : a1 = 1 := by omega
  subst ej
  have ek : a3 = 0 := by omega
  subst ek
  simp only [lw_sel0, lw_sel1, lw_sel2, lw_sel3]
  refine Or.inr ⟨by omega, fun h => ?_⟩
  obtain ⟨z0, z1, z2, z3, z4, z5, z6, z7, z8, z9, z10, z11⟩ := h
  omega
theorem lw_px_39 {as : List rv_A} {σ σ' : Nat → Int} {o : rv_O} {x : Int32} {a1 a2 a3 a4 a5 : Int} {τ : Nat → Int} (hx : o.1 = some (.inl x)) (h1 : lw_av as 1 = a1) (h2 : lw_av as 2 = a2) (h3 : lw_av as 3 = a3) (h4 : lw_av as 4 = a4) (h5 : lw_av as 5 = a5) (hb : ∀ s, (sx_sr s).1 ≤ σ s ∧ σ s ≤ (sx_sr s).2) (hW : lw_W ([], [((-1), [(5377, 1)]), (0, [(5889, 1)]), (2, [(5889, (-1))]), (0, [(19001, 1)]), (0, [(19001, (-1))]), (0, [(19002, 1)]), ((-2), [(19003, 1)]), (2, [(19003, (-1))]), (0, [(19004, 1)]), (0, [(19005, 1)]), ((-1), [(5377, 1), (5889, (-1))])], [(9, (8, []))], some (false, (0, []))) as σ σ' τ o) : lw_px_C a1 a2 a3 a4 a5 x.toInt σ σ' := by
  unfold lw_px_C
  have b5377 : (-1) ≤ σ 5377 ∧ σ 5377 ≤ 3 := by
    have h0 := hb 5377
    rw [show sx_sr 5377 = ((-1), 3) from by decide +kernel] at h0
    exact h0
  have b5633 : (-1) ≤ σ 5633 ∧ σ 5633 ≤ 3 := by
    have h0 := hb 5633
    rw [show sx_sr 5633 = ((-1), 3) from by decide +kernel] at h0
    exact h0
  have b5889 : (-1) ≤ σ 5889 ∧ σ 5889 ≤ 3 := by
    have h0 := hb 5889
    rw [show sx_sr 5889 = ((-1), 3) from by decide +kernel] at h0
    exact h0
  have b6145 : (-1) ≤ σ 6145 ∧ σ 6145 ≤ 3 := by
    have h0 := hb 6145
    rw [show sx_sr 6145 = ((-1), 3) from by decide +kernel] at h0
    exact h0
  have b5378 : 0 ≤ σ 5378 ∧ σ 5378 ≤ 60 := by
    have h0 := hb 5378
    rw [show sx_sr 5378 = (0, 60) from by decide +kernel] at h0
    exact h0
  have b5634 : 0 ≤ σ 5634 ∧ σ 5634 ≤ 60 := by
    have h0 := hb 5634
    rw [show sx_sr 5634 = (0, 60) from by decide +kernel] at h0
    exact h0
  have b5890 : 0 ≤ σ 5890 ∧ σ 5890 ≤ 60 := by
    have h0 := hb 5890
    rw [show sx_sr 5890 = (0, 60) from by decide +kernel] at h0
    exact h0
  have b6146 : 0 ≤ σ 6146 ∧ σ 6146 ≤ 60 := by
    have h0 := hb 6146
    rw [show sx_sr 6146 = (0, 60) from by decide +kernel] at h0
    exact h0
  obtain ⟨hs, ht, hf, hr, hm, hw⟩ := hW
  have e1 : τ 19001 = a1 := by rw [ht 19001 (by decide) (by decide)]; exact h1
  have e2 : τ 19002 = a2 := by rw [ht 19002 (by decide) (by decide)]; exact h2
  have e3 : τ 19003 = a3 := by rw [ht 19003 (by decide) (by decide)]; exact h3
  have e4 : τ 19004 = a4 := by rw [ht 19004 (by decide) (by decide)]; exact h4
  have e5 : τ 19005 = a5 := by rw [ht 19005 (by decide) (by decide)]; exact h5
  have s5377 : τ 5377 = σ 5377 := hs 5377 (by decide)
  have s5378 : τ 5378 = σ 5378 := hs 5378 (by decide)
  have s5633 : τ 5633 = σ 5633 := hs 5633 (by decide)
  have s5634 : τ 5634 = σ 5634 := hs 5634 (by decide)
  have s5889 : τ 5889 = σ 5889 := hs 5889 (by decide)
  have s5890 : τ 5890 = σ 5890 := hs 5890 (by decide)
  have s6145 : τ 6145 = σ 6145 := hs 6145 (by decide)
  have s6146 : τ 6146 = σ 6146 := hs 6146 (by decide)
  clear hs ht hb
  rw [hx] at hr
  obtain ⟨y, hy, hv⟩ := hr
  cases hy
  replace hv : x.toInt = 0 + 0 := hv
  have f0 : 0 ≤ (-1) + (1 * τ 5377 + 0) := hf _ (List.Mem.head _)
  have f1 : 0 ≤ 0 + (1 * τ 5889 + 0) := hf _ (List.Mem.tail _ (List.Mem.head _))
  have f2 : 0 ≤ 2 + ((-1) * τ 5889 + 0) := hf _ (List.Mem.tail _ (List.Mem.tail _ (List.Mem.head _)))
  have f3 : 0 ≤ 0 + (1 * τ 19001 + 0) := hf _ (List.Mem.tail _ (List.Mem.tail _ (List.Mem.tail _ (List.Mem.head _))))
  have f4 : 0 ≤ 0 + ((-1) * τ 19001 + 0) := hf _ (List.Mem.tail _ (List.Mem.tail _ (List.Mem.tail _ (List.Mem.tail _ (List.Mem.head _)))))
  have f5 : 0 ≤ 0 + (1 * τ 19002 + 0) := hf _ (List.Mem.tail _ (List.Mem.tail _ (List.Mem.tail _ (List.Mem.tail _ (List.Mem.tail _ (List.Mem.head _))))))
  have f6 : 0 ≤ (-2) + (1 * τ 19003 + 0) := hf _ (List.Mem.tail _ (List.Mem.tail _ (List.Mem.tail _ (List.Mem.tail _ (List.Mem.tail _ (List.Mem.tail _ (List.Mem.head _)))))))
  have f7 : 0 ≤ 2 + ((-1) * τ 19003 + 0) := hf _ (List.Mem.tail _ (List.Mem.tail _ (List.Mem.tail _ (List.Mem.tail _ (List.Mem.tail _ (List.Mem.tail _ (List.Mem.tail _ (List.Mem.head _))))))))
  have f8 : 0 ≤ 0 + (1 * τ 19004 + 0) := hf _ (List.Mem.tail _ (List.Mem.tail _ (List.Mem.tail _ (List.Mem.tail _ (List.Mem.tail _ (List.Mem.tail _ (List.Mem.tail _ (List.Mem.tail _ (List.Mem.head _)))))))))
  have f9 : 0 ≤ 0 + (1 * τ 19005 + 0) := hf _ (List.Mem.tail _ (List.Mem.tail _ (List.Mem.tail _ (List.Mem.tail _ (List.Mem.tail _ (List.Mem.tail _ (List.Mem.tail _ (List.Mem.tail _ (List.Mem.tail _ (List.Mem.head _))))))))))
  have f10 : 0 ≤ (-1) + (1 * τ 5377 + ((-1) * τ 5889 + 0)) := hf _ (List.Mem.tail _ (List.Mem.tail _ (List.Mem.tail _ (List.Mem.tail _ (List.Mem.tail _ (List.Mem.tail _ (List.Mem.tail _ (List.Mem.tail _ (List.Mem.tail _ (List.Mem.tail _ (List.Mem.head _)))))))))))
  clear hf hm
  have ej : a1 = 0 := by omega
  subst ej
  have ek : a3 = 2 := by omega
  subst ek
  simp only [lw_sel0, lw_sel1, lw_sel2, lw_sel3]
  refine Or.inr ⟨by omega, fun h => ?_⟩
  obtain ⟨z0, z1, z2, z3, z4, z5, z6, z7, z8, z9, z10, z11⟩ := h
  omega
theorem lw_px_40 {as : List rv_A} {σ σ' : Nat → Int} {o : rv_O} {x : Int32} {a1 a2 a3 a4 a5 : Int} {τ : Nat → Int} (hx : o.1 = some (.inl x)) (h1 : lw_av as 1 = a1) (h2 : lw_av as 2 = a2) (h3 : lw_av as 3 = a3) (h4 : lw_av as 4 = a4) (h5 : lw_av as 5 = a5) (hb : ∀ s, (sx_sr s).1 ≤ σ s ∧ σ s ≤ (sx_sr s).2) (hW : lw_W ([], [((-1), [(5377, 1)]), (0, [(5889, 1)]), (2, [(5889, (-1))]), ((-2), [(19001, 1)]), (2, [(19001, (-1))]), (0, [(19002, 1)]), (0, [(19003, 1)]), (0, [(19003, (-1))]), (0, [(19004, 1)]), (0, [(19005, 1)]), ((-1), [(5377, 1), (5889, (-1))])], [(9, (8, []))], some (false, (0, []))) as σ σ' τ o) : lw_px_C a1 a2 a3 a4 a5 x.toInt σ σ' := by
  unfold lw_px_C
  have b5377 : (-1) ≤ σ 5377 ∧ σ 5377 ≤ 3 := by
    have h0 := hb 5377
    rw [show sx_sr 5377 = ((-1), 3) from by decide +kernel] at h0
    exact h0
  have b5633 : (-1) ≤ σ 5633 ∧ σ 5633 ≤ 3 := by
    have h0 := hb 5633
    rw [show sx_sr 5633 = ((-1), 3) from by decide +kernel] at h0
    exact h0
  have b5889 : (-1) ≤ σ 5889 ∧ σ 5889 ≤ 3 := by
    have h0 := hb 5889
    rw [show sx_sr 5889 = ((-1), 3) from by decide +kernel] at h0
    exact h0
  have b6145 : (-1) ≤ σ 6145 ∧ σ 6145 ≤ 3 := by
    have h0 := hb 6145
    rw [show sx_sr 6145 = ((-1), 3) from by decide +kernel] at h0
    exact h0
  have b5378 : 0 ≤ σ 5378 ∧ σ 5378 ≤ 60 := by
    have h0 := hb 5378
    rw [show sx_sr 5378 = (0, 60) from by decide +kernel] at h0
    exact h0
  have b5634 : 0 ≤ σ 5634 ∧ σ 5634 ≤ 60 := by
    have h0 := hb 5634
    rw [show sx_sr 5634 = (0, 60) from by decide +kernel] at h0
    exact h0
  have b5890 : 0 ≤ σ 5890 ∧ σ 5890 ≤ 60 := by
    have h0 := hb 5890
    rw [show sx_sr 5890 = (0, 60) from by decide +kernel] at h0
    exact h0
  have b6146 : 0 ≤ σ 6146 ∧ σ 6146 ≤ 60 := by
    have h0 := hb 6146
    rw [show sx_sr 6146 = (0, 60) from by decide +kernel] at h0
    exact h0
  obtain ⟨hs, ht, hf, hr, hm, hw⟩ := hW
  have e1 : τ 19001 = a1 := by rw [ht 19001 (by decide) (by decide)]; exact h1
  have e2 : τ 19002 = a2 := by rw [ht 19002 (by decide) (by decide)]; exact h2
  have e3 : τ 19003 = a3 := by rw [ht 19003 (by decide) (by decide)]; exact h3
  have e4 : τ 19004 = a4 := by rw [ht 19004 (by decide) (by decide)]; exact h4
  have e5 : τ 19005 = a5 := by rw [ht 19005 (by decide) (by decide)]; exact h5
  have s5377 : τ 5377 = σ 5377 := hs 5377 (by decide)
  have s5378 : τ 5378 = σ 5378 := hs 5378 (by decide)
  have s5633 : τ 5633 = σ 5633 := hs 5633 (by decide)
  have s5634 : τ 5634 = σ 5634 := hs 5634 (by decide)
  have s5889 : τ 5889 = σ 5889 := hs 5889 (by decide)
  have s5890 : τ 5890 = σ 5890 := hs 5890 (by decide)
  have s6145 : τ 6145 = σ 6145 := hs 6145 (by decide)
  have s6146 : τ 6146 = σ 6146 := hs 6146 (by decide)
  clear hs ht hb
  rw [hx] at hr
  obtain ⟨y, hy, hv⟩ := hr
  cases hy
  replace hv : x.toInt = 0 + 0 := hv
  have f0 : 0 ≤ (-1) + (1 * τ 5377 + 0) := hf _ (List.Mem.head _)
  have f1 : 0 ≤ 0 + (1 * τ 5889 + 0) := hf _ (List.Mem.tail _ (List.Mem.head _))
  have f2 : 0 ≤ 2 + ((-1) * τ 5889 + 0) := hf _ (List.Mem.tail _ (List.Mem.tail _ (List.Mem.head _)))
  have f3 : 0 ≤ (-2) + (1 * τ 19001 + 0) := hf _ (List.Mem.tail _ (List.Mem.tail _ (List.Mem.tail _ (List.Mem.head _))))
  have f4 : 0 ≤ 2 + ((-1) * τ 19001 + 0) := hf _ (List.Mem.tail _ (List.Mem.tail _ (List.Mem.tail _ (List.Mem.tail _ (List.Mem.head _)))))
  have f5 : 0 ≤ 0 + (1 * τ 19002 + 0) := hf _ (List.Mem.tail _ (List.Mem.tail _ (List.Mem.tail _ (List.Mem.tail _ (List.Mem.tail _ (List.Mem.head _))))))
  have f6 : 0 ≤ 0 + (1 * τ 19003 + 0) := hf _ (List.Mem.tail _ (List.Mem.tail _ (List.Mem.tail _ (List.Mem.tail _ (List.Mem.tail _ (List.Mem.tail _ (List.Mem.head _)))))))
  have f7 : 0 ≤ 0 + ((-1) * τ 19003 + 0) := hf _ (List.Mem.tail _ (List.Mem.tail _ (List.Mem.tail _ (List.Mem.tail _ (List.Mem.tail _ (List.Mem.tail _ (List.Mem.tail _ (List.Mem.head _))))))))
  have f8 : 0 ≤ 0 + (1 * τ 19004 + 0) := hf _ (List.Mem.tail _ (List.Mem.tail _ (List.Mem.tail _ (List.Mem.tail _ (List.Mem.tail _ (List.Mem.tail _ (List.Mem.tail _ (List.Mem.tail _ (List.Mem.head _)))))))))
  have f9 : 0 ≤ 0 + (1 * τ 19005 + 0) := hf _ (List.Mem.tail _ (List.Mem.tail _ (List.Mem.tail _ (List.Mem.tail _ (List.Mem.tail _ (List.Mem.tail _ (List.Mem.tail _ (List.Mem.tail _ (List.Mem.tail _ (List.Mem.head _))))))))))
  have f10 : 0 ≤ (-1) + (1 * τ 5377 + ((-1) * τ 5889 + 0)) := hf _ (List.Mem.tail _ (List.Mem.tail _ (List.Mem.tail _ (List.Mem.tail _ (List.Mem.tail _ (List.Mem.tail _ (List.Mem.tail _ (List.Mem.tail _ (List.Mem.tail _ (List.Mem.tail _ (List.Mem.head _)))))))))))
  clear hf hm
  have ej : a1 = 2 := by omega
  subst ej
  have ek : a3 = 0 := by omega
  subst ek
  simp only [lw_sel0, lw_sel1, lw_sel2, lw_sel3]
  refine Or.inr ⟨by omega, fun h => ?_⟩
  obtain ⟨z0, z1, z2, z3, z4, z5, z6, z7, z8, z9, z10, z11⟩ := h
  omega
theorem lw_px_41 {as : List rv_A} {σ σ' : Nat → Int} {o : rv_O} {x : Int32} {a1 a2 a3 a4 a5 : Int} {τ : Nat → Int} (hx : o.1 = some (.inl x)) (h1 : lw_av as 1 = a1) (h2 : lw_av as 2 = a2) (h3 : lw_av as 3 = a3) (h4 : lw_av as 4 = a4) (h5 : lw_av as 5 = a5) (hb : ∀ s, (sx_sr s).1 ≤ σ s ∧ σ s ≤ (sx_sr s).2) (hW : lw_W ([], [((-1), [(5377, 1)]), (0, [(6145, 1)]), (2, [(6145, (-1))]), (0, [(19001, 1)]), (0, [(19001, (-1))]), (0, [(19002, 1)]), ((-3), [(19003, 1)]), (3, [(19003, (-1))]), (0, [(19004, 1)]), (0, [(19005, 1)]), ((-1), [(5377, 1), (6145, (-1))])], [(9, (8, []))], some (false, (0, []))) as σ σ' τ o) : lw_px_C a1 a2 a3 a4 a5 x.toInt σ σ' := by
  unfold lw_px_C
  have b5377 : (-1) ≤ σ 5377 ∧ σ 5377 ≤ 3 := by
    have h0 := hb 5377
    rw [show sx_sr 5377 = ((-1), 3) from by decide +kernel] at h0
    exact h0
  have b5633 : (-1) ≤ σ 5633 ∧ σ 5633 ≤ 3 := by
    have h0 := hb 5633
    rw [show sx_sr 5633 = ((-1), 3) from by decide +kernel] at h0
    exact h0
  have b5889 : (-1) ≤ σ 5889 ∧ σ 5889 ≤ 3 := by
    have h0 := hb 5889
    rw [show sx_sr 5889 = ((-1), 3) from by decide +kernel] at h0
    exact h0
  have b6145 : (-1) ≤ σ 6145 ∧ σ 6145 ≤ 3 := by
    have h0 := hb 6145
    rw [show sx_sr 6145 = ((-1), 3) from by decide +kernel] at h0
    exact h0
  have b5378 : 0 ≤ σ 5378 ∧ σ 5378 ≤ 60 := by
    have h0 := hb 5378
    rw [show sx_sr 5378 = (0, 60) from by decide +kernel] at h0
    exact h0
  have b5634 : 0 ≤ σ 5634 ∧ σ 5634 ≤ 60 := by
    have h0 := hb 5634
    rw [show sx_sr 5634 = (0, 60) from by decide +kernel] at h0
    exact h0
  have b5890 : 0 ≤ σ 5890 ∧ σ 5890 ≤ 60 := by
    have h0 := hb 5890
    rw [show sx_sr 5890 = (0, 60) from by decide +kernel] at h0
    exact h0
  have b6146 : 0 ≤ σ 6146 ∧ σ 6146 ≤ 60 := by
    have h0 := hb 6146
    rw [show sx_sr 6146 = (0, 60) from by decide +kernel] at h0
    exact h0
  obtain ⟨hs, ht, hf, hr, hm, hw⟩ := hW
  have e1 : τ 19001 = a1 := by rw [ht 19001 (by decide) (by decide)]; exact h1
  have e2 : τ 19002 = a2 := by rw [ht 19002 (by decide) (by decide)]; exact h2
  have e3 : τ 19003 = a3 := by rw [ht 19003 (by decide) (by decide)]; exact h3
  have e4 : τ 19004 = a4 := by rw [ht 19004 (by decide) (by decide)]; exact h4
  have e5 : τ 19005 = a5 := by rw [ht 19005 (by decide) (by decide)]; exact h5
  have s5377 : τ 5377 = σ 5377 := hs 5377 (by decide)
  have s5378 : τ 5378 = σ 5378 := hs 5378 (by decide)
  have s5633 : τ 5633 = σ 5633 := hs 5633 (by decide)
  have s5634 : τ 5634 = σ 5634 := hs 5634 (by decide)
  have s5889 : τ 5889 = σ 5889 := hs 5889 (by decide)
  have s5890 : τ 5890 = σ 5890 := hs 5890 (by decide)
  have s6145 : τ 6145 = σ 6145 := hs 6145 (by decide)
  have s6146 : τ 6146 = σ 6146 := hs 6146 (by decide)
  clear hs ht hb
  rw [hx] at hr
  obtain ⟨y, hy, hv⟩ := hr
  cases hy
  replace hv : x.toInt = 0 + 0 := hv
  have f0 : 0 ≤ (-1) + (1 * τ 5377 + 0) := hf _ (List.Mem.head _)
  have f1 : 0 ≤ 0 + (1 * τ 6145 + 0) := hf _ (List.Mem.tail _ (List.Mem.head _))
  have f2 : 0 ≤ 2 + ((-1) * τ 6145 + 0) := hf _ (List.Mem.tail _ (List.Mem.tail _ (List.Mem.head _)))
  have f3 : 0 ≤ 0 + (1 * τ 19001 + 0) := hf _ (List.Mem.tail _ (List.Mem.tail _ (List.Mem.tail _ (List.Mem.head _))))
  have f4 : 0 ≤ 0 + ((-1) * τ 19001 + 0) := hf _ (List.Mem.tail _ (List.Mem.tail _ (List.Mem.tail _ (List.Mem.tail _ (List.Mem.head _)))))
  have f5 : 0 ≤ 0 + (1 * τ 19002 + 0) := hf _ (List.Mem.tail _ (List.Mem.tail _ (List.Mem.tail _ (List.Mem.tail _ (List.Mem.tail _ (List.Mem.head _))))))
  have f6 : 0 ≤ (-3) + (1 * τ 19003 + 0) := hf _ (List.Mem.tail _ (List.Mem.tail _ (List.Mem.tail _ (List.Mem.tail _ (List.Mem.tail _ (List.Mem.tail _ (List.Mem.head _)))))))
  have f7 : 0 ≤ 3 + ((-1) * τ 19003 + 0) := hf _ (List.Mem.tail _ (List.Mem.tail _ (List.Mem.tail _ (List.Mem.tail _ (List.Mem.tail _ (List.Mem.tail _ (List.Mem.tail _ (List.Mem.head _))))))))
  have f8 : 0 ≤ 0 + (1 * τ 19004 + 0) := hf _ (List.Mem.tail _ (List.Mem.tail _ (List.Mem.tail _ (List.Mem.tail _ (List.Mem.tail _ (List.Mem.tail _ (List.Mem.tail _ (List.Mem.tail _ (List.Mem.head _)))))))))
  have f9 : 0 ≤ 0 + (1 * τ 19005 + 0) := hf _ (List.Mem.tail _ (List.Mem.tail _ (List.Mem.tail _ (List.Mem.tail _ (List.Mem.tail _ (List.Mem.tail _ (List.Mem.tail _ (List.Mem.tail _ (List.Mem.tail _ (List.Mem.head _))))))))))
  have f10 : 0 ≤ (-1) + (1 * τ 5377 + ((-1) * τ 6145 + 0)) := hf _ (List.Mem.tail _ (List.Mem.tail _ (List.Mem.tail _ (List.Mem.tail _ (List.Mem.tail _ (List.Mem.tail _ (List.Mem.tail _ (List.Mem.tail _ (List.Mem.tail _ (List.Mem.tail _ (List.Mem.head _)))))))))))
  clear hf hm
  have ej : a1 = 0 := by omega
  subst ej
  have ek : a3 = 3 := by omega
  subst ek
  simp only [lw_sel0, lw_sel1, lw_sel2, lw_sel3]
  refine Or.inr ⟨by omega, fun h => ?_⟩
  obtain ⟨z0, z1, z2, z3, z4, z5, z6, z7, z8, z9, z10, z11⟩ := h
  omega
theorem lw_px_42 {as : List rv_A} {σ σ' : Nat → Int} {o : rv_O} {x : Int32} {a1 a2 a3 a4 a5 : Int} {τ : Nat → Int} (hx : o.1 = some (.inl x)) (h1 : lw_av as 1 = a1) (h2 : lw_av as 2 = a2) (h3 : lw_av as 3 = a3) (h4 : lw_av as 4 = a4) (h5 : lw_av as 5 = a5) (hb : ∀ s, (sx_sr s).1 ≤ σ s ∧ σ s ≤ (sx_sr s).2) (hW : lw_W ([], [((-1), [(5377, 1)]), (0, [(6145, 1)]), (2, [(6145, (-1))]), ((-3), [(19001, 1)]), (3, [(19001, (-1))]), (0, [(19002, 1)]), (0, [(19003, 1)]), (0, [(19003, (-1))]), (0, [(19004, 1)]), (0, [(19005, 1)]), ((-1), [(5377, 1), (6145, (-1))])], [(9, (8, []))], some (false, (0, []))) as σ σ' τ o) : lw_px_C a1 a2 a3 a4 a5 x.toInt σ σ' := by
  unfold lw_px_C
  have b5377 : (-1) ≤ σ 5377 ∧ σ 5377 ≤ 3 := by
    have h0 := hb 5377
    rw [show sx_sr 5377 = ((-1), 3) from by decide +kernel] at h0
    exact h0
  have b5633 : (-1) ≤ σ 5633 ∧ σ 5633 ≤ 3 := by
    have h0 := hb 5633
    rw [show sx_sr 5633 = ((-1), 3) from by decide +kernel] at h0
    exact h0
  have b5889 : (-1) ≤ σ 5889 ∧ σ 5889 ≤ 3 := by
    have h0 := hb 5889
    rw [show sx_sr 5889 = ((-1), 3) from by decide +kernel] at h0
    exact h0
  have b6145 : (-1) ≤ σ 6145 ∧ σ 6145 ≤ 3 := by
    have h0 := hb 6145
    rw [show sx_sr 6145 = ((-1), 3) from by decide +kernel] at h0
    exact h0
  have b5378 : 0 ≤ σ 5378 ∧ σ 5378 ≤ 60 := by
    have h0 := hb 5378
    rw [show sx_sr 5378 = (0, 60) from by decide +kernel] at h0
    exact h0
  have b5634 : 0 ≤ σ 5634 ∧ σ 5634 ≤ 60 := by
    have h0 := hb 5634
    rw [show sx_sr 5634 = (0, 60) from by decide +kernel] at h0
    exact h0
  have b5890 : 0 ≤ σ 5890 ∧ σ 5890 ≤ 60 := by
    have h0 := hb 5890
    rw [show sx_sr 5890 = (0, 60) from by decide +kernel] at h0
    exact h0
  have b6146 : 0 ≤ σ 6146 ∧ σ 6146 ≤ 60 := by
    have h0 := hb 6146
    rw [show sx_sr 6146 = (0, 60) from by decide +kernel] at h0
    exact h0
  obtain ⟨hs, ht, hf, hr, hm, hw⟩ := hW
  have e1 : τ 19001 = a1 := by rw [ht 19001 (by decide) (by decide)]; exact h1
  have e2 : τ 19002 = a2 := by rw [ht 19002 (by decide) (by decide)]; exact h2
  have e3 : τ 19003 = a3 := by rw [ht 19003 (by decide) (by decide)]; exact h3
  have e4 : τ 19004 = a4 := by rw [ht 19004 (by decide) (by decide)]; exact h4
  have e5 : τ 19005 = a5 := by rw [ht 19005 (by decide) (by decide)]; exact h5
  have s5377 : τ 5377 = σ 5377 := hs 5377 (by decide)
  have s5378 : τ 5378 = σ 5378 := hs 5378 (by decide)
  have s5633 : τ 5633 = σ 5633 := hs 5633 (by decide)
  have s5634 : τ 5634 = σ 5634 := hs 5634 (by decide)
  have s5889 : τ 5889 = σ 5889 := hs 5889 (by decide)
  have s5890 : τ 5890 = σ 5890 := hs 5890 (by decide)
  have s6145 : τ 6145 = σ 6145 := hs 6145 (by decide)
  have s6146 : τ 6146 = σ 6146 := hs 6146 (by decide)
  clear hs ht hb
  rw [hx] at hr
  obtain ⟨y, hy, hv⟩ := hr
  cases hy
  replace hv : x.toInt = 0 + 0 := hv
  have f0 : 0 ≤ (-1) + (1 * τ 5377 + 0) := hf _ (List.Mem.head _)
  have f1 : 0 ≤ 0 + (1 * τ 6145 + 0) := hf _ (List.Mem.tail _ (List.Mem.head _))
  have f2 : 0 ≤ 2 + ((-1) * τ 6145 + 0) := hf _ (List.Mem.tail _ (List.Mem.tail _ (List.Mem.head _)))
  have f3 : 0 ≤ (-3) + (1 * τ 19001 + 0) := hf _ (List.Mem.tail _ (List.Mem.tail _ (List.Mem.tail _ (List.Mem.head _))))
  have f4 : 0 ≤ 3 + ((-1) * τ 19001 + 0) := hf _ (List.Mem.tail _ (List.Mem.tail _ (List.Mem.tail _ (List.Mem.tail _ (List.Mem.head _)))))
  have f5 : 0 ≤ 0 + (1 * τ 19002 + 0) := hf _ (List.Mem.tail _ (List.Mem.tail _ (List.Mem.tail _ (List.Mem.tail _ (List.Mem.tail _ (List.Mem.head _))))))
  have f6 : 0 ≤ 0 + (1 * τ 19003 + 0) := hf _ (List.Mem.tail _ (List.Mem.tail _ (List.Mem.tail _ (List.Mem.tail _ (List.Mem.tail _ (List.Mem.tail _ (List.Mem.head _)))))))
  have f7 : 0 ≤ 0 + ((-1) * τ 19003 + 0) := hf _ (List.Mem.tail _ (List.Mem.tail _ (List.Mem.tail _ (List.Mem.tail _ (List.Mem.tail _ (List.Mem.tail _ (List.Mem.tail _ (List.Mem.head _))))))))
  have f8 : 0 ≤ 0 + (1 * τ 19004 + 0) := hf _ (List.Mem.tail _ (List.Mem.tail _ (List.Mem.tail _ (List.Mem.tail _ (List.Mem.tail _ (List.Mem.tail _ (List.Mem.tail _ (List.Mem.tail _ (List.Mem.head _)))))))))
  have f9 : 0 ≤ 0 + (1 * τ 19005 + 0) := hf _ (List.Mem.tail _ (List.Mem.tail _ (List.Mem.tail _ (List.Mem.tail _ (List.Mem.tail _ (List.Mem.tail _ (List.Mem.tail _ (List.Mem.tail _ (List.Mem.tail _ (List.Mem.head _))))))))))
  have f10 : 0 ≤ (-1) + (1 * τ 5377 + ((-1) * τ 6145 + 0)) := hf _ (List.Mem.tail _ (List.Mem.tail _ (List.Mem.tail _ (List.Mem.tail _ (List.Mem.tail _ (List.Mem.tail _ (List.Mem.tail _ (List.Mem.tail _ (List.Mem.tail _ (List.Mem.tail _ (List.Mem.head _)))))))))))
  clear hf hm
  have ej : a1 = 3 := by omega
  subst ej
  have ek : a3 = 0 := by omega
  subst ek
  simp only [lw_sel0, lw_sel1, lw_sel2, lw_sel3]
  refine Or.inr ⟨by omega, fun h => ?_⟩
  obtain ⟨z0, z1, z2, z3, z4, z5, z6, z7, z8, z9, z10, z11⟩ := h
  omega
theorem lw_px_43 {as : List rv_A} {σ σ' : Nat → Int} {o : rv_O} {x : Int32} {a1 a2 a3 a4 a5 : Int} {τ : Nat → Int} (hx : o.1 = some (.inl x)) (h1 : lw_av as 1 = a1) (h2 : lw_av as 2 = a2) (h3 : lw_av as 3 = a3) (h4 : lw_av as 4 = a4) (h5 : lw_av as 5 = a5) (hb : ∀ s, (sx_sr s).1 ≤ σ s ∧ σ s ≤ (sx_sr s).2) (hW : lw_W ([], [((-1), [(5633, (-1))]), ((-1), [(19001, 1)]), (1, [(19001, (-1))]), (0, [(19002, 1)]), (0, [(19003, 1)]), (0, [(19003, (-1))]), (0, [(19004, 1)]), (0, [(19005, 1)])], [(9, (2, []))], some (false, (0, []))) as σ σ' τ o) : lw_px_C a1 a2 a3 a4 a5 x.toInt σ σ' := by
  unfold lw_px_C
  have b5377 : (-1) ≤ σ 5377 ∧ σ 5377 ≤ 3 := by
    have h0 := hb 5377
    rw [show sx_sr 5377 = ((-1), 3) from by decide +kernel] at h0
    exact h0
  have b5633 : (-1) ≤ σ 5633 ∧ σ 5633 ≤ 3 := by
    have h0 := hb 5633
    rw [show sx_sr 5633 = ((-1), 3) from by decide +kernel] at h0
    exact h0
  have b5889 : (-1) ≤ σ 5889 ∧ σ 5889 ≤ 3 := by
    have h0 := hb 5889
    rw [show sx_sr 5889 = ((-1), 3) from by decide +kernel] at h0
    exact h0
  have b6145 : (-1) ≤ σ 6145 ∧ σ 6145 ≤ 3 := by
    have h0 := hb 6145
    rw [show sx_sr 6145 = ((-1), 3) from by decide +kernel] at h0
    exact h0
  have b5378 : 0 ≤ σ 5378 ∧ σ 5378 ≤ 60 := by
    have h0 := hb 5378
    rw [show sx_sr 5378 = (0, 60) from by decide +kernel] at h0
    exact h0
  have b5634 : 0 ≤ σ 5634 ∧ σ 5634 ≤ 60 := by
    have h0 := hb 5634
    rw [show sx_sr 5634 = (0, 60) from by decide +kernel] at h0
    exact h0
  have b5890 : 0 ≤ σ 5890 ∧ σ 5890 ≤ 60 := by
    have h0 := hb 5890
    rw [show sx_sr 5890 = (0, 60) from by decide +kernel] at h0
    exact h0
  have b6146 : 0 ≤ σ 6146 ∧ σ 6146 ≤ 60 := by
    have h0 := hb 6146
    rw [show sx_sr 6146 = (0, 60) from by decide +kernel] at h0
    exact h0
  obtain ⟨hs, ht, hf, hr, hm, hw⟩ := hW
  have e1 : τ 19001 = a1 := by rw [ht 19001 (by decide) (by decide)]; exact h1
  have e2 : τ 19002 = a2 := by rw [ht 19002 (by decide) (by decide)]; exact h2
  have e3 : τ 19003 = a3 := by rw [ht 19003 (by decide) (by decide)]; exact h3
  have e4 : τ 19004 = a4 := by rw [ht 19004 (by decide) (by decide)]; exact h4
  have e5 : τ 19005 = a5 := by rw [ht 19005 (by decide) (by decide)]; exact h5
  have s5377 : τ 5377 = σ 5377 := hs 5377 (by decide)
  have s5378 : τ 5378 = σ 5378 := hs 5378 (by decide)
  have s5633 : τ 5633 = σ 5633 := hs 5633 (by decide)
  have s5634 : τ 5634 = σ 5634 := hs 5634 (by decide)
  have s5889 : τ 5889 = σ 5889 := hs 5889 (by decide)
  have s5890 : τ 5890 = σ 5890 := hs 5890 (by decide)
  have s6145 : τ 6145 = σ 6145 := hs 6145 (by decide)
  have s6146 : τ 6146 = σ 6146 := hs 6146 (by decide)
  clear hs ht hb
  rw [hx] at hr
  obtain ⟨y, hy, hv⟩ := hr
  cases hy
  replace hv : x.toInt = 0 + 0 := hv
  have f0 : 0 ≤ (-1) + ((-1) * τ 5633 + 0) := hf _ (List.Mem.head _)
  have f1 : 0 ≤ (-1) + (1 * τ 19001 + 0) := hf _ (List.Mem.tail _ (List.Mem.head _))
  have f2 : 0 ≤ 1 + ((-1) * τ 19001 + 0) := hf _ (List.Mem.tail _ (List.Mem.tail _ (List.Mem.head _)))
  have f3 : 0 ≤ 0 + (1 * τ 19002 + 0) := hf _ (List.Mem.tail _ (List.Mem.tail _ (List.Mem.tail _ (List.Mem.head _))))
  have f4 : 0 ≤ 0 + (1 * τ 19003 + 0) := hf _ (List.Mem.tail _ (List.Mem.tail _ (List.Mem.tail _ (List.Mem.tail _ (List.Mem.head _)))))
  have f5 : 0 ≤ 0 + ((-1) * τ 19003 + 0) := hf _ (List.Mem.tail _ (List.Mem.tail _ (List.Mem.tail _ (List.Mem.tail _ (List.Mem.tail _ (List.Mem.head _))))))
  have f6 : 0 ≤ 0 + (1 * τ 19004 + 0) := hf _ (List.Mem.tail _ (List.Mem.tail _ (List.Mem.tail _ (List.Mem.tail _ (List.Mem.tail _ (List.Mem.tail _ (List.Mem.head _)))))))
  have f7 : 0 ≤ 0 + (1 * τ 19005 + 0) := hf _ (List.Mem.tail _ (List.Mem.tail _ (List.Mem.tail _ (List.Mem.tail _ (List.Mem.tail _ (List.Mem.tail _ (List.Mem.tail _ (List.Mem.head _))))))))
  clear hf hm
  have ej : a1 = 1 := by omega
  subst ej
  have ek : a3 = 0 := by omega
  subst ek
  simp only [lw_sel0, lw_sel1, lw_sel2, lw_sel3]
  refine Or.inr ⟨by omega, fun h => ?_⟩
  obtain ⟨z0, z1, z2, z3, z4, z5, z6, z7, z8, z9, z10, z11⟩ := h
  omega
theorem lw_px_44 {as : List rv_A} {σ σ' : Nat → Int} {o : rv_O} {x : Int32} {a1 a2 a3 a4 a5 : Int} {τ : Nat → Int} (hx : o.1 = some (.inl x)) (h1 : lw_av as 1 = a1) (h2 : lw_av as 2 = a2) (h3 : lw_av as 3 = a3) (h4 : lw_av as 4 = a4) (h5 : lw_av as 5 = a5) (hb : ∀ s, (sx_sr s).1 ≤ σ s ∧ σ s ≤ (sx_sr s).2) (hW : lw_W ([], [((-1), [(5633, (-1))]), ((-1), [(19001, 1)]), (1, [(19001, (-1))]), (0, [(19002, 1)]), ((-1), [(19003, 1)]), (1, [(19003, (-1))]), (0, [(19004, 1)]), (0, [(19005, 1)])], [(9, (2, []))], some (false, (0, []))) as σ σ' τ o) : lw_px_C a1 a2 a3 a4 a5 x.toInt σ σ' := by
  unfold lw_px_C
  have b5377 : (-1) ≤ σ 5377 ∧ σ 5377 ≤ 3 := by
    have h0 := hb 5377
    rw [show sx_sr 5377 = ((-1), 3) from by decide +kernel] at h0
    exact h0
  have b5633 : (-1) ≤ σ 5633 ∧ σ 5633 ≤ 3 := by
    have h0 := hb 5633
    rw [show sx_sr 5633 = ((-1), 3) from by decide +kernel] at h0
    exact h0
  have b5889 : (-1) ≤ σ 5889 ∧ σ 5889 ≤ 3 := by
    have h0 := hb 5889
    rw [show sx_sr 5889 = ((-1), 3) from by decide +kernel] at h0
    exact h0
  have b6145 : (-1) ≤ σ 6145 ∧ σ 6145 ≤ 3 := by
    have h0 := hb 6145
    rw [show sx_sr 6145 = ((-1), 3) from by decide +kernel] at h0
    exact h0
  have b5378 : 0 ≤ σ 5378 ∧ σ 5378 ≤ 60 := by
    have h0 := hb 5378
    rw [show sx_sr 5378 = (0, 60) from by decide +kernel] at h0
    exact h0
  have b5634 : 0 ≤ σ 5634 ∧ σ 5634 ≤ 60 := by
    have h0 := hb 5634
    rw [show sx_sr 5634 = (0, 60) from by decide +kernel] at h0
    exact h0
  have b5890 : 0 ≤ σ 5890 ∧ σ 5890 ≤ 60 := by
    have h0 := hb 5890
    rw [show sx_sr 5890 = (0, 60) from by decide +kernel] at h0
    exact h0
  have b6146 : 0 ≤ σ 6146 ∧ σ 6146 ≤ 60 := by
    have h0 := hb 6146
    rw [show sx_sr 6146 = (0, 60) from by decide +kernel] at h0
    exact h0
  obtain ⟨hs, ht, hf, hr, hm, hw⟩ := hW
  have e1 : τ 19001 = a1 := by rw [ht 19001 (by decide) (by decide)]; exact h1
  have e2 : τ 19002 = a2 := by rw [ht 19002 (by decide) (by decide)]; exact h2
  have e3 : τ 19003 = a3 := by rw [ht 19003 (by decide) (by decide)]; exact h3
  have e4 : τ 19004 = a4 := by rw [ht 19004 (by decide) (by decide)]; exact h4
  have e5 : τ 19005 = a5 := by rw [ht 19005 (by decide) (by decide)]; exact h5
  have s5377 : τ 5377 = σ 5377 := hs 5377 (by decide)
  have s5378 : τ 5378 = σ 5378 := hs 5378 (by decide)
  have s5633 : τ 5633 = σ 5633 := hs 5633 (by decide)
  have s5634 : τ 5634 = σ 5634 := hs 5634 (by decide)
  have s5889 : τ 5889 = σ 5889 := hs 5889 (by decide)
  have s5890 : τ 5890 = σ 5890 := hs 5890 (by decide)
  have s6145 : τ 6145 = σ 6145 := hs 6145 (by decide)
  have s6146 : τ 6146 = σ 6146 := hs 6146 (by decide)
  clear hs ht hb
  rw [hx] at hr
  obtain ⟨y, hy, hv⟩ := hr
  cases hy
  replace hv : x.toInt = 0 + 0 := hv
  have f0 : 0 ≤ (-1) + ((-1) * τ 5633 + 0) := hf _ (List.Mem.head _)
  have f1 : 0 ≤ (-1) + (1 * τ 19001 + 0) := hf _ (List.Mem.tail _ (List.Mem.head _))
  have f2 : 0 ≤ 1 + ((-1) * τ 19001 + 0) := hf _ (List.Mem.tail _ (List.Mem.tail _ (List.Mem.head _)))
  have f3 : 0 ≤ 0 + (1 * τ 19002 + 0) := hf _ (List.Mem.tail _ (List.Mem.tail _ (List.Mem.tail _ (List.Mem.head _))))
  have f4 : 0 ≤ (-1) + (1 * τ 19003 + 0) := hf _ (List.Mem.tail _ (List.Mem.tail _ (List.Mem.tail _ (List.Mem.tail _ (List.Mem.head _)))))
  have f5 : 0 ≤ 1 + ((-1) * τ 19003 + 0) := hf _ (List.Mem.tail _ (List.Mem.tail _ (List.Mem.tail _ (List.Mem.tail _ (List.Mem.tail _ (List.Mem.head _))))))
  have f6 : 0 ≤ 0 + (1 * τ 19004 + 0) := hf _ (List.Mem.tail _ (List.Mem.tail _ (List.Mem.tail _ (List.Mem.tail _ (List.Mem.tail _ (List.Mem.tail _ (List.Mem.head _)))))))
  have f7 : 0 ≤ 0 + (1 * τ 19005 + 0) := hf _ (List.Mem.tail _ (List.Mem.tail _ (List.Mem.tail _ (List.Mem.tail _ (List.Mem.tail _ (List.Mem.tail _ (List.Mem.tail _ (List.Mem.head _))))))))
  clear hf hm
  have ej : a1 = 1 := by omega
  subst ej
  have ek : a3 = 1 := by omega
  subst ek
  simp only [lw_sel0, lw_sel1, lw_sel2, lw_sel3]
  refine Or.inr ⟨by omega, fun h => ?_⟩
  obtain ⟨z0, z1, z2, z3, z4, z5, z6, z7, z8, z9, z10, z11⟩ := h
  omega
theorem lw_px_45 {as : List rv_A} {σ σ' : Nat → Int} {o : rv_O} {x : Int32} {a1 a2 a3 a4 a5 : Int} {τ : Nat → Int} (hx : o.1 = some (.inl x)) (h1 : lw_av as 1 = a1) (h2 : lw_av as 2 = a2) (h3 : lw_av as 3 = a3) (h4 : lw_av as 4 = a4) (h5 : lw_av as 5 = a5) (hb : ∀ s, (sx_sr s).1 ≤ σ s ∧ σ s ≤ (sx_sr s).2) (hW : lw_W ([], [((-1), [(5633, (-1))]), ((-1), [(19001, 1)]), (1, [(19001, (-1))]), (0, [(19002, 1)]), ((-2), [(19003, 1)]), (2, [(19003, (-1))]), (0, [(19004, 1)]), (0, [(19005, 1)])], [(9, (2, []))], some (false, (0, []))) as σ σ' τ o) : lw_px_C a1 a2 a3 a4 a5 x.toInt σ σ' := by
  unfold lw_px_C
  have b5377 : (-1) ≤ σ 5377 ∧ σ 5377 ≤ 3 := by
    have h0 := hb 5377
    rw [show sx_sr 5377 = ((-1), 3) from by decide +kernel] at h0
    exact h0
  have b5633 : (-1) ≤ σ 5633 ∧ σ 5633 ≤ 3 := by
    have h0 := hb 5633
    rw [show sx_sr 5633 = ((-1), 3) from by decide +kernel] at h0
    exact h0
  have b5889 : (-1) ≤ σ 5889 ∧ σ 5889 ≤ 3 := by
    have h0 := hb 5889
    rw [show sx_sr 5889 = ((-1), 3) from by decide +kernel] at h0
    exact h0
  have b6145 : (-1) ≤ σ 6145 ∧ σ 6145 ≤ 3 := by
    have h0 := hb 6145
    rw [show sx_sr 6145 = ((-1), 3) from by decide +kernel] at h0
    exact h0
  have b5378 : 0 ≤ σ 5378 ∧ σ 5378 ≤ 60 := by
    have h0 := hb 5378
    rw [show sx_sr 5378 = (0, 60) from by decide +kernel] at h0
    exact h0
  have b5634 : 0 ≤ σ 5634 ∧ σ 5634 ≤ 60 := by
    have h0 := hb 5634
    rw [show sx_sr 5634 = (0, 60) from by decide +kernel] at h0
    exact h0
  have b5890 : 0 ≤ σ 5890 ∧ σ 5890 ≤ 60 := by
    have h0 := hb 5890
    rw [show sx_sr 5890 = (0, 60) from by decide +kernel] at h0
    exact h0
  have b6146 : 0 ≤ σ 6146 ∧ σ 6146 ≤ 60 := by
    have h0 := hb 6146
    rw [show sx_sr 6146 = (0, 60) from by decide +kernel] at h0
    exact h0
  obtain ⟨hs, ht, hf, hr, hm, hw⟩ := hW
  have e1 : τ 19001 = a1 := by rw [ht 19001 (by decide) (by decide)]; exact h1
  have e2 : τ 19002 = a2 := by rw [ht 19002 (by decide) (by decide)]; exact h2
  have e3 : τ 19003 = a3 := by rw [ht 19003 (by decide) (by decide)]; exact h3
  have e4 : τ 19004 = a4 := by rw [ht 19004 (by decide) (by decide)]; exact h4
  have e5 : τ 19005 = a5 := by rw [ht 19005 (by decide) (by decide)]; exact h5
  have s5377 : τ 5377 = σ 5377 := hs 5377 (by decide)
  have s5378 : τ 5378 = σ 5378 := hs 5378 (by decide)
  have s5633 : τ 5633 = σ 5633 := hs 5633 (by decide)
  have s5634 : τ 5634 = σ 5634 := hs 5634 (by decide)
  have s5889 : τ 5889 = σ 5889 := hs 5889 (by decide)
  have s5890 : τ 5890 = σ 5890 := hs 5890 (by decide)
  have s6145 : τ 6145 = σ 6145 := hs 6145 (by decide)
  have s6146 : τ 6146 = σ 6146 := hs 6146 (by decide)
  clear hs ht hb
  rw [hx] at hr
  obtain ⟨y, hy, hv⟩ := hr
  cases hy
  replace hv : x.toInt = 0 + 0 := hv
  have f0 : 0 ≤ (-1) + ((-1) * τ 5633 + 0) := hf _ (List.Mem.head _)
  have f1 : 0 ≤ (-1) + (1 * τ 19001 + 0) := hf _ (List.Mem.tail _ (List.Mem.head _))
  have f2 : 0 ≤ 1 + ((-1) * τ 19001 + 0) := hf _ (List.Mem.tail _ (List.Mem.tail _ (List.Mem.head _)))
  have f3 : 0 ≤ 0 + (1 * τ 19002 + 0) := hf _ (List.Mem.tail _ (List.Mem.tail _ (List.Mem.tail _ (List.Mem.head _))))
  have f4 : 0 ≤ (-2) + (1 * τ 19003 + 0) := hf _ (List.Mem.tail _ (List.Mem.tail _ (List.Mem.tail _ (List.Mem.tail _ (List.Mem.head _)))))
  have f5 : 0 ≤ 2 + ((-1) * τ 19003 + 0) := hf _ (List.Mem.tail _ (List.Mem.tail _ (List.Mem.tail _ (List.Mem.tail _ (List.Mem.tail _ (List.Mem.head _))))))
  have f6 : 0 ≤ 0 + (1 * τ 19004 + 0) := hf _ (List.Mem.tail _ (List.Mem.tail _ (List.Mem.tail _ (List.Mem.tail _ (List.Mem.tail _ (List.Mem.tail _ (List.Mem.head _)))))))
  have f7 : 0 ≤ 0 + (1 * τ 19005 + 0) := hf _ (List.Mem.tail _ (List.Mem.tail _ (List.Mem.tail _ (List.Mem.tail _ (List.Mem.tail _ (List.Mem.tail _ (List.Mem.tail _ (List.Mem.head _))))))))
  clear hf hm
  have ej : a1 = 1 := by omega
  subst ej
  have ek : a3 = 2 := by omega
  subst ek
  simp only [lw_sel0, lw_sel1, lw_sel2, lw_sel3]
  refine Or.inr ⟨by omega, fun h => ?_⟩
  obtain ⟨z0, z1, z2, z3, z4, z5, z6, z7, z8, z9, z10, z11⟩ := h
  omega
