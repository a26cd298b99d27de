theorem lw_px_103 {as : List rv_A} {σ σ' : Nat → Int} {o : rv_O} {x : Int32} {a1 a2 a3 a4 a5 : Int} {τ : Nat → Int} (hx : o.1 = some (.inl x)) (h1 : lw_av as 1 = a1) (h2 : lw_av as 2 = a2) (h3 : lw_av as 3 = a3) (h4 : lw_av as 4 = a4) (h5 : lw_av as 5 = a5) (hb : ∀ s, (sx_sr s).1 ≤ σ s ∧ σ s ≤ (sx_sr s).2) (hW : lw_W ([], [(0, [(5889, 1)]), ((-2), [(19001, 1)]), (2, [(19001, (-1))]), (0, [(19002, 1)]), (60, [(19002, (-1))]), ((-2), [(19003, 1)]), (2, [(19003, (-1))]), (0, [(19004, 1)]), (60, [(19004, (-1))]), (0, [(19005, 1)]), (60, [(19005, (-1))]), (0, [(5890, 1), (19004, (-1)), (19005, (-1))]), (0, [(5890, 1), (19002, (-1)), (19005, (-1))])], [(9, (0, []))], some (false, (1, []))) as σ σ' τ o) : lw_px_C a1 a2 a3 a4 a5 x.toInt σ σ' := by
  unfold lw_px_C
  have b5377 : (-1) ≤ σ 5377 ∧ σ 5377 ≤ 3 := by
    have h0 := hb 5377
    rw [show sx_sr 5377 = ((-1), 3) from by decide +kernel] at h0
    exact h0
  have b5633 : (-1) ≤ σ 5633 ∧ σ 5633 ≤ 3 := by
    have h0 := hb 5633
    rw [show sx_sr 5633 = ((-1), 3) from by decide +kernel] at h0
    exact h0
  have b5889 : (-1) ≤ σ 5889 ∧ σ 5889 ≤ 3 := by
    have h0 := hb 5889
    rw [show sx_sr 5889 = ((-1), 3) from by decide +kernel] at h0
    exact h0
  have b6145 : (-1) ≤ σ 6145 ∧ σ 6145 ≤ 3 := by
    have h0 := hb 6145
    rw [show sx_sr 6145 = ((-1), 3) from by decide +kernel] at h0
    exact h0
  have b5378 : 0 ≤ σ 5378 ∧ σ 5378 ≤ 60 := by
    have h0 := hb 5378
    rw [show sx_sr 5378 = (0, 60) from by decide +kernel] at h0
    exact h0
  have b5634 : 0 ≤ σ 5634 ∧ σ 5634 ≤ 60 := by
    have h0 := hb 5634
    rw [show sx_sr 5634 = (0, 60) from by decide +kernel] at h0
    exact h0
  have b5890 : 0 ≤ σ 5890 ∧ σ 5890 ≤ 60 := by
    have h0 := hb 5890
    rw [show sx_sr 5890 = (0, 60) from by decide +kernel] at h0
    exact h0
  have b6146 : 0 ≤ σ 6146 ∧ σ 6146 ≤ 60 := by
    have h0 := hb 6146
    rw [show sx_sr 6146 = (0, 60) from by decide +kernel] at h0
    exact h0
  obtain ⟨hs, ht, hf, hr, hm, hw⟩ := hW
  have e1 : τ 19001 = a1 := by rw [ht 19001 (by decide) (by decide)]; exact h1
  have e2 : τ 19002 = a2 := by rw [ht 19002 (by decide) (by decide)]; exact h2
  have e3 : τ 19003 = a3 := by rw [ht 19003 (by decide) (by decide)]; exact h3
  have e4 : τ 19004 = a4 := by rw [ht 19004 (by decide) (by decide)]; exact h4
  have e5 : τ 19005 = a5 := by rw [ht 19005 (by decide) (by decide)]; exact h5
  have s5377 : τ 5377 = σ 5377 := hs 5377 (by decide)
  have s5378 : τ 5378 = σ 5378 := hs 5378 (by decide)
  have s5633 : τ 5633 = σ 5633 := hs 5633 (by decide)
  have s5634 : τ 5634 = σ 5634 := hs 5634 (by decide)
  have s5889 : τ 5889 = σ 5889 := hs 5889 (by decide)
  have s5890 : τ 5890 = σ 5890 := hs 5890 (by decide)
  have s6145 : τ 6145 = σ 6145 := hs 6145 (by decide)
  have s6146 : τ 6146 = σ 6146 := hs 6146 (by decide)
  clear hs ht hb
  rw [hx] at hr
  obtain ⟨y, hy, hv⟩ := hr
  cases hy
  replace hv : x.toInt = 1 + 0 := hv
  have f0 : 0 ≤ 0 + (1 * τ 5889 + 0) := hf _ (List.Mem.head _)
  have f1 : 0 ≤ (-2) + (1 * τ 19001 + 0) := hf _ (List.Mem.tail _ (List.Mem.head _))
  have f2 : 0 ≤ 2 + ((-1) * τ 19001 + 0) := hf _ (List.Mem.tail _ (List.Mem.tail _ (List.Mem.head _)))
  have f3 : 0 ≤ 0 + (1 * τ 19002 + 0) := hf _ (List.Mem.tail _ (List.Mem.tail _ (List.Mem.tail _ (List.Mem.head _))))
  have f4 : 0 ≤ 60 + ((-1) * τ 19002 + 0) := hf _ (List.Mem.tail _ (List.Mem.tail _ (List.Mem.tail _ (List.Mem.tail _ (List.Mem.head _)))))
  have f5 : 0 ≤ (-2) + (1 * τ 19003 + 0) := hf _ (List.Mem.tail _ (List.Mem.tail _ (List.Mem.tail _ (List.Mem.tail _ (List.Mem.tail _ (List.Mem.head _))))))
  have f6 : 0 ≤ 2 + ((-1) * τ 19003 + 0) := hf _ (List.Mem.tail _ (List.Mem.tail _ (List.Mem.tail _ (List.Mem.tail _ (List.Mem.tail _ (List.Mem.tail _ (List.Mem.head _)))))))
  have f7 : 0 ≤ 0 + (1 * τ 19004 + 0) := hf _ (List.Mem.tail _ (List.Mem.tail _ (List.Mem.tail _ (List.Mem.tail _ (List.Mem.tail _ (List.Mem.tail _ (List.Mem.tail _ (List.Mem.head _))))))))
  have f8 : 0 ≤ 60 + ((-1) * τ 19004 + 0) := hf _ (List.Mem.tail _ (List.Mem.tail _ (List.Mem.tail _ (List.Mem.tail _ (List.Mem.tail _ (List.Mem.tail _ (List.Mem.tail _ (List.Mem.tail _ (List.Mem.head _)))))))))
  have f9 : 0 ≤ 0 + (1 * τ 19005 + 0) := hf _ (List.Mem.tail _ (List.Mem.tail _ (List.Mem.tail _ (List.Mem.tail _ (List.Mem.tail _ (List.Mem.tail _ (List.Mem.tail _ (List.Mem.tail _ (List.Mem.tail _ (List.Mem.head _))))))))))
  have f10 : 0 ≤ 60 + ((-1) * τ 19005 + 0) := hf _ (List.Mem.tail _ (List.Mem.tail _ (List.Mem.tail _ (List.Mem.tail _ (List.Mem.tail _ (List.Mem.tail _ (List.Mem.tail _ (List.Mem.tail _ (List.Mem.tail _ (List.Mem.tail _ (List.Mem.head _)))))))))))
  have f11 : 0 ≤ 0 + (1 * τ 5890 + ((-1) * τ 19004 + ((-1) * τ 19005 + 0))) := hf _ (List.Mem.tail _ (List.Mem.tail _ (List.Mem.tail _ (List.Mem.tail _ (List.Mem.tail _ (List.Mem.tail _ (List.Mem.tail _ (List.Mem.tail _ (List.Mem.tail _ (List.Mem.tail _ (List.Mem.tail _ (List.Mem.head _))))))))))))
  have f12 : 0 ≤ 0 + (1 * τ 5890 + ((-1) * τ 19002 + ((-1) * τ 19005 + 0))) := hf _ (List.Mem.tail _ (List.Mem.tail _ (List.Mem.tail _ (List.Mem.tail _ (List.Mem.tail _ (List.Mem.tail _ (List.Mem.tail _ (List.Mem.tail _ (List.Mem.tail _ (List.Mem.tail _ (List.Mem.tail _ (List.Mem.tail _ (List.Mem.head _)))))))))))))
  clear hf hm
  have ej : a1 = 2 := by omega
  subst ej
  have ek : a3 = 2 := by omega
  subst ek
  simp only [lw_sel0, lw_sel1, lw_sel2, lw_sel3]
  exact Or.inl ⟨by omega, by omega, by omega, by omega, by omega, by omega, by omega, by omega, by omega, by omega, by omega, by omega, by omega⟩
theorem lw_px_104 {as : List rv_A} {σ σ' : Nat → Int} {o : rv_O} {x : Int32} {a1 a2 a3 a4 a5 : Int} {τ : Nat → Int} (hx : o.1 = some (.inl x)) (h1 : lw_av as 1 = a1) (h2 : lw_av as 2 = a2) (h3 : lw_av as 3 = a3) (h4 : lw_av as 4 = a4) (h5 : lw_av as 5 = a5) (hb : ∀ s, (sx_sr s).1 ≤ σ s ∧ σ s ≤ (sx_sr s).2) (hW : lw_W ([], [(0, [(5889, 1)]), (0, [(6145, 1)]), ((-2), [(19001, 1)]), (2, [(19001, (-1))]), (0, [(19002, 1)]), (60, [(19002, (-1))]), ((-3), [(19003, 1)]), (3, [(19003, (-1))]), (0, [(19004, 1)]), (60, [(19004, (-1))]), (0, [(19005, 1)]), (60, [(19005, (-1))]), (0, [(6146, 1), (19004, (-1)), (19005, (-1))]), (0, [(5890, 1), (19002, (-1)), (19005, (-1))]), (0, [(5889, (-1)), (6145, 1)]), (0, [(5889, 1), (6145, (-1))])], [(9, (0, []))], some (false, (1, []))) as σ σ' τ o) : lw_px_C a1 a2 a3 a4 a5 x.toInt σ σ' := by
  unfold lw_px_C
  have b5377 : (-1) ≤ σ 5377 ∧ σ 5377 ≤ 3 := by
    have h0 := hb 5377
    rw [show sx_sr 5377 = ((-1), 3) from by decide +kernel] at h0
    exact h0
  have b5633 : (-1) ≤ σ 5633 ∧ σ 5633 ≤ 3 := by
    have h0 := hb 5633
    rw [show sx_sr 5633 = ((-1), 3) from by decide +kernel] at h0
    exact h0
  have b5889 : (-1) ≤ σ 5889 ∧ σ 5889 ≤ 3 := by
    have h0 := hb 5889
    rw [show sx_sr 5889 = ((-1), 3) from by decide +kernel] at h0
    exact h0
  have b6145 : (-1) ≤ σ 6145 ∧ σ 6145 ≤ 3 := by
    have h0 := hb 6145
    rw [show sx_sr 6145 = ((-1), 3) from by decide +kernel] at h0
    exact h0
  have b5378 : 0 ≤ σ 5378 ∧ σ 5378 ≤ 60 := by
    have h0 := hb 5378
    rw [show sx_sr 5378 = (0, 60) from by decide +kernel] at h0
    exact h0
  have b5634 : 0 ≤ σ 5634 ∧ σ 5634 ≤ 60 := by
    have h0 := hb 5634
    rw [show sx_sr 5634 = (0, 60) from by decide +kernel] at h0
    exact h0
  have b5890 : 0 ≤ σ 5890 ∧ σ 5890 ≤ 60 := by
    have h0 := hb 5890
    rw [show sx_sr 5890 = (0, 60) from by decide +kernel] at h0
    exact h0
  have b6146 : 0 ≤ σ 6146 ∧ σ 6146 ≤ 60 := by
    have h0 := hb 6146
    rw [show sx_sr 6146 = (0, 60) from by decide +kernel] at h0
    exact h0
  obtain ⟨hs, ht, hf, hr, hm, hw⟩ := hW
  have e1 : τ 19001 = a1 := by rw [ht 19001 (by decide) (by decide)]; exact h1
  have e2 : τ 19002 = a2 := by rw [ht 19002 (by decide) (by decide)]; exact h2
  have e3 : τ 19003 = a3 := by rw [ht 19003 (by decide) (by decide)]; exact h3
  have e4 : τ 19004 = a4 := by rw [ht 19004 (by decide) (by decide)]; exact h4
  have e5 : τ 19005 = a5 := by rw [ht 19005 (by decide) (by decide)]; exact h5
  have s5377 : τ 5377 = σ 5377 := hs 5377 (by decide)
  have s5378 : τ 5378 = σ 5378 := hs 5378 (by decide)
  have s5633 : τ 5633 = σ 5633 := hs 5633 (by decide)
  have s5634 : τ 5634 = σ 5634 := hs 5634 (by decide)
  have s5889 : τ 5889 = σ 5889 := hs 5889 (by decide)
  have s5890 : τ 5890 = σ 5890 := hs 5890 (by decide)
  have s6145 : τ 6145 = σ 6145 := hs 6145 (by decide)
  have s6146 : τ 6146 = σ 6146 := hs 6146 (by decide)
  clear hs ht hb
  rw [hx] at hr
  obtain ⟨y, hy, hv⟩ := hr
  cases hy
  replace hv : x.toInt = 1 + 0 := hv
  have f0 : 0 ≤ 0 + (1 * τ 5889 + 0) := hf _ (List.Mem.head _)
  have f1 : 0 ≤ 0 + (1 * τ 6145 + 0) := hf _ (List.Mem.tail _ (List.Mem.head _))
  have f2 : 0 ≤ (-2) + (1 * τ 19001 + 0) := hf _ (List.Mem.tail _ (List.Mem.tail _ (List.Mem.head _)))
  have f3 : 0 ≤ 2 + ((-1) * τ 19001 + 0) := hf _ (List.Mem.tail _ (List.Mem.tail _ (List.Mem.tail _ (List.Mem.head _))))
  have f4 : 0 ≤ 0 + (1 * τ 19002 + 0) := hf _ (List.Mem.tail _ (List.Mem.tail _ (List.Mem.tail _ (List.Mem.tail _ (List.Mem.head _)))))
  have f5 : 0 ≤ 60 + ((-1) * τ 19002 + 0) := hf _ (List.Mem.tail _ (List.Mem.tail _ (List.Mem.tail _ (List.Mem.tail _ (List.Mem.tail _ (List.Mem.head _))))))
  have f6 : 0 ≤ (-3) + (1 * τ 19003 + 0) := hf _ (List.Mem.tail _ (List.Mem.tail _ (List.Mem.tail _ (List.Mem.tail _ (List.Mem.tail _ (List.Mem.tail _ (List.Mem.head _)))))))
  have f7 : 0 ≤ 3 + ((-1) * τ 19003 + 0) := hf _ (List.Mem.tail _ (List.Mem.tail _ (List.Mem.tail _ (List.Mem.tail _ (List.Mem.tail _ (List.Mem.tail _ (List.Mem.tail _ (List.Mem.head _))))))))
  have f8 : 0 ≤ 0 + (1 * τ 19004 + 0) := hf _ (List.Mem.tail _ (List.Mem.tail _ (List.Mem.tail _ (List.Mem.tail _ (List.Mem.tail _ (List.Mem.tail _ (List.Mem.tail _ (List.Mem.tail _ (List.Mem.head _)))))))))
  have f9 : 0 ≤ 60 + ((-1) * τ 19004 + 0) := hf _ (List.Mem.tail _ (List.Mem.tail _ (List.Mem.tail _ (List.Mem.tail _ (List.Mem.tail _ (List.Mem.tail _ (List.Mem.tail _ (List.Mem.tail _ (List.Mem.tail _ (List.Mem.head _))))))))))
  have f10 : 0 ≤ 0 + (1 * τ 19005 + 0) := hf _ (List.Mem.tail _ (List.Mem.tail _ (List.Mem.tail _ (List.Mem.tail _ (List.Mem.tail _ (List.Mem.tail _ (List.Mem.tail _ (List.Mem.tail _ (List.Mem.tail _ (List.Mem.tail _ (List.Mem.head _)))))))))))
  have f11 : 0 ≤ 60 + ((-1) * τ 19005 + 0) := hf _ (List.Mem.tail _ (List.Mem.tail _ (List.Mem.tail _ (List.Mem.tail _ (List.Mem.tail _ (List.Mem.tail _ (List.Mem.tail _ (List.Mem.tail _ (List.Mem.tail _ (List.Mem.tail _ (List.Mem.tail _ (List.Mem.head _))))))))))))
  have f12 : 0 ≤ 0 + (1 * τ 6146 + ((-1) * τ 19004 + ((-1) * τ 19005 + 0))) := hf _ (List.Mem.tail _ (List.Mem.tail _ (List.Mem.tail _ (List.Mem.tail _ (List.Mem.tail _ (List.Mem.tail _ (List.Mem.tail _ (List.Mem.tail _ (List.Mem.tail _ (List.Mem.tail _ (List.Mem.tail _ (List.Mem.tail _ (List.Mem.head _)))))))))))))
  have f13 : 0 ≤ 0 + (1 * τ 5890 + ((-1) * τ 19002 + ((-1) * τ 19005 + 0))) := hf _ (List.Mem.tail _ (List.Mem.tail _ (List.Mem.tail _ (List.Mem.tail _ (List.Mem.tail _ (List.Mem.tail _ (List.Mem.tail _ (List.Mem.tail _ (List.Mem.tail _ (List.Mem.tail _ (List.Mem.tail _ (List.Mem.tail _ (List.Mem.tail _ (List.Mem.head _))))))))))))))
  have f14 : 0 ≤ 0 + ((-1) * τ 5889 + (1 * τ 6145 + 0)) := hf _ (List.Mem.tail _ (List.Mem.tail _ (List.Mem.tail _ (List.Mem.tail _ (List.Mem.tail _ (List.Mem.tail _ (List.Mem.tail _ (List.Mem.tail _ (List.Mem.tail _ (List.Mem.tail _ (List.Mem.tail _ (List.Mem.tail _ (List.Mem.tail _ (List.Mem.tail _ (List.Mem.head _)))))))))))))))
  have f15 : 0 ≤ 0 + (1 * τ 5889 + ((-1) * τ 6145 + 0)) := hf _ (List.Mem.tail _ (List.Mem.tail _ (List.Mem.tail _ (List.Mem.tail _ (List.Mem.tail _ (List.Mem.tail _ (List.Mem.tail _ (List.Mem.tail _ (List.Mem.tail _ (List.Mem.tail _ (List.Mem.tail _ (List.Mem.tail _ (List.Mem.tail _ (List.Mem.tail _ (List.Mem.tail _ (List.Mem.head _))))))))))))))))
  clear hf hm
  have ej : a1 = 2 := by omega
  subst ej
  have ek : a3 = 3 := by omega
  subst ek
  simp only [lw_sel0, lw_sel1, lw_sel2, lw_sel3]
  exact Or.inl ⟨by omega, by omega, by omega, by omega, by omega, by omega, by omega, by omega, by omega, by omega, by omega, by omega, by omega⟩
theorem lw_px_105 {as : List rv_A} {σ σ' : Nat → Int} {o : rv_O} {x : Int32} {a1 a2 a3 a4 a5 : Int} {τ : Nat → Int} (hx : o.1 = some (.inl x)) (h1 : lw_av as 1 = a1) (h2 : lw_av as 2 = a2) (h3 : lw_av as 3 = a3) (h4 : lw_av as 4 = a4) (h5 : lw_av as 5 = a5) (hb : ∀ s, (sx_sr s).1 ≤ σ s ∧ σ s ≤ (sx_sr s).2) (hW : lw_W ([], [(0, [(5889, 1)]), (0, [(6145, 1)]), ((-3), [(19001, 1)]), (3, [(19001, (-1))]), (0, [(19002, 1)]), (60, [(19002, (-1))]), ((-2), [(19003, 1)]), (2, [(19003, (-1))]), (0, [(19004, 1)]), (60, [(19004, (-1))]), (0, [(19005, 1)]), (60, [(19005, (-1))]), (0, [(5890, 1), (19004, (-1)), (19005, (-1))]), (0, [(6146, 1), (19002, (-1)), (19005, (-1))]), (0, [(5889, 1), (6145, (-1))]), (0, [(5889, (-1)), (6145, 1)])], [(9, (0, []))], some (false, (1, []))) as σ σ' τ o) : lw_px_C a1 a2 a3 a4 a5 x.toInt σ σ' := by
  unfold lw_px_C
  have b5377 : (-1) ≤ σ 5377 ∧ σ 5377 ≤ 3 := by
    have h0 := hb 5377
    rw [show sx_sr 5377 = ((-1), 3) from by decide +kernel] at h0
    exact h0
  have b5633 : (-1) ≤ σ 5633 ∧ σ 5633 ≤ 3 := by
    have h0 := hb 5633
    rw [show sx_sr 5633 = ((-1), 3) from by decide +kernel] at h0
    exact h0
  have b5889 : (-1) ≤ σ 5889 ∧ σ 5889 ≤ 3 := by
    have h0 := hb 5889
    rw [show sx_sr 5889 = ((-1), 3) from by decide +kernel] at h0
    exact h0
  have b6145 : (-1) ≤ σ 6145 ∧ σ 6145 ≤ 3 := by
    have h0 := hb 6145
    rw [show sx_sr 6145 = ((-1), 3) from by decide +kernel] at h0
    exact h0
  have b5378 : 0 ≤ σ 5378 ∧ σ 5378 ≤ 60 := by
    have h0 := hb 5378
    rw [show sx_sr 5378 = (0, 60) from by decide +kernel] at h0
    exact h0
  have b5634 : 0 ≤ σ 5634 ∧ σ 5634 ≤ 60 := by
    have h0 := hb 5634
    rw [show sx_sr 5634 = (0, 60) from by decide +kernel] at h0
    exact h0
  have b5890 : 0 ≤ σ 5890 ∧ σ 5890 ≤ 60 := by
    have h0 := hb 5890
    rw [show sx_sr 5890 = (0, 60) from by decide +kernel] at h0
    exact h0
  have b6146 : 0 ≤ σ 6146 ∧ σ 6146 ≤ 60 := by
    have h0 := hb 6146
    rw [show sx_sr 6146 = (0, 60) from by decide +kernel] at h0
    exact h0
  obtain ⟨hs, ht, hf, hr, hm, hw⟩ := hW
  have e1 : τ 19001 = a1 := by rw [ht 19001 (by decide) (by decide)]; exact h1
  have e2 : τ 19002 = a2 := by rw [ht 19002 (by decide) (by decide)]; exact h2
  have e3 : τ 19003 = a3 := by rw [ht 19003 (by decide) (by decide)]; exact h3
  have e4 : τ 19004 = a4 := by rw [ht 19004 (by decide) (by decide)]; exact h4
  have e5 : τ 19005 = a5 := by rw [ht 19005 (by decide) (by decide)]; exact h5
  have s5377 : τ 5377 = σ 5377 := hs 5377 (by decide)
  have s5378 : τ 5378 = σ 5378 := hs 5378 (by decide)
  have s5633 : τ 5633 = σ 5633 := hs 5633 (by decide)
  have s5634 : τ 5634 = σ 5634 := hs 5634 (by decide)
  have s5889 : τ 5889 = σ 5889 := hs 5889 (by decide)
  have s5890 : τ 5890 = σ 5890 := hs 5890 (by decide)
  have s6145 : τ 6145 = σ 6145 := hs 6145 (by decide)
  have s6146 : τ 6146 = σ 6146 := hs 6146 (by decide)
  clear hs ht hb
  rw [hx] at hr
  obtain ⟨y, hy, hv⟩ := hr
  cases hy
  replace hv : x.toInt = 1 + 0 := hv
  have f0 : 0 ≤ 0 + (1 * τ 5889 + 0) := hf _ (List.Mem.head _)
  have f1 : 0 ≤ 0 + (1 * τ 6145 + 0) := hf _ (List.Mem.tail _ (List.Mem.head _))
  have f2 : 0 ≤ (-3) + (1 * τ 19001 + 0) := hf _ (List.Mem.tail _ (List.Mem.tail _ (List.Mem.head _)))
  have f3 : 0 ≤ 3 + ((-1) * τ 19001 + 0) := hf _ (List.Mem.tail _ (List.Mem.tail _ (List.Mem.tail _ (List.Mem.head _))))
  have f4 : 0 ≤ 0 + (1 * τ 19002 + 0) := hf _ (List.Mem.tail _ (List.Mem.tail _ (List.Mem.tail _ (List.Mem.tail _ (List.Mem.head _)))))
  have f5 : 0 ≤ 60 + ((-1) * τ 19002 + 0) := hf _ (List.Mem.tail _ (List.Mem.tail _ (List.Mem.tail _ (List.Mem.tail _ (List.Mem.tail _ (List.Mem.head _))))))
  have f6 : 0 ≤ (-2) + (1 * τ 19003 + 0) := hf _ (List.Mem.tail _ (List.Mem.tail _ (List.Mem.tail _ (List.Mem.tail _ (List.Mem.tail _ (List.Mem.tail _ (List.Mem.head _)))))))
  have f7 : 0 ≤ 2 + ((-1) * τ 19003 + 0) := hf _ (List.Mem.tail _ (List.Mem.tail _ (List.Mem.tail _ (List.Mem.tail _ (List.Mem.tail _ (List.Mem.tail _ (List.Mem.tail _ (List.Mem.head _))))))))
  have f8 : 0 ≤ 0 + (1 * τ 19004 + 0) := hf _ (List.Mem.tail _ (List.Mem.tail _ (List.Mem.tail _ (List.Mem.tail _ (List.Mem.tail _ (List.Mem.tail _ (List.Mem.tail _ (List.Mem.tail _ (List.Mem.head _)))))))))
  have f9 : 0 ≤ 60 + ((-1) * τ 19004 + 0) := hf _ (List.Mem.tail _ (List.Mem.tail _ (List.Mem.tail _ (List.Mem.tail _ (List.Mem.tail _ (List.Mem.tail _ (List.Mem.tail _ (List.Mem.tail _ (List.Mem.tail _ (List.Mem.head _))))))))))
  have f10 : 0 ≤ 0 + (1 * τ 19005 + 0) := hf _ (List.Mem.tail _ (List.Mem.tail _ (List.Mem.tail _ (List.Mem.tail _ (List.Mem.tail _ (List.Mem.tail _ (List.Mem.tail _ (List.Mem.tail _ (List.Mem.tail _ (List.Mem.tail _ (List.Mem.head _)))))))))))
  have f11 : 0 ≤ 60 + ((-1) * τ 19005 + 0) := hf _ (List.Mem.tail _ (List.Mem.tail _ (List.Mem.tail _ (List.Mem.tail _ (List.Mem.tail _ (List.Mem.tail _ (List.Mem.tail _ (List.Mem.tail _ (List.Mem.tail _ (List.Mem.tail _ (List.Mem.tail _ (List.Mem.head _))))))))))))
  have f12 : 0 ≤ 0 + (1 * τ 5890 + ((-1) * τ 19004 + ((-1) * τ 19005 + 0))) := hf _ (List.Mem.tail _ (List.Mem.tail _ (List.Mem.tail _ (List.Mem.tail _ (List.Mem.tail _ (List.Mem.tail _ (List.Mem.tail _ (List.Mem.tail _ (List.Mem.tail _ (List.Mem.tail _ (List.Mem.tail _ (List.Mem.tail _ (List.Mem.head _)))))))))))))
  have f13 : 0 ≤ 0 + (1 * τ 6146 + ((-1) * τ 19002 + ((-1) * τ 19005 + 0))) := hf _ (List.Mem.tail _ (List.Mem.tail _ (List.Mem.tail _ (List.Mem.tail _ (List.Mem.tail _ (List.Mem.tail _ (List.Mem.tail _ (List.Mem.tail _ (List.Mem.tail _ (List.Mem.tail _ (List.Mem.tail _ (List.Mem.tail _ (List.Mem.tail _ (List.Mem.head _))))))))))))))
  have f14 : 0 ≤ 0 + (1 * τ 5889 + ((-1) * τ 6145 + 0)) := hf _ (List.Mem.tail _ (List.Mem.tail _ (List.Mem.tail _ (List.Mem.tail _ (List.Mem.tail _ (List.Mem.tail _ (List.Mem.tail _ (List.Mem.tail _ (List.Mem.tail _ (List.Mem.tail _ (List.Mem.tail _ (List.Mem.tail _ (List.Mem.tail _ (List.Mem.tail _ (List.Mem.head _)))))))))))))))
  have f15 : 0 ≤ 0 + ((-1) * τ 5889 + (1 * τ 6145 + 0)) := hf _ (List.Mem.tail _ (List.Mem.tail _ (List.Mem.tail _ (List.Mem.tail _ (List.Mem.tail _ (List.Mem.tail _ (List.Mem.tail _ (List.Mem.tail _ (List.Mem.tail _ (List.Mem.tail _ (List.Mem.tail _ (List.Mem.tail _ (List.Mem.tail _ (List.Mem.tail _ (List.Mem.tail _ (List.Mem.head _))))))))))))))))
  clear hf hm
  have ej : a1 = 3 := by omega
  subst ej
  have ek : a3 = 2 := by omega
  subst ek
  simp only [lw_sel0, lw_sel1, lw_sel2, lw_sel3]
  exact Or.inl ⟨by omega, by omega, by omega, by omega, by omega, by omega, by omega, by omega, by omega, by omega, by omega, by omega, by omega⟩
theorem lw_px_106 {as : List rv_A} {σ σ' : Nat → Int} {o : rv_O} {x : Int32} {a1 a2 a3 a4 a5 : Int} {τ : Nat → Int} (hx : o.1 = some (.inl x)) (h1 : lw_av as 1 = a1) (h2 : lw_av as 2 = a2) (h3 : lw_av as 3 = a3) (h4 : lw_av as 4 = a4) (h5 : lw_av as 5 = a5) (hb : ∀ s, (sx_sr s).1 ≤ σ s ∧ σ s ≤ (sx_sr s).2) (hW : lw_W ([], [(0, [(6145, 1)]), ((-3), [(19001, 1)]), (3, [(19001, (-1))]), (0, [(19002, 1)]), (60, [(19002, (-1))]), ((-3), [(19003, 1)]), (3, [(19003, (-1))]), (0, [(19004, 1)]), (60, [(19004, (-1))]), (0, [(19005, 1)]), (60, [(19005, (-1))]), (0, [(6146, 1), (19004, (-1)), (19005, (-1))]), (0, [(6146, 1), (19002, (-1)), (19005, (-1))])], [(9, (0, []))], some (false, (1, []))) as σ σ' τ o) : lw_px_C a1 a2 a3 a4 a5 x.toInt σ σ' := by
  unfold lw_px_C
  have b5377 : (-1) ≤ σ 5377 ∧ σ 5377 ≤ 3 := by
    have h0 := hb 5377
    rw [show sx_sr 5377 = ((-1), 3) from by decide +kernel] at h0
    exact h0
  have b5633 : (-1) ≤ σ 5633 ∧ σ 5633 ≤ 3 := by
    have h0 := hb 5633
    rw [show sx_sr 5633 = ((-1), 3) from by decide +kernel] at h0
    exact h0
  have b5889 : (-1) ≤ σ 5889 ∧ σ 5889 ≤ 3 := by
    have h0 := hb 5889
    rw [show sx_sr 5889 = ((-1), 3) from by decide +kernel] at h0
    exact h0
  have b6145 : (-1) ≤ σ 6145 ∧ σ 6145 ≤ 3 := by
    have h0 := hb 6145
    rw [show sx_sr 6145 = ((-1), 3) from by decide +kernel] at h0
    exact h0
  have b5378 : 0 ≤ σ 5378 ∧ σ 5378 ≤ 60 := by
    have h0 := hb 5378
    rw [show sx_sr 5378 = (0, 60) from by decide +kernel] at h0
    exact h0
  have b5634 : 0 ≤ σ 5634 ∧ σ 5634 ≤ 60 := by
    have h0 := hb 5634
    rw [show sx_sr 5634 = (0, 60) from by decide +kernel] at h0
    exact h0
  have b5890 : 0 ≤ σ 5890 ∧ σ 5890 ≤ 60 := by
    have h0 := hb 5890
    rw [show sx_sr 5890 = (0, 60) from by decide +kernel] at h0
    exact h0
  have b6146 : 0 ≤ σ 6146 ∧ σ 6146 ≤ 60 := by
    have h0 := hb 6146
    rw [show sx_sr 6146 = (0, 60) from by decide +kernel] at h0
    exact h0
  obtain ⟨hs, ht, hf, hr, hm, hw⟩ := hW
  have e1 : τ 19001 = a1 := by rw [ht 19001 (by decide) (by decide)]; exact h1
  have e2 : τ 19002 = a2 := by rw [ht 19002 (by decide) (by decide)]; exact h2
  have e3 : τ 19003 = a3 := by rw [ht 19003 (by decide) (by decide)]; exact h3
  have e4 : τ 19004 = a4 := by rw [ht 19004 (by decide) (by decide)]; exact h4
  have e5 : τ 19005 = a5 := by rw [ht 19005 (by decide) (by decide)]; exact h5
  have s5377 : τ 5377 = σ 5377 := hs 5377 (by decide)
  have s5378 : τ 5378 = σ 5378 := hs 5378 (by decide)
  have s5633 : τ 5633 = σ 5633 := hs 5633 (by decide)
  have s5634 : τ 5634 = σ 5634 := hs 5634 (by decide)
  have s5889 : τ 5889 = σ 5889 := hs 5889 (by decide)
  have s5890 : τ 5890 = σ 5890 := hs 5890 (by decide)
  have s6145 : τ 6145 = σ 6145 := hs 6145 (by decide)
  have s6146 : τ 6146 = σ 6146 := hs 6146 (by decide)
  clear hs ht hb
  rw [hx] at hr
  obtain ⟨y, hy, hv⟩ := hr
  cases hy
  replace hv : x.toInt = 1 + 0 := hv
  have f0 : 0 ≤ 0 + (1 * τ 6145 + 0) := hf _ (List.Mem.head _)
  have f1 : 0 ≤ (-3) + (1 * τ 19001 + 0) := hf _ (List.Mem.tail _ (List.Mem.head _))
  have f2 : 0 ≤ 3 + ((-1) * τ 19001 + 0) := hf _ (List.Mem.tail _ (List.Mem.tail _ (List.Mem.head _)))
  have f3 : 0 ≤ 0 + (1 * τ 19002 + 0) := hf _ (List.Mem.tail _ (List.Mem.tail _ (List.Mem.tail _ (List.Mem.head _))))
  have f4 : 0 ≤ 60 + ((-1) * τ 19002 + 0) := hf _ (List.Mem.tail _ (List.Mem.tail _ (List.Mem.tail _ (List.Mem.tail _ (List.Mem.head _)))))
  have f5 : 0 ≤ (-3) + (1 * τ 19003 + 0) := hf _ (List.Mem.tail _ (List.Mem.tail _ (List.Mem.tail _ (List.Mem.tail _ (List.Mem.tail _ (List.Mem.head _))))))
  have f6 : 0 ≤ 3 + ((-1) * τ 19003 + 0) := hf _ (List.Mem.tail _ (List.Mem.tail _ (List.Mem.tail _ (List.Mem.tail _ (List.Mem.tail _ (List.Mem.tail _ (List.Mem.head _)))))))
  have f7 : 0 ≤ 0 + (1 * τ 19004 + 0) := hf _ (List.Mem.tail _ (List.Mem.tail _ (List.Mem.tail _ (List.Mem.tail _ (List.Mem.tail _ (List.Mem.tail _ (List.Mem.tail _ (List.Mem.head _))))))))
  have f8 : 0 ≤ 60 + ((-1) * τ 19004 + 0) := hf _ (List.Mem.tail _ (List.Mem.tail _ (List.Mem.tail _ (List.Mem.tail _ (List.Mem.tail _ (List.Mem.tail _ (List.Mem.tail _ (List.Mem.tail _ (List.Mem.head _)))))))))
  have f9 : 0 ≤ 0 + (1 * τ 19005 + 0) := hf _ (List.Mem.tail _ (List.Mem.tail _ (List.Mem.tail _ (List.Mem.tail _ (List.Mem.tail _ (List.Mem.tail _ (List.Mem.tail _ (List.Mem.tail _ (List.Mem.tail _ (List.Mem.head _))))))))))
  have f10 : 0 ≤ 60 + ((-1) * τ 19005 + 0) := hf _ (List.Mem.tail _ (List.Mem.tail _ (List.Mem.tail _ (List.Mem.tail _ (List.Mem.tail _ (List.Mem.tail _ (List.Mem.tail _ (List.Mem.tail _ (List.Mem.tail _ (List.Mem.tail _ (List.Mem.head _)))))))))))
  have f11 : 0 ≤ 0 + (1 * τ 6146 + ((-1) * τ 19004 + ((-1) * τ 19005 + 0))) := hf _ (List.Mem.tail _ (List.Mem.tail _ (List.Mem.tail _ (List.Mem.tail _ (List.Mem.tail _ (List.Mem.tail _ (List.Mem.tail _ (List.Mem.tail _ (List.Mem.tail _ (List.Mem.tail _ (List.Mem.tail _ (List.Mem.head _))))))))))))
  have f12 : 0 ≤ 0 + (1 * τ 6146 + ((-1) * τ 19002 + ((-1) * τ 19005 + 0))) := hf _ (List.Mem.tail _ (List.Mem.tail _ (List.Mem.tail _ (List.Mem.tail _ (List.Mem.tail _ (List.Mem.tail _ (List.Mem.tail _ (List.Mem.tail _ (List.Mem.tail _ (List.Mem.tail _ (List.Mem.tail _ (List.Mem.tail _ (List.Mem.head _)))))))))))))
  clear hf hm
  have ej : a1 = 3 := by omega
  subst ej
  have ek : a3 = 3 := by omega
  subst ek
  simp only [lw_sel0, lw_sel1, lw_sel2, lw_sel3]
  exact Or.inl ⟨by omega, by omega, by omega, by omega, by omega, by omega, by omega, by omega, by omega, by omega, by omega, by omega, by omega⟩
set_option maxHeartbeats 4000000 in
theorem lw_px {as : List rv_A} {σ σ' : Nat → Int} {o : rv_O} {x : Int32} {a1 a2 a3 a4 a5 : Int} (hx : o.1 = some (.inl x)) (h1 : lw_av as 1 = a1) (h2 : lw_av as 2 = a2) (h3 : lw_av as 3 = a3) (h4 : lw_av as 4 = a4) (h5 : lw_av as 5 = a5) (hb : ∀ s, (sx_sr s).1 ≤ σ s ∧ σ s ≤ (sx_sr s).2) (h : lw_Qc sx_c222 as σ σ' o) : lw_px_C a1 a2 a3 a4 a5 x.toInt σ σ' := by
  obtain ⟨g, hg, τ, hW⟩ := h
  simp only [sx_c222, List.mem_cons, List.not_mem_nil, or_false] at hg
  rcases hg with rfl | rfl | rfl | rfl | rfl | rfl | rfl | rfl | rfl | rfl | rfl | rfl | rfl | rfl | rfl | rfl | rfl | rfl | rfl | rfl | rfl | rfl | rfl | rfl | rfl | rfl | rfl | rfl | rfl | rfl | rfl | rfl | rfl | rfl | rfl | rfl | rfl | rfl | rfl | rfl | rfl | rfl | rfl | rfl | rfl | rfl | rfl | rfl | rfl | rfl | rfl | rfl | rfl | rfl | rfl | rfl | rfl | rfl | rfl | rfl | rfl | rfl | rfl | rfl | rfl | rfl | rfl | rfl | rfl | rfl | rfl | rfl | rfl | rfl | rfl | rfl | rfl | rfl | rfl | rfl | rfl | rfl | rfl | rfl | rfl | rfl | rfl | rfl | rfl | rfl | rfl | rfl | rfl | rfl | rfl | rfl | rfl | rfl | rfl | rfl | rfl | rfl | rfl | rfl | rfl | rfl | rfl
  · exact lw_px_0 hx h1 h2 h3 h4 h5 hb hW
  · exact lw_px_1 hx h1 h2 h3 h4 h5 hb hW
  · exact lw_px_2 hx h1 h2 h3 h4 h5 hb hW
  · exact lw_px_3 hx h1 h2 h3 h4 h5 hb hW
  · exact lw_px_4 hx h1 h2 h3 h4 h5 hb hW
  · exact lw_px_5 hx h1 h2 h3 h4 h5 hb hW
  · exact lw_px_6 hx h1 h2 h3 h4 h5 hb hW
  · exact lw_px_7 hx h1 h2 h3 h4 h5 hb hW
  · exact lw_px_8 hx h1 h2 h3 h4 h5 hb hW
  · exact lw_px_9 hx h1 h2 h3 h4 h5 hb hW
  · exact lw_px_10 hx h1 h2 h3 h4 h5 hb hW
  · exact lw_px_11 hx h1 h2 h3 h4 h5 hb hW
  · exact lw_px_12 hx h1 h2 h3 h4 h5 hb hW
  · exact lw_px_13 hx h1 h2 h3 h4 h5 hb hW
  · exact lw_px_14 hx h1 h2 h3 h4 h5 hb hW
  · exact lw_px_15 hx h1 h2 h3 h4 h5 hb hW
  · exact lw_px_16 hx h1 h2 h3 h4 h5 hb hW
  · exact lw_px_17 hx h1 h2 h3 h4 h5 hb hW
  · exact lw_px_18 hx h1 h2 h3 h4 h5 hb hW
  · exact lw_px_19 hx h1 h2 h3 h4 h5 hb hW
  · exact lw_px_20 hx h1 h2 h3 h4 h5 hb hW
  · exact lw_px_21 hx h1 h2 h3 h4 h5 hb hW
  · exact lw_px_22 hx h1 h2 h3 h4 h5 hb hW
  · exact lw_px_23 hx h1 h2 h3 h4 h5 hb hW
  · exact lw_px_24 hx h1 h2 h3 h4 h5 hb hW
  · exact lw_px_25 hx h1 h2 h3 h4 h5 hb hW
  · exact lw_px_26 hx h1 h2 h3 h4 h5 hb hW
  · exact lw_px_27 hx h1 h2 h3 h4 h5 hb hW
  · exact lw_px_28 hx h1 h2 h3 h4 h5 hb hW
  · exact lw_px_29 hx h1 h2 h3 h4 h5 hb hW
  · exact lw_px_30 hx h1 h2 h3 h4 h5 hb hW
  · exact lw_px_31 hx h1 h2 h3 h4 h5 hb hW
  · exact lw_px_32 hx h1 h2 h3 h4 h5 hb hW
  · exact lw_px_33 hx h1 h2 h3 h4 h5 hb hW
  · exact lw_px_34 hx h1 h2 h3 h4 h5 hb hW
  · exact lw_px_35 hx h1 h2 h3 h4 h5 hb hW
  · exact lw_px_36 hx h1 h2 h3 h4 h5 hb hW
  · exact lw_px_37 hx h1 h2 h3 h4 h5 hb hW
  · exact lw_px_38 hx h1 h2 h3 h4 h5 hb hW
  · exact lw_px_39 hx h1 h2 h3 h4 h5 hb hW
  · exact lw_px_40 hx h1 h2 h3 h4 h5 hb hW
  · exact lw_px_41 hx h1 h2 h3 h4 h5 hb hW
  · exact lw_px_42 hx h1 h2 h3 h4 h5 hb hW
  · exact lw_px_43 hx h1 h2 h3 h4 h5 hb hW
  · exact lw_px_44 hx h1 h2 h3 h4 h5 hb hW
  · exact lw_px_45 hx h1 h2 h3 h4 h5 hb hW
  · exact lw_px_46 hx h1 h2 h3 h4 h5 hb hW
  · exact lw_px_47 hx h1 h2 h3 h4 h5 hb hW
  · exact lw_px_48 hx h1 h2 h3 h4 h5 hb hW
  · exact lw_px_49 hx h1 h2 h3 h4 h5 hb hW
  · exact lw_px_50 hx h1 h2 h3 h4 h5 hb hW
  · exact lw_px_51 hx h1 h2 h3 h4 h5 hb hW
  · exact lw_px_52 hx h1 h2 h3 h4 h5 hb hW
  · exact lw_px_53 hx h1 h2 h3 h4 h5 hb hW
  · exact lw_px_54 hx h1 h2 h3 h4 h5 hb hW
  · exact lw_px_55 hx h1 h2 h3 h4 h5 hb hW
  · exact lw_px_56 hx h1 h2 h3 h4 h5 hb hW
  · exact lw_px_57 hx h1 h2 h3 h4 h5 hb hW
  · exact lw_px_58 hx h1 h2 h3 h4 h5 hb hW
  · exact lw_px_59 hx h1 h2 h3 h4 h5 hb hW
  · exact lw_px_60 hx h1 h2 h3 h4 h5 hb hW
  · exact lw_px_61 hx h1 h2 h3 h4 h5 hb hW
  · exact lw_px_62 hx h1 h2 h3 h4 h5 hb hW
  · exact lw_px_63 hx h1 h2 h3 h4 h5 hb hW
  · exact lw_px_64 hx h1 h2 h3 h4 h5 hb hW
  · exact lw_px_65 hx h1 h2 h3 h4 h5 hb hW
  · exact lw_px_66 hx h1 h2 h3 h4 h5 hb hW
  · exact lw_px_67 hx h1 h2 h3 h4 h5 hb hW
  · exact lw_px_68 hx h1 h2 h3 h4 h5 hb hW
  · exact lw_px_69 hx h1 h2 h3 h4 h5 hb hW
  · exact lw_px_70 hx h1 h2 h3 h4 h5 hb hW
  · exact lw_px_71 hx h1 h2 h3 h4 h5 hb hW
  · exact lw_px_72 hx h1 h2 h3 h4 h5 hb hW
  · exact lw_px_73 hx h1 h2 h3 h4 h5 hb hW
  · exact lw_px_74 hx h1 h2 h3 h4 h5 hb hW
  · exact lw_px_75 hx h1 h2 h3 h4 h5 hb hW
  · exact lw_px_76 hx h1 h2 h3 h4 h5 hb hW
  · exact lw_px_77 hx h1 h2 h3 h4 h5 hb hW
  · exact lw_px_78 hx h1 h2 h3 h4 h5 hb hW
  · exact lw_px_79 hx h1 h2 h3 h4 h5 hb hW
  · exact lw_px_80 hx h1 h2 h3 h4 h5 hb hW
  · exact lw_px_81 hx h1 h2 h3 h4 h5 hb hW
  · exact lw_px_82 hx h1 h2 h3 h4 h5 hb hW
  · exact lw_px_83 hx h1 h2 h3 h4 h5 hb hW
  · exact lw_px_84 hx h1 h2 h3 h4 h5 hb hW
  · exact lw_px_85 hx h1 h2 h3 h4 h5 hb hW
  · exact lw_px_86 hx h1 h2 h3 h4 h5 hb hW
  · exact lw_px_87 hx h1 h2 h3 h4 h5 hb hW
  · exact lw_px_88 hx h1 h2 h3 h4 h5 hb hW
  · exact lw_px_89 hx h1 h2 h3 h4 h5 hb hW
  · exact lw_px_90 hx h1 h2 h3 h4 h5 hb hW
  · exact lw_px_91 hx h1 h2 h3 h4 h5 hb hW
  · exact lw_px_92 hx h1 h2 h3 h4 h5 hb hW
  · exact lw_px_93 hx h1 h2 h3 h4 h5 hb hW
  · exact lw_px_94 hx h1 h2 h3 h4 h5 hb hW
  · exact lw_px_95 hx h1 h2 h3 h4 h5 hb hW
  · exact lw_px_96 hx h1 h2 h3 h4 h5 hb hW
  · exact lw_px_97 hx h1 h2 h3 h4 h5 hb hW
  · exact lw_px_98 hx h1 h2 h3 h4 h5 hb hW
  · exact lw_px_99 hx h1 h2 h3 h4 h5 hb hW
  · exact lw_px_100 hx h1 h2 h3 h4 h5 hb hW
  · exact lw_px_101 hx h1 h2 h3 h4 h5 hb hW
  · exact lw_px_102 hx h1 h2 h3 h4 h5 hb hW
  · exact lw_px_103 hx h1 h2 h3 h4 h5 hb hW
  · exact lw_px_104 hx h1 h2 h3 h4 h5 hb hW
  · exact lw_px_105 hx h1 h2 h3 h4 h5 hb hW
  · exact lw_px_106 hx h1 h2 h3 h4 h5 hb hW
def lw_pm_C (a1 a2 a3 a4 a5 z : Int) (σ σ' : Nat → Int) : Prop := (z = 1 ∧ (lw_PO a1 a2 a3 a4 a5 (lw_sel a1 (σ 18505) (σ 18506) (σ 18507) (σ 18508)) (lw_sel a1 (σ 18501) (σ 18502) (σ 18503) (σ 18504)) (lw_sel a1 (σ 18505) (σ 18506) (σ 18507) (σ 18508)) (lw_sel a3 (σ 18505) (σ 18506) (σ 18507) (σ 18508)) (lw_sel a3 (σ 18501) (σ 18502) (σ 18503) (σ 18504)) (lw_sel a3 (σ 18505) (σ 18506) (σ 18507) (σ 18508)))) ∨ (z = 0 ∧ ¬ (lw_PO a1 a2 a3 a4 a5 (lw_sel a1 (σ 18505) (σ 18506) (σ 18507) (σ 18508)) (lw_sel a1 (σ 18501) (σ 18502) (σ 18503) (σ 18504)) (lw_sel a1 (σ 18505) (σ 18506) (σ 18507) (σ 18508)) (lw_sel a3 (σ 18505) (σ 18506) (σ 18507) (σ 18508)) (lw_sel a3 (σ 18501) (σ 18502) (σ 18503) (σ 18504)) (lw_sel a3 (σ 18505) (σ 18506) (σ 18507) (σ 18508))))
theorem lw_pm_0 {as : List rv_A} {σ σ' : Nat → Int} {o : rv_O} {x : Int32} {a1 a2 a3 a4 a5 : Int} {τ : Nat → Int} (hx : o.1 = some (.inl x)) (h1 : lw_av as 1 = a1) (h2 : lw_av as 2 = a2) (h3 : lw_av as 3 = a3) (h4 : lw_av as 4 = a4) (h5 : lw_av as 5 = a5) (hb : ∀ s, (sx_sr s).1 ≤ σ s ∧ σ s ≤ (sx_sr s).2) (hW : lw_W ([], [(2, [(18501, (-1))]), ((-1), [(18502, 1)]), (0, [(18505, 1)]), (0, [(18506, 1)]), (0, [(19001, 1)]), (0, [(19001, (-1))]), (0, [(19002, 1)]), ((-1), [(19003, 1)]), (1, [(19003, (-1))]), (0, [(19004, 1)]), (0, [(19005, 1)]), ((-1), [(18501, (-1)), (18502, 1)])], [(12800, (8, []))], some (false, (0, []))) as σ σ' τ o) : lw_pm_C a1 a2 a3 a4 a5 x.toInt σ σ' := by
  unfold lw_pm_C
  have b18501 : 0 ≤ σ 18501 ∧ σ 18501 ≤ 3 := by
    have h0 := hb 18501
    rw [show sx_sr 18501 = (0, 3) from by decide +kernel] at h0
    exact h0
  have b18502 : 0 ≤ σ 18502 ∧ σ 18502 ≤ 3 := by
    have h0 := hb 18502
    rw [show sx_sr 18502 = (0, 3) from by decide +kernel] at h0
    exact h0
  have b18503 : 0 ≤ σ 18503 ∧ σ 18503 ≤ 3 := by
    have h0 := hb 18503
    rw [show sx_sr 18503 = (0, 3) from by decide +kernel] at h0
    exact h0
  have b18504 : 0 ≤ σ 18504 ∧ σ 18504 ≤ 3 := by
    have h0 := hb 18504
    rw [show sx_sr 18504 = (0, 3) from by decide +kernel] at h0
    exact h0
  have b18505 : (-1) ≤ σ 18505 ∧ σ 18505 ≤ 60 := by
    have h0 := hb 18505
    rw [show sx_sr 18505 = ((-1), 60) from by decide +kernel] at h0
    exact h0
  have b18506 : (-1) ≤ σ 18506 ∧ σ 18506 ≤ 60 := by
    have h0 := hb 18506
    rw [show sx_sr 18506 = ((-1), 60) from by decide +kernel] at h0
    exact h0
  have b18507 : (-1) ≤ σ 18507 ∧ σ 18507 ≤ 60 := by
    have h0 := hb 18507
    rw [show sx_sr 18507 = ((-1), 60) from by decide +kernel] at h0
    exact h0
  have b18508 : (-1) ≤ σ 18508 ∧ σ 18508 ≤ 60 := by
    have h0 := hb 18508
    rw [show sx_sr 18508 = ((-1), 60) from by decide +kernel] at h0
    exact h0
  obtain ⟨hs, ht, hf, hr, hm, hw⟩ := hW
  have e1 : τ 19001 = a1 := by rw [ht 19001 (by decide) (by decide)]; exact h1
  have e2 : τ 19002 = a2 := by rw [ht 19002 (by decide) (by decide)]; exact h2
  have e3 : τ 19003 = a3 := by rw [ht 19003 (by decide) (by decide)]; exact h3
  have e4 : τ 19004 = a4 := by rw [ht 19004 (by decide) (by decide)]; exact h4
  have e5 : τ 19005 = a5 := by rw [ht 19005 (by decide) (by decide)]; exact h5
  have s18501 : τ 18501 = σ 18501 := hs 18501 (by decide)
  have s18502 : τ 18502 = σ 18502 := hs 18502 (by decide)
  have s18503 : τ 18503 = σ 18503 := hs 18503 (by decide)
  have s18504 : τ 18504 = σ 18504 := hs 18504 (by decide)
  have s18505 : τ 18505 = σ 18505 := hs 18505 (by decide)
  have s18506 : τ 18506 = σ 18506 := hs 18506 (by decide)
  have s18507 : τ 18507 = σ 18507 := hs 18507 (by decide)
  have s18508 : τ 18508 = σ 18508 := hs 18508 (by decide)
  clear hs ht hb
  rw [hx] at hr
  obtain ⟨y, hy, hv⟩ := hr
  cases hy
  replace hv : x.toInt = 0 + 0 := hv
  have f0 : 0 ≤ 2 + ((-1) * τ 18501 + 0) := hf _ (List.Mem.head _)
  have f1 : 0 ≤ (-1) + (1 * τ 18502 + 0) := hf _ (List.Mem.tail _ (List.Mem.head _))
  have f2 : 0 ≤ 0 + (1 * τ 18505 + 0) := hf _ (List.Mem.tail _ (List.Mem.tail _ (List.Mem.head _)))
  have f3 : 0 ≤ 0 + (1 * τ 18506 + 0) := hf _ (List.Mem.tail _ (List.Mem.tail _ (List.Mem.tail _ (List.Mem.head _))))
  have f4 : 0 ≤ 0 + (1 * τ 19001 + 0) := hf _ (List.Mem.tail _ (List.Mem.tail _ (List.Mem.tail _ (List.Mem.tail _ (List.Mem.head _)))))
  have f5 : 0 ≤ 0 + ((-1) * τ 19001 + 0) := hf _ (List.Mem.tail _ (List.Mem.tail _ (List.Mem.tail _ (List.Mem.tail _ (List.Mem.tail _ (List.Mem.head _))))))
  have f6 : 0 ≤ 0 + (1 * τ 19002 + 0) := hf _ (List.Mem.tail _ (List.Mem.tail _ (List.Mem.tail _ (List.Mem.tail _ (List.Mem.tail _ (List.Mem.tail _ (List.Mem.head _)))))))
  have f7 : 0 ≤ (-1) + (1 * τ 19003 + 0) := hf _ (List.Mem.tail _ (List.Mem.tail _ (List.Mem.tail _ (List.Mem.tail _ (List.Mem.tail _ (List.Mem.tail _ (List.Mem.tail _ (List.Mem.head _))))))))
  have f8 : 0 ≤ 1 + ((-1) * τ 19003 + 0) := hf _ (List.Mem.tail _ (List.Mem.tail _ (List.Mem.tail _ (List.Mem.tail _ (List.Mem.tail _ (List.Mem.tail _ (List.Mem.tail _ (List.Mem.tail _ (List.Mem.head _)))))))))
  have f9 : 0 ≤ 0 + (1 * τ 19004 + 0) := hf _ (List.Mem.tail _ (List.Mem.tail _ (List.Mem.tail _ (List.Mem.tail _ (List.Mem.tail _ (List.Mem.tail _ (List.Mem.tail _ (List.Mem.tail _ (List.Mem.tail _ (List.Mem.head _))))))))))
  have f10 : 0 ≤ 0 + (1 * τ 19005 + 0) := hf _ (List.Mem.tail _ (List.Mem.tail _ (List.Mem.tail _ (List.Mem.tail _ (List.Mem.tail _ (List.Mem.tail _ (List.Mem.tail _ (List.Mem.tail _ (List.Mem.tail _ (List.Mem.tail _ (List.Mem.head _)))))))))))
  have f11 : 0 ≤ (-1) + ((-1) * τ 18501 + (1 * τ 18502 + 0)) := hf _ (List.Mem.tail _ (List.Mem.tail _ (List.Mem.tail _ (List.Mem.tail _ (List.Mem.tail _ (List.Mem.tail _ (List.Mem.tail _ (List.Mem.tail _ (List.Mem.tail _ (List.Mem.tail _ (List.Mem.tail _ (List.Mem.head _))))))))))))
  clear hf hm
  have ej : a1 = 0 := by omega
  subst ej
  have ek : a3 = 1 := by omega
  subst ek
  simp only [lw_sel0, lw_sel1, lw_sel2, lw_sel3]
  refine Or.inr ⟨by omega, fun h => ?_⟩
  obtain ⟨z0, z1, z2, z3, z4, z5, z6, z7, z8, z9, z10, z11⟩ := h
  omega
theorem lw_pm_1 {as : List rv_A} {σ σ' : Nat → Int} {o : rv_O} {x : Int32} {a1 a2 a3 a4 a5 : Int} {τ : Nat → Int} (hx : o.1 = some (.inl x)) (h1 : lw_av as 1 = a1) (h2 : lw_av as 2 = a2) (h3 : lw_av as 3 = a3) (h4 : lw_av as 4 = a4) (h5 : lw_av as 5 = a5) (hb : ∀ s, (sx_sr s).1 ≤ σ s ∧ σ s ≤ (sx_sr s).2) (hW : lw_W ([], [(2, [(18501, (-1))]), ((-1), [(18502, 1)]), (0, [(18505, 1)]), (0, [(18506, 1)]), ((-1), [(19001, 1)]), (1, [(19001, (-1))]), (0, [(19002, 1)]), (0, [(19003, 1)]), (0, [(19003, (-1))]), (0, [(19004, 1)]), (0, [(19005, 1)]), ((-1), [(18501, (-1)), (18502, 1)])], [(12800, (8, []))], some (false, (0, []))) as σ σ' τ o) : lw_pm_C a1 a2 a3 a4 a5 x.toInt σ σ' := by
  unfold lw_pm_C
  have b18501 : 0 ≤ σ 18501 ∧ σ 18501 ≤ 3 := by
    have h0 := hb 18501
    rw [show sx_sr 18501 = (0, 3) from by decide +kernel] at h0
    exact h0
  have b18502 : 0 ≤ σ 18502 ∧ σ 18502 ≤ 3 := by
    have h0 := hb 18502
    rw [show sx_sr 18502 = (0, 3) from by decide +kernel] at h0
    exact h0
  have b18503 : 0 ≤ σ 18503 ∧ σ 18503 ≤ 3 := by
    have h0 := hb 18503
    rw [show sx_sr 18503 = (0, 3) from by decide +kernel] at h0
    exact h0
  have b18504 : 0 ≤ σ 18504 ∧ σ 18504 ≤ 3 := by
    have h0 := hb 18504
    rw [show sx_sr 18504 = (0, 3) from by decide +kernel] at h0
    exact h0
  have b18505 : (-1) ≤ σ 18505 ∧ σ 18505 ≤ 60 := by
    have h0 := hb 18505
    rw [show sx_sr 18505 = ((-1), 60) from by decide +kernel] at h0
    exact h0
  have b18506 : (-1) ≤ σ 18506 ∧ σ 18506 ≤ 60 := by
    have h0 := hb 18506
    rw [show sx_sr 18506 = ((-1), 60) from by decide +kernel] at h0
    exact h0
  have b18507 : (-1) ≤ σ 18507 ∧ σ 18507 ≤ 60 := by
    have h0 := hb 18507
    rw [show sx_sr 18507 = ((-1), 60) from by decide +kernel] at h0
    exact h0
  have b18508 : (-1) ≤ σ 18508 ∧ σ 18508 ≤ 60 := by
    have h0 := hb 18508
    rw [show sx_sr 18508 = ((-1), 60) from by decide +kernel] at h0
    exact h0
  obtain ⟨hs, ht, hf, hr, hm, hw⟩ := hW
  have e1 : τ 19001 = a1 := by rw [ht 19001 (by decide) (by decide)]; exact h1
  have e2 : τ 19002 = a2 := by rw [ht 19002 (by decide) (by decide)]; exact h2
  have e3 : τ 19003 = a3 := by rw [ht 19003 (by decide) (by decide)]; exact h3
  have e4 : τ 19004 = a4 := by rw [ht 19004 (by decide) (by decide)]; exact h4
  have e5 : τ 19005 = a5 := by rw [ht 19005 (by decide) (by decide)]; exact h5
  have s18501 : τ 18501 = σ 18501 := hs 18501 (by decide)
  have s18502 : τ 18502 = σ 18502 := hs 18502 (by decide)
  have s18503 : τ 18503 = σ 18503 := hs 18503 (by decide)
  have s18504 : τ 18504 = σ 18504 := hs 18504 (by decide)
  have s18505 : τ 18505 = σ 18505 := hs 18505 (by decide)
  have s18506 : τ 18506 = σ 18506 := hs 18506 (by decide)
  have s18507 : τ 18507 = σ 18507 := hs 18507 (by decide)
  have s18508 : τ 18508 = σ 18508 := hs 18508 (by decide)
  clear hs ht hb
  rw [hx] at hr
  obtain ⟨y, hy, hv⟩ := hr
  cases hy
  replace hv : x.toInt = 0 + 0 := hv
  have f0 : 0 ≤ 2 + ((-1) * τ 18501 + 0) := hf _ (List.Mem.head _)
  have f1 : 0 ≤ (-1) + (1 * τ 18502 + 0) := hf _ (List.Mem.tail _ (List.Mem.head _))
  have f2 : 0 ≤ 0 + (1 * τ 18505 + 0) := hf _ (List.Mem.tail _ (List.Mem.tail _ (List.Mem.head _)))
  have f3 : 0 ≤ 0 + (1 * τ 18506 + 0) := hf _ (List.Mem.tail _ (List.Mem.tail _ (List.Mem.tail _ (List.Mem.head _))))
  have f4 : 0 ≤ (-1) + (1 * τ 19001 + 0) := hf _ (List.Mem.tail _ (List.Mem.tail _ (List.Mem.tail _ (List.Mem.tail _ (List.Mem.head _)))))
  have f5 : 0 ≤ 1 + ((-1) * τ 19001 + 0) := hf _ (List.Mem.tail _ (List.Mem.tail _ (List.Mem.tail _ (List.Mem.tail _ (List.Mem.tail _ (List.Mem.head _))))))
  have f6 : 0 ≤ 0 + (1 * τ 19002 + 0) := hf _ (List.Mem.tail _ (List.Mem.tail _ (List.Mem.tail _ (List.Mem.tail _ (List.Mem.tail _ (List.Mem.tail _ (List.Mem.head _)))))))
  have f7 : 0 ≤ 0 + (1 * τ 19003 + 0) := hf _ (List.Mem.tail _ (List.Mem.tail _ (List.Mem.tail _ (List.Mem.tail _ (List.Mem.tail _ (List.Mem.tail _ (List.Mem.tail _ (List.Mem.head _))))))))
  have f8 : 0 ≤ 0 + ((-1) * τ 19003 + 0) := hf _ (List.Mem.tail _ (List.Mem.tail _ (List.Mem.tail _ (List.Mem.tail _ (List.Mem.tail _ (List.Mem.tail _ (List.Mem.tail _ (List.Mem.tail _ (List.Mem.head _)))))))))
  have f9 : 0 ≤ 0 + (1 * τ 19004 + 0) := hf _ (List.Mem.tail _ (List.Mem.tail _ (List.Mem.tail _ (List.Mem.tail _ (List.Mem.tail _ (List.Mem.tail _ (List.Mem.tail _ (List.Mem.tail _ (List.Mem.tail _ (List.Mem.head _))))))))))
  have f10 : 0 ≤ 0 + (1 * τ 19005 + 0) := hf _ (List.Mem.tail _ (List.Mem.tail _ (List.Mem.tail _ (List.Mem.tail _ (List.Mem.tail _ (List.Mem.tail _ (List.Mem.tail _ (List.Mem.tail _ (List.Mem.tail _ (List.Mem.tail _ (List.Mem.head _)))))))))))
  have f11 : 0 ≤ (-1) + ((-1) * τ 18501 + (1 * τ 18502 + 0)) := hf _ (List.Mem.tail _ (List.Mem.tail _ (List.Mem.tail _ (List.Mem.tail _ (List.Mem.tail _ (List.Mem.tail _ (List.Mem.tail _ (List.Mem.tail _ (List.Mem.tail _ (List.Mem.tail _ (List.Mem.tail _ (List.Mem.head _))))))))))))
  clear hf hm
  have ej : a1 = 1 := by omega
  subst ej
  have ek : a3 = 0 := by omega
  subst ek
  simp only [lw_sel0, lw_sel1, lw_sel2, lw_sel3]
  refine Or.inr ⟨by omega, fun h => ?_⟩
  obtain ⟨z0, z1, z2, z3, z4, z5, z6, z7, z8, z9, z10, z11⟩ := h
  omega
theorem lw_pm_2 {as : List rv_A} {σ σ' : Nat → Int} {o : rv_O} {x : Int32} {a1 a2 a3 a4 a5 : Int} {τ : Nat → Int} (hx : o.1 = some (.inl x)) (h1 : lw_av as 1 = a1) (h2 : lw_av as 2 = a2) (h3 : lw_av as 3 = a3) (h4 : lw_av as 4 = a4) (h5 : lw_av as 5 = a5) (hb : ∀ s, (sx_sr s).1 ≤ σ s ∧ σ s ≤ (sx_sr s).2) (hW : lw_W ([], [(2, [(18501, (-1))]), ((-1), [(18503, 1)]), (0, [(18505, 1)]), (0, [(18507, 1)]), (0, [(19001, 1)]), (0, [(19001, (-1))]), (0, [(19002, 1)]), ((-2), [(19003, 1)]), (2, [(19003, (-1))]), (0, [(19004, 1)]), (0, [(19005, 1)]), ((-1), [(18501, (-1)), (18503, 1)])], [(12800, (8, []))], some (false, (0, []))) as σ σ' τ o) : lw_pm_C a1 a2 a3 a4 a5 x.toInt σ σ' := by
  unfold lw_pm_C
  have b18501 : 0 ≤ σ 18501 ∧ σ 18501 ≤ 3 := by
    have h0 := hb 18501
    rw [show sx_sr 18501 = (0, 3) from by decide +kernel] at h0
    exact h0
  have b18502 : 0 ≤ σ 18502 ∧ σ 18502 ≤ 3 := by
    have h0 := hb 18502
    rw [show sx_sr 18502 = (0, 3) from by decide +kernel] at h0
    exact h0
  have b18503 : 0 ≤ σ 18503 ∧ σ 18503 ≤ 3 := by
    have h0 := hb 18503
    rw [show sx_sr 18503 = (0, 3) from by decide +kernel] at h0
    exact h0
  have b18504 : 0 ≤ σ 18504 ∧ σ 18504 ≤ 3 := by
    have h0 := hb 18504
    rw [show sx_sr 18504 = (0, 3) from by decide +kernel] at h0
    exact h0
  have b18505 : (-1) ≤ σ 18505 ∧ σ 18505 ≤ 60 := by
    have h0 := hb 18505
    rw [show sx_sr 18505 = ((-1), 60) from by decide +kernel] at h0
    exact h0
  have b18506 : (-1) ≤ σ 18506 ∧ σ 18506 ≤ 60 := by
    have h0 := hb 18506
    rw [show sx_sr 18506 = ((-1), 60) from by decide +kernel] at h0
    exact h0
  have b18507 : (-1) ≤ σ 18507 ∧ σ 18507 ≤ 60 := by
    have h0 := hb 18507
    rw [show sx_sr 18507 = ((-1), 60) from by decide +kernel] at h0
    exact h0
  have b18508 : (-1) ≤ σ 18508 ∧ σ 18508 ≤ 60 := by
    have h0 := hb 18508
    rw [show sx_sr 18508 = ((-1), 60) from by decide +kernel] at h0
    exact h0
  obtain ⟨hs, ht, hf, hr, hm, hw⟩ := hW
  have e1 : τ 19001 = a1 := by rw [ht 19001 (by decide) (by decide)]; exact h1
  have e2 : τ 19002 = a2 := by rw [ht 19002 (by decide) (by decide)]; exact h2
  have e3 : τ 19003 = a3 := by rw [ht 19003 (by decide) (by decide)]; exact h3
  have e4 : τ 19004 = a4 := by rw [ht 19004 (by decide) (by decide)]; exact h4
  have e5 : τ 19005 = a5 := by rw [ht 19005 (by decide) (by decide)]; exact h5
  have s18501 : τ 18501 = σ 18501 := hs 18501 (by decide)
  have s18502 : τ 18502 = σ 18502 := hs 18502 (by decide)
  have s18503 : τ 18503 = σ 18503 := hs 18503 (by decide)
  have s18504 : τ 18504 = σ 18504 := hs 18504 (by decide)
  have s18505 : τ 18505 = σ 18505 := hs 18505 (by decide)
  have s18506 : τ 18506 = σ 18506 := hs 18506 (by decide)
  have s18507 : τ 18507 = σ 18507 := hs 18507 (by decide)
  have s18508 : τ 18508 = σ 18508 := hs 18508 (by decide)
  clear hs ht hb
  rw [hx] at hr
  obtain ⟨y, hy, hv⟩ := hr
  cases hy
  replace hv : x.toInt = 0 + 0 := hv
  have f0 : 0 ≤ 2 + ((-1) * τ 18501 + 0) := hf _ (List.Mem.head _)
  have f1 : 0 ≤ (-1) + (1 * τ 18503 + 0) := hf _ (List.Mem.tail _ (List.Mem.head _))
  have f2 : 0 ≤ 0 + (1 * τ 18505 + 0) := hf _ (List.Mem.tail _ (List.Mem.tail _ (List.Mem.head _)))
  have f3 : 0 ≤ 0 + (1 * τ 18507 + 0) := hf _ (List.Mem.tail _ (List.Mem.tail _ (List.Mem.tail _ (List.Mem.head _))))
  have f4 : 0 ≤ 0 + (1 * τ 19001 + 0) := hf _ (List.Mem.tail _ (List.Mem.tail _ (List.Mem.tail _ (List.Mem.tail _ (List.Mem.head _)))))
  have f5 : 0 ≤ 0 + ((-1) * τ 19001 + 0) := hf _ (List.Mem.tail _ (List.Mem.tail _ (List.Mem.tail _ (List.Mem.tail _ (List.Mem.tail _ (List.Mem.head _))))))
  have f6 : 0 ≤ 0 + (1 * τ 19002 + 0) := hf _ (List.Mem.tail _ (List.Mem.tail _ (List.Mem.tail _ (List.Mem.tail _ (List.Mem.tail _ (List.Mem.tail _ (List.Mem.head _)))))))
  have f7 : 0 ≤ (-2) + (1 * τ 19003 + 0) := hf _ (List.Mem.tail _ (List.Mem.tail _ (List.Mem.tail _ (List.Mem.tail _ (List.Mem.tail _ (List.Mem.tail _ (List.Mem.tail _ (List.Mem.head _))))))))
  have f8 : 0 ≤ 2 + ((-1) * τ 19003 + 0) := hf _ (List.Mem.tail _ (List.Mem.tail _ (List.Mem.tail _ (List.Mem.tail _ (List.Mem.tail _ (List.Mem.tail _ (List.Mem.tail _ (List.Mem.tail _ (List.Mem.head _)))))))))
  have f9 : 0 ≤ 0 + (1 * τ 19004 + 0) := hf _ (List.Mem.tail _ (List.Mem.tail _ (List.Mem.tail _ (List.Mem.tail _ (List.Mem.tail _ (List.Mem.tail _ (List.Mem.tail _ (List.Mem.tail _ (List.Mem.tail _ (List.Mem.head _))))))))))
  have f10 : 0 ≤ 0 + (1 * τ 19005 + 0) := hf _ (List.Mem.tail _ (List.Mem.tail _ (List.Mem.tail _ (List.Mem.tail _ (List.Mem.tail _ (List.Mem.tail _ (List.Mem.tail _ (List.Mem.tail _ (List.Mem.tail _ (List.Mem.tail _ (List.Mem.head _)))))))))))
  have f11 : 0 ≤ (-1) + ((-1) * τ 18501 + (1 * τ 18503 + 0)) := hf _ (List.Mem.tail _ (List.Mem.tail _ (List.Mem.tail _ (List.Mem.tail _ (List.Mem.tail _ (List.Mem.tail _ (List.Mem.tail _ (List.Mem.tail _ (List.Mem.tail _ (List.Mem.tail _ (List.Mem.tail _ (List.Mem.head _))))))))))))
  clear hf hm
  have ej : a1 = 0 := by omega
  subst ej
  have ek : a3 = 2 := by omega
  subst ek
  simp only [lw_sel0, lw_sel1, lw_sel2, lw_sel3]
  refine Or.inr ⟨by omega, fun h => ?_⟩
  obtain ⟨z0, z1, z2, z3, z4, z5, z6, z7, z8, z9, z10, z11⟩ := h
  omega
theorem lw_pm_3 {as : List rv_A} {σ σ' : Nat → Int} {o : rv_O} {x : Int32} {a1 a2 a3 a4 a5 : Int} {τ : Nat → Int} (hx : o.1 = some (.inl x)) (h1 : lw_av as 1 = a1) (h2 : lw_av as 2 = a2) (h3 : lw_av as 3 = a3) (h4 : lw_av as 4 = a4) (h5 : lw_av as 5 = a5) (hb : ∀ s, (sx_sr s).1 ≤ σ s ∧ σ s ≤ (sx_sr s).2) (hW : lw_W ([], [(2, [(18501, (-1))]), ((-1), [(18503, 1)]), (0, [(18505, 1)]), (0, [(18507, 1)]), ((-2), [(19001, 1)]), (2, [(19001, (-1))]), (0, [(19002, 1)]), (0, [(19003, 1)]), (0, [(19003, (-1))]), (0, [(19004, 1)]), (0, [(19005, 1)]), ((-1), [(18501, (-1)), (18503, 1)])], [(12800, (8, []))], some (false, (0, []))) as σ σ' τ o) : lw_pm_C a1 a2 a3 a4 a5 x.toInt σ σ' := by
  unfold lw_pm_C
  have b18501 : 0 ≤ σ 18501 ∧ σ 18501 ≤ 3 := by
    have h0 := hb 18501
    rw [show sx_sr 18501 = (0, 3) from by decide +kernel] at h0
    exact h0
  have b18502 : 0 ≤ σ 18502 ∧ σ 18502 ≤ 3 := by
    have h0 := hb 18502
    rw [show sx_sr 18502 = (0, 3) from by decide +kernel] at h0
    exact h0
  have b18503 : 0 ≤ σ 18503 ∧ σ 18503 ≤ 3 := by
    have h0 := hb 18503
    rw [show sx_sr 18503 = (0, 3) from by decide +kernel] at h0
    exact h0
  have b18504 : 0 ≤ σ 18504 ∧ σ 18504 ≤ 3 := by
    have h0 := hb 18504
    rw [show sx_sr 18504 = (0, 3) from by decide +kernel] at h0
    exact h0
  have b18505 : (-1) ≤ σ 18505 ∧ σ 18505 ≤ 60 := by
    have h0 := hb 18505
    rw [show sx_sr 18505 = ((-1), 60) from by decide +kernel] at h0
    exact h0
  have b18506 : (-1) ≤ σ 18506 ∧ σ 18506 ≤ 60 := by
    have h0 := hb 18506
    rw [show sx_sr 18506 = ((-1), 60) from by decide +kernel] at h0
    exact h0
  have b18507 : (-1) ≤ σ 18507 ∧ σ 18507 ≤ 60 := by
    have h0 := hb 18507
    rw [show sx_sr 18507 = ((-1), 60) from by decide +kernel] at h0
    exact h0
  have b18508 : (-1) ≤ σ 18508 ∧ σ 18508 ≤ 60 := by
    have h0 := hb 18508
    rw [show sx_sr 18508 = ((-1), 60) from by decide +kernel] at h0
    exact h0
  obtain ⟨hs, ht, hf, hr, hm, hw⟩ := hW
  have e1 : τ 19001 = a1 := by rw [ht 19001 (by decide) (by decide)]; exact h1
  have e2 : τ 19002 = a2 := by rw [ht 19002 (by decide) (by decide)]; exact h2
  have e3 : τ 19003 = a3 := by rw [ht 19003 (by decide) (by decide)]; exact h3
  have e4 : τ 19004 = a4 := by rw [ht 19004 (by decide) (by decide)]; exact h4
  have e5 : τ 19005 = a5 := by rw [ht 19005 (by decide) (by decide)]; exact h5
  have s18501 : τ 18501 = σ 18501 := hs 18501 (by decide)
  have s18502 : τ 18502 = σ 18502 := hs 18502 (by decide)
  have s18503 : τ 18503 = σ 18503 := hs 18503 (by decide)
  have s18504 : τ 18504 = σ 18504 := hs 18504 (by decide)
  have s18505 : τ 18505 = σ 18505 := hs 18505 (by decide)
  have s18506 : τ 18506 = σ 18506 := hs 18506 (by decide)
  have s18507 : τ 18507 = σ 18507 := hs 18507 (by decide)
  have s18508 : τ 18508 = σ 18508 := hs 18508 (by decide)
  clear hs ht hb
  rw [hx] at hr
  obtain ⟨y, hy, hv⟩ := hr
  cases hy
  replace hv : x.toInt = 0 + 0 := hv
  have f0 : 0 ≤ 2 + ((-1) * τ 18501 + 0) := hf _ (List.Mem.head _)
  have f1 : 0 ≤ (-1) + (1 * τ 18503 + 0) := hf _ (List.Mem.tail _ (List.Mem.head _))
  have f2 : 0 ≤ 0 + (1 * τ 18505 + 0) := hf _ (List.Mem.tail _ (List.Mem.tail _ (List.Mem.head _)))
  have f3 : 0 ≤ 0 + (1 * τ 18507 + 0) := hf _ (List.Mem.tail _ (List.Mem.tail _ (List.Mem.tail _ (List.Mem.head _))))
  have f4 : 0 ≤ (-2) + (1 * τ 19001 + 0) := hf _ (List.Mem.tail _ (List.Mem.tail _ (List.Mem.tail _ (List.Mem.tail _ (List.Mem.head _)))))
  have f5 : 0 ≤ 2 + ((-1) * τ 19001 + 0) := hf _ (List.Mem.tail _ (List.Mem.tail _ (List.Mem.tail _ (List.Mem.tail _ (List.Mem.tail _ (List.Mem.head _))))))
  have f6 : 0 ≤ 0 + (1 * τ 19002 + 0) := hf _ (List.Mem.tail _ (List.Mem.tail _ (List.Mem.tail _ (List.Mem.tail _ (List.Mem.tail _ (List.Mem.tail _ (List.Mem.head _)))))))
  have f7 : 0 ≤ 0 + (1 * τ 19003 + 0) := hf _ (List.Mem.tail _ (List.Mem.tail _ (List.Mem.tail _ (List.Mem.tail _ (List.Mem.tail _ (List.Mem.tail _ (List.Mem.tail _ (List.Mem.head _))))))))
  have f8 : 0 ≤ 0 + ((-1) * τ 19003 + 0) := hf _ (List.Mem.tail _ (List.Mem.tail _ (List.Mem.tail _ (List.Mem.tail _ (List.Mem.tail _ (List.Mem.tail _ (List.Mem.tail _ (List.Mem.tail _ (List.Mem.head _)))))))))
  have f9 : 0 ≤ 0 + (1 * τ 19004 + 0) := hf _ (List.Mem.tail _ (List.Mem.tail _ (List.Mem.tail _ (List.Mem.tail _ (List.Mem.tail _ (List.Mem.tail _ (List.Mem.tail _ (List.Mem.tail _ (List.Mem.tail _ (List.Mem.head _))))))))))
  have f10 : 0 ≤ 0 + (1 * τ 19005 + 0) := hf _ (List.Mem.tail _ (List.Mem.tail _ (List.Mem.tail _ (List.Mem.tail _ (List.Mem.tail _ (List.Mem.tail _ (List.Mem.tail _ (List.Mem.tail _ (List.Mem.tail _ (List.Mem.tail _ (List.Mem.head _)))))))))))
  have f11 : 0 ≤ (-1) + ((-1) * τ 18501 + (1 * τ 18503 + 0)) := hf _ (List.Mem.tail _ (List.Mem.tail _ (List.Mem.tail _ (List.Mem.tail _ (List.Mem.tail _ (List.Mem.tail _ (List.Mem.tail _ (List.Mem.tail _ (List.Mem.tail _ (List.Mem.tail _ (List.Mem.tail _ (List.Mem.head _))))))))))))
  clear hf hm
  have ej : a1 = 2 := by omega
  subst ej
  have ek : a3 = 0 := by omega
  subst ek
  simp only [lw_sel0, lw_sel1, lw_sel2, lw_sel3]
  refine Or.inr ⟨by omega, fun h => ?_⟩
  obtain ⟨z0, z1, z2, z3, z4, z5, z6, z7, z8, z9, z10, z11⟩ := h
  omega
theorem lw_pm_4 {as : List rv_A} {σ σ' : Nat → Int} {o : rv_O} {x : Int32} {a1 a2 a3 a4 a5 : Int} {τ : Nat → Int} (hx : o.1 = some (.inl x)) (h1 : lw_av as 1 = a1) (h2 : lw_av as 2 = a2) (h3 : lw_av as 3 = a3) (h4 : lw_av as 4 = a4) (h5 : lw_av as 5 = a5) (hb : ∀ s, (sx_sr s).1 ≤ σ s ∧ σ s ≤ (sx_sr s).2) (hW : lw_W ([], [(2, [(18501, (-1))]), ((-1), [(18504, 1)]), (0, [(18505, 1)]), (0, [(18508, 1)]), (0, [(19001, 1)]), (0, [(19001, (-1))]), (0, [(19002, 1)]), ((-3), [(19003, 1)]), (3, [(19003, (-1))]), (0, [(19004, 1)]), (0, [(19005, 1)]), ((-1), [(18501, (-1)), (18504, 1)])], [(12800, (8, []))], some (false, (0, []))) as σ σ' τ o) : lw_pm_C a1 a2 a3 a4 a5 x.toInt σ σ' := by
  unfold lw_pm_C
  have b18501 : 0 ≤ σ 18501 ∧ σ 18501 ≤ 3 := by
    have h0 := hb 18501
    rw [show sx_sr 18501 = (0, 3) from by decide +kernel] at h0
    exact h0
  have b18502 : 0 ≤ σ 18502 ∧ σ 18502 ≤ 3 := by
    have h0 := hb 18502
    rw [show sx_sr 18502 = (0, 3) from by decide +kernel] at h0
    exact h0
  have b18503 : 0 ≤ σ 18503 ∧ σ 18503 ≤ 3 := by
    have h0 := hb 18503
    rw [show sx_sr 18503 = (0, 3) from by decide +kernel] at h0
    exact h0
  have b18504 : 0 ≤ σ 18504 ∧ σ 18504 ≤ 3 := by
    have h0 := hb 18504
    rw [show sx_sr 18504 = (0, 3) from by decide +kernel] at h0
    exact h0
  have b18505 : (-1) ≤ σ 18505 ∧ σ 18505 ≤ 60 := by
    have h0 := hb 18505
    rw [show sx_sr 18505 = ((-1), 60) from by decide +kernel] at h0
    exact h0
  have b18506 : (-1) ≤ σ 18506 ∧ σ 18506 ≤ 60 := by
    have h0 := hb 18506
    rw [show sx_sr 18506 = ((-1), 60) from by decide +kernel] at h0
    exact h0
  have b18507 : (-1) ≤ σ 18507 ∧ σ 18507 ≤ 60 := by
    have h0 := hb 18507
    rw [show sx_sr 18507 = ((-1), 60) from by decide +kernel] at h0
    exact h0
  have b18508 : (-1) ≤ σ 18508 ∧ σ 18508 ≤ 60 := by
    have h0 := hb 18508
    rw [show sx_sr 18508 = ((-1), 60) from by decide +kernel] at h0
    exact h0
  obtain ⟨hs, ht, hf, hr, hm, hw⟩ := hW
  have e1 : τ 19001 = a1 := by rw [ht 19001 (by decide) (by decide)]; exact h1
  have e2 : τ 19002 = a2 := by rw [ht 19002 (by decide) (by decide)]; exact h2
  have e3 : τ 19003 = a3 := by rw [ht 19003 (by decide) (by decide)]; exact h3
  have e4 : τ 19004 = a4 := by rw [ht 19004 (by decide) (by decide)]; exact h4
  have e5 : τ 19005 = a5 := by rw [ht 19005 (by decide) (by decide)]; exact h5
  have s18501 : τ 18501 = σ 18501 := hs 18501 (by decide)
  have s18502 : τ 18502 = σ 18502 := hs 18502 (by decide)
  have s18503 : τ 18503 = σ 18503 := hs 18503 (by decide)
  have s18504 : τ 18504 = σ 18504 := hs 18504 (by decide)
  have s18505 : τ 18505 = σ 18505 := hs 18505 (by decide)
  have s18506 : τ 18506 = σ 18506 := hs 18506 (by decide)
  have s18507 : τ 18507 = σ 18507 := hs 18507 (by decide)
  have s18508 : τ 18508 = σ 18508 := hs 18508 (by decide)
  clear hs ht hb
  rw [hx] at hr
  obtain ⟨y, hy, hv⟩ := hr
  cases hy
  replace hv : x.toInt = 0 + 0 := hv
  have f0 : 0 ≤ 2 + ((-1) * τ 18501 + 0) := hf _ (List.Mem.head _)
  have f1 : 0 ≤ (-1) + (1 * τ 18504 + 0) := hf _ (List.Mem.tail _ (List.Mem.head _))
  have f2 : 0 ≤ 0 + (1 * τ 18505 + 0) := hf _ (List.Mem.tail _ (List.Mem.tail _ (List.Mem.head _)))
  have f3 : 0 ≤ 0 + (1 * τ 18508 + 0) := hf _ (List.Mem.tail _ (List.Mem.tail _ (List.Mem.tail _ (List.Mem.head _))))
  have f4 : 0 ≤ 0 + (1 * τ 19001 + 0) := hf _ (List.Mem.tail _ (List.Mem.tail _ (List.Mem.tail _ (List.Mem.tail _ (List.Mem.head _)))))
  have f5 : 0 ≤ 0 + ((-1) * τ 19001 + 0) := hf _ (List.Mem.tail _ (List.Mem.tail _ (List.Mem.tail _ (List.Mem.tail _ (List.Mem.tail _ (List.Mem.head _))))))
  have f6 : 0 ≤ 0 + (1 * τ 19002 + 0) := hf _ (List.Mem.tail _ (List.Mem.tail _ (List.Mem.tail _ (List.Mem.tail _ (List.Mem.tail _ (List.Mem.tail _ (List.Mem.head _)))))))
  have f7 : 0 ≤ (-3) + (1 * τ 19003 + 0) := hf _ (List.Mem.tail _ (List.Mem.tail _ (List.Mem.tail _ (List.Mem.tail _ (List.Mem.tail _ (List.Mem.tail _ (List.Mem.tail _ (List.Mem.head _))))))))
  have f8 : 0 ≤ 3 + ((-1) * τ 19003 + 0) := hf _ (List.Mem.tail _ (List.Mem.tail _ (List.Mem.tail _ (List.Mem.tail _ (List.Mem.tail _ (List.Mem.tail _ (List.Mem.tail _ (List.Mem.tail _ (List.Mem.head _)))))))))
  have f9 : 0 ≤ 0 + (1 * τ 19004 + 0) := hf _ (List.Mem.tail _ (List.Mem.tail _ (List.Mem.tail _ (List.Mem.tail _ (List.Mem.tail _ (List.Mem.tail _ (List.Mem.tail _ (List.Mem.tail _ (List.Mem.tail _ (List.Mem.head _))))))))))
  have f10 : 0 ≤ 0 + (1 * τ 19005 + 0) := hf _ (List.Mem.tail _ (List.Mem.tail _ (List.Mem.tail _ (List.Mem.tail _ (List.Mem.tail _ (List.Mem.tail _ (List.Mem.tail _ (List.Mem.tail _ (List.Mem.tail _ (List.Mem.tail _ (List.Mem.head _)))))))))))
  have f11 : 0 ≤ (-1) + ((-1) * τ 18501 + (1 * τ 18504 + 0)) := hf _ (List.Mem.tail _ (List.Mem.tail _ (List.Mem.tail _ (List.Mem.tail _ (List.Mem.tail _ (List.Mem.tail _ (List.Mem.tail _ (List.Mem.tail _ (List.Mem.tail _ (List.Mem.tail _ (List.Mem.tail _ (List.Mem.head _))))))))))))
  clear hf hm
  have ej : a1 = 0 := by omega
  subst ej
  have ek : a3 = 3 := by omega
  subst ek
  simp only [lw_sel0, lw_sel1, lw_sel2, lw_sel3]
  refine Or.inr ⟨by omega, fun h => ?_⟩
  obtain ⟨z0, z1, z2, z3, z4, z5, z6, z7, z8, z9, z10, z11⟩ := h
  omega
theorem lw_pm_5 {as : List rv_A} {σ σ' : Nat → Int} {o : rv_O} {x : Int32} {a1 a2 a3 a4 a5 : Int} {τ : Nat → Int} (hx : o.1 = some (.inl x)) (h1 : lw_av as 1 = a1) (h2 : lw_av as 2 = a2) (h3 : lw_av as 3 = a3) (h4 : lw_av as 4 = a4) (h5 : lw_av as 5 = a5) (hb : ∀ s, (sx_sr s).1 ≤ σ s ∧ σ s ≤ (sx_sr s).2) (hW : lw_W ([], [(2, [(18501, (-1))]), ((-1), [(18504, 1)]), (0, [(18505, 1)]), (0, [(18508, 1)]), ((-3), [(19001, 1)]), (3, [(19001, (-1))]), (0, [(19002, 1)]), (0, [(19003, 1)]), (0, [(19003, (-1))]), (0, [(19004, 1)]), (0, [(19005, 1)]), ((-1), [(18501, (-1)), (18504, 1)])], [(12800, (8, []))], some (false, (0, []))) as σ σ' τ o) : lw_pm_C a1 a2 a3 a4 a5 x.toInt σ σ' := by
  unfold lw_pm_C
  have b18501 : 0 ≤ σ 18501 ∧ σ 18501 ≤ 3 := by
    have h0 := hb 18501
    rw [show sx_sr 18501 = (0, 3) from by decide +kernel] at h0
    exact h0
  have b18502 : 0 ≤ σ 18502 ∧ σ 18502 ≤ 3 := by
    have h0 := hb 18502
    rw [show sx_sr 18502 = (0, 3) from by decide +kernel] at h0
    exact h0
  have b18503 : 0 ≤ σ 18503 ∧ σ 18503 ≤ 3 := by
    have h0 := hb 18503
    rw [show sx_sr 18503 = (0, 3) from by decide +kernel] at h0
    exact h0
  have b18504 : 0 ≤ σ 18504 ∧ σ 18504 ≤ 3 := by
    have h0 := hb 18504
    rw [show sx_sr 18504 = (0, 3) from by decide +kernel] at h0
    exact h0
  have b18505 : (-1) ≤ σ 18505 ∧ σ 18505 ≤ 60 := by
    have h0 := hb 18505
    rw [show sx_sr 18505 = ((-1), 60) from by decide +kernel] at h0
    exact h0
  have b18506 : (-1) ≤ σ 18506 ∧ σ 18506 ≤ 60 := by
    have h0 := hb 18506
    rw [show sx_sr 18506 = ((-1), 60) from by decide +kernel] at h0
    exact h0
  have b18507 : (-1) ≤ σ 18507 ∧ σ 18507 ≤ 60 := by
    have h0 := hb 18507
    rw [show sx_sr 18507 = ((-1), 60) from by decide +kernel] at h0
    exact h0
  have b18508 : (-1) ≤ σ 18508 ∧ σ 18508 ≤ 60 := by
    have h0 := hb 18508
    rw [show sx_sr 18508 = ((-1), 60) from by decide +kernel] at h0
    exact h0
  obtain ⟨hs, ht, hf, hr, hm, hw⟩ := hW
  have e1 : τ 19001 = a1 := by rw [ht 19001 (by decide) (by decide)]; exact h1
  have e2 : τ 19002 = a2 := by rw [ht 19002 (by decide) (by decide)]; exact h2
  have e3 : τ 19003 = a3 := by rw [ht 19003 (by decide) (by decide)]; exact h3
  have e4 : τ 19004 = a4 := by rw [ht 19004 (by decide) (by decide)]; exact h4
  have e5 : τ 19005 = a5 := by rw [ht 19005 (by decide) (by decide)]; exact h5
  have s18501 : τ 18501 = σ 18501 := hs 18501 (by decide)
  have s18502 : τ 18502 = σ 18502 := hs 18502 (by decide)
  have s18503 : τ 18503 = σ 18503 := hs 18503 (by decide)
  have s18504 : τ 18504 = σ 18504 := hs 18504 (by decide)
  have s18505 : τ 18505 = σ 18505 := hs 18505 (by decide)
  have s18506 : τ 18506 = σ 18506 := hs 18506 (by decide)
  have s18507 : τ 18507 = σ 18507 := hs 18507 (by decide)
  have s18508 : τ 18508 = σ 18508 := hs 18508 (by decide)
  clear hs ht hb
  rw [hx] at hr
  obtain ⟨y, hy, hv⟩ := hr
  cases hy
  replace hv : x.toInt = 0 + 0 := hv
  have f0 : 0 ≤ 2 + ((-1) * τ 18501 + 0) := hf _ (List.Mem.head _)
  have f1 : 0 ≤ (-1) + (1 * τ 18504 + 0) := hf _ (List.Mem.tail _ (List.Mem.head _))
  have f2 : 0 ≤ 0 + (1 * τ 18505 + 0) := hf _ (List.Mem.tail _ (List.Mem.tail _ (List.Mem.head _)))
  have f3 : 0 ≤ 0 + (1 * τ 18508 + 0) := hf _ (List.Mem.tail _ (List.Mem.tail _ (List.Mem.tail _ (List.Mem.head _))))
  have f4 : 0 ≤ (-3) + (1 * τ 19001 + 0) := hf _ (List.Mem.tail _ (List.Mem.tail _ (List.Mem.tail _ (List.Mem.tail _ (List.Mem.head _)))))
  have f5 : 0 ≤ 3 + ((-1) * τ 19001 + 0) := hf _ (List.Mem.tail _ (List.Mem.tail _ (List.Mem.tail _ (List.Mem.tail _ (List.Mem.tail _ (List.Mem.head _))))))
  have f6 : 0 ≤ 0 + (1 * τ 19002 + 0) := hf _ (List.Mem.tail _ (List.Mem.tail _ (List.Mem.tail _ (List.Mem.tail _ (List.Mem.tail _ (List.Mem.tail _ (List.Mem.head _)))))))
  have f7 : 0 ≤ 0 + (1 * τ 19003 + 0) := hf _ (List.Mem.tail _ (List.Mem.tail _ (List.Mem.tail _ (List.Mem.tail _ (List.Mem.tail _ (List.Mem.tail _ (List.Mem.tail _ (List.Mem.head _))))))))
  have f8 : 0 ≤ 0 + ((-1) * τ 19003 + 0) := hf _ (List.Mem.tail _ (List.Mem.tail _ (List.Mem.tail _ (List.Mem.tail _ (List.Mem.tail _ (List.Mem.tail _ (List.Mem.tail _ (List.Mem.tail _ (List.Mem.head _)))))))))
  have f9 : 0 ≤ 0 + (1 * τ 19004 + 0) := hf _ (List.Mem.tail _ (List.Mem.tail _ (List.Mem.tail _ (List.Mem.tail _ (List.Mem.tail _ (List.Mem.tail _ (List.Mem.tail _ (List.Mem.tail _ (List.Mem.tail _ (List.Mem.head _))))))))))
  have f10 : 0 ≤ 0 + (1 * τ 19005 + 0) := hf _ (List.Mem.tail _ (List.Mem.tail _ (List.Mem.tail _ (List.Mem.tail _ (List.Mem.tail _ (List.Mem.tail _ (List.Mem.tail _ (List.Mem.tail _ (List.Mem.tail _ (List.Mem.tail _ (List.Mem.head _)))))))))))
  have f11 : 0 ≤ (-1) + ((-1) * τ 18501 + (1 * τ 18504 + 0)) := hf _ (List.Mem.tail _ (List.Mem.tail _ (List.Mem.tail _ (List.Mem.tail _ (List.Mem.tail _ (List.Mem.tail _ (List.Mem.tail _ (List.Mem.tail _ (List.Mem.tail _ (List.Mem.tail _ (List.Mem.tail _ (List.Mem.head _))))))))))))
  clear hf hm
  have ej : a1 = 3 := by omega
  subst ej
  have ek : a3 = 0 := by omega
  subst ek
  simp only [lw_sel0, lw_sel1, lw_sel2, lw_sel3]
  refine Or.inr ⟨by omega, fun h => ?_⟩
  obtain ⟨z0, z1, z2, z3, z4, z5, z6, z7, z8, z9, z10, z11⟩ := h
  omega
theorem lw_pm_6 {as : List rv_A} {σ σ' : Nat → Int} {o : rv_O} {x : Int32} {a1 a2 a3 a4 a5 : Int} {τ : Nat → Int} (hx : o.1 = some (.inl x)) (h1 : lw_av as 1 = a1) (h2 : lw_av as 2 = a2) (h3 : lw_av as 3 = a3) (h4 : lw_av as 4 = a4) (h5 : lw_av as 5 = a5) (hb : ∀ s, (sx_sr s).1 ≤ σ s ∧ σ s ≤ (sx_sr s).2) (hW : lw_W ([], [((-1), [(18501, 1)]), (2, [(18502, (-1))]), (0, [(18505, 1)]), (0, [(18506, 1)]), (0, [(19001, 1)]), (0, [(19001, (-1))]), (0, [(19002, 1)]), ((-1), [(19003, 1)]), (1, [(19003, (-1))]), (0, [(19004, 1)]), (0, [(19005, 1)]), ((-1), [(18501, 1), (18502, (-1))])], [(12800, (8, []))], some (false, (0, []))) as σ σ' τ o) : lw_pm_C a1 a2 a3 a4 a5 x.toInt σ σ' := by
  unfold lw_pm_C
  have b18501 : 0 ≤ σ 18501 ∧ σ 18501 ≤ 3 := by
    have h0 := hb 18501
    rw [show sx_sr 18501 = (0, 3) from by decide +kernel] at h0
    exact h0
  have b18502 : 0 ≤ σ 18502 ∧ σ 18502 ≤ 3 := by
    have h0 := hb 18502
    rw [show sx_sr 18502 = (0, 3) from by decide +kernel] at h0
    exact h0
  have b18503 : 0 ≤ σ 18503 ∧ σ 18503 ≤ 3 := by
    have h0 := hb 18503
    rw [show sx_sr 18503 = (0, 3) from by decide +kernel] at h0
    exact h0
  have b18504 : 0 ≤ σ 18504 ∧ σ 18504 ≤ 3 := by
    have h0 := hb 18504
    rw [show sx_sr 18504 = (0, 3) from by decide +kernel] at h0
    exact h0
  have b18505 : (-1) ≤ σ 18505 ∧ σ 18505 ≤ 60 := by
    have h0 := hb 18505
    rw [show sx_sr 18505 = ((-1), 60) from by decide +kernel] at h0
    exact h0
  have b18506 : (-1) ≤ σ 18506 ∧ σ 18506 ≤ 60 := by
    have h0 := hb 18506
    rw [show sx_sr 18506 = ((-1), 60) from by decide +kernel] at h0
    exact h0
  have b18507 : (-1) ≤ σ 18507 ∧ σ 18507 ≤ 60 := by
    have h0 := hb 18507
    rw [show sx_sr 18507 = ((-1), 60) from by decide +kernel] at h0
    exact h0
  have b18508 : (-1) ≤ σ 18508 ∧ σ 18508 ≤ 60 := by
    have h0 := hb 18508
    rw [show sx_sr 18508 = ((-1), 60) from by decide +kernel] at h0
    exact h0
  obtain ⟨hs, ht, hf, hr, hm, hw⟩ := hW
  have e1 : τ 19001 = a1 := by rw [ht 19001 (by decide) (by decide)]; exact h1
  have e2 : τ 19002 = a2 := by rw [ht 19002 (by decide) (by decide)]; exact h2
  have e3 : τ 19003 = a3 := by rw [ht 19003 (by decide) (by decide)]; exact h3
  have e4 : τ 19004 = a4 := by rw [ht 19004 (by decide) (by decide)]; exact h4
  have e5 : τ 19005 = a5 := by rw [ht 19005 (by decide) (by decide)]; exact h5
  have s18501 : τ 18501 = σ 18501 := hs 18501 (by decide)
  have s18502 : τ 18502 = σ 18502 := hs 18502 (by decide)
  have s18503 : τ 18503 = σ 18503 := hs 18503 (by decide)
  have s18504 : τ 18504 = σ 18504 := hs 18504 (by decide)
  have s18505 : τ 18505 = σ 18505 := hs 18505 (by decide)
  have s18506 : τ 18506 = σ 18506 := hs 18506 (by decide)
  have s18507 : τ 18507 = σ 18507 := hs 18507 (by decide)
  have s18508 : τ 18508 = σ 18508 := hs 18508 (by decide)
  clear hs ht hb
  rw [hx] at hr
  obtain ⟨y, hy, hv⟩ := hr
  cases hy
  replace hv : x.toInt = 0 + 0 := hv
  have f0 : 0 ≤ (-1) + (1 * τ 18501 + 0) := hf _ (List.Mem.head _)
  have f1 : 0 ≤ 2 + ((-1) * τ 18502 + 0) := hf _ (List.Mem.tail _ (List.Mem.head _))
  have f2 : 0 ≤ 0 + (1 * τ 18505 + 0) := hf _ (List.Mem.tail _ (List.Mem.tail _ (List.Mem.head _)))
  have f3 : 0 ≤ 0 + (1 * τ 18506 + 0) := hf _ (List.Mem.tail _ (List.Mem.tail _ (List.Mem.tail _ (List.Mem.head _))))
  have f4 : 0 ≤ 0 + (1 * τ 19001 + 0) := hf _ (List.Mem.tail _ (List.Mem.tail _ (List.Mem.tail _ (List.Mem.tail _ (List.Mem.head _)))))
  have f5 : 0 ≤ 0 + ((-1) * τ 19001 + 0) := hf _ (List.Mem.tail _ (List.Mem.tail _ (List.Mem.tail _ (List.Mem.tail _ (List.Mem.tail _ (List.Mem.head _))))))
  have f6 : 0 ≤ 0 + (1 * τ 19002 + 0) := hf _ (List.Mem.tail _ (List.Mem.tail _ (List.Mem.tail _ (List.Mem.tail _ (List.Mem.tail _ (List.Mem.tail _ (List.Mem.head _)))))))
  have f7 : 0 ≤ (-1) + (1 * τ 19003 + 0) := hf _ (List.Mem.tail _ (List.Mem.tail _ (List.Mem.tail _ (List.Mem.tail _ (List.Mem.tail _ (List.Mem.tail _ (List.Mem.tail _ (List.Mem.head _))))))))
  have f8 : 0 ≤ 1 + ((-1) * τ 19003 + 0) := hf _ (List.Mem.tail _ (List.Mem.tail _ (List.Mem.tail _ (List.Mem.tail _ (List.Mem.tail _ (List.Mem.tail _ (List.Mem.tail _ (List.Mem.tail _ (List.Mem.head _)))))))))
  have f9 : 0 ≤ 0 + (1 * τ 19004 + 0) := hf _ (List.Mem.tail _ (List.Mem.tail _ (List.Mem.tail _ (List.Mem.tail _ (List.Mem.tail _ (List.Mem.tail _ (List.Mem.tail _ (List.Mem.tail _ (List.Mem.tail _ (List.Mem.head _))))))))))
  have f10 : 0 ≤ 0 + (1 * τ 19005 + 0) := hf _ (List.Mem.tail _ (List.Mem.tail _ (List.Mem.tail _ (List.Mem.tail _ (List.Mem.tail _ (List.Mem.tail _ (List.Mem.tail _ (List.Mem.tail _ (List.Mem.tail _ (List.Mem.tail _ (List.Mem.head _)))))))))))
  have f11 : 0 ≤ (-1) + (1 * τ 18501 + ((-1) * τ 18502 + 0)) := hf _ (List.Mem.tail _ (List.Mem.tail _ (List.Mem.tail _ (List.Mem.tail _ (List.Mem.tail _ (List.Mem.tail _ (List.Mem.tail _ (List.Mem.tail _ (List.Mem.tail _ (List.Mem.tail _ (List.Mem.tail _ (List.Mem.head _))))))))))))
  clear hf hm
  have ej : a1 = 0 := by omega
  subst ej
  have ek : a3 = 1 := by omega
  subst ek
  simp only [lw_sel0, lw_sel1, lw_sel2, lw_sel3]
  refine Or.inr ⟨by omega, fun h => ?_⟩
  obtain ⟨z0, z1, z2, z3, z4, z5, z6, z7, z8, z9, z10, z11⟩ := h
  omega
theorem lw_pm_7 {as : List rv_A} {σ σ' : Nat → Int} {o : rv_O} {x : Int32} {a1 a2 a3 a4 a5 : Int} {τ : Nat → Int} (hx : o.1 = some (.inl x)) (h1 : lw_av as 1 = a1) (h2 : lw_av as 2 = a2) (h3 : lw_av as 3 = a3) (h4 : lw_av as 4 = a4) (h5 : lw_av as 5 = a5) (hb : ∀ s, (sx_sr s).1 ≤ σ s ∧ σ s ≤ (sx_sr s).2) (hW : lw_W ([], [((-1), [(18501, 1)]), (2, [(18502, (-1))]), (0, [(18505, 1)]), (0, [(18506, 1)]), ((-1), [(19001, 1)]), (1, [(19001, (-1))]), (0, [(19002, 1)]), (0, [(19003, 1)]), (0, [(19003, (-1))]), (0, [(19004, 1)]), (0, [(19005, 1)]), ((-1), [(18501, 1), (18502, (-1))])], [(12800, (8, []))], some (false, (0, []))) as σ σ' τ o) : lw_pm_C a1 a2 a3 a4 a5 x.toInt σ σ' := by
  unfold lw_pm_C
  have b18501 : 0 ≤ σ 18501 ∧ σ 18501 ≤ 3 := by
    have h0 := hb 18501
    rw [show sx_sr 18501 = (0, 3) from by decide +kernel] at h0
    exact h0
  have b18502 : 0 ≤ σ 18502 ∧ σ 18502 ≤ 3 := by
    have h0 := hb 18502
    rw [show sx_sr 18502 = (0, 3) from by decide +kernel] at h0
    exact h0
  have b18503 : 0 ≤ σ 18503 ∧ σ 18503 ≤ 3 := by
    have h0 := hb 18503
    rw [show sx_sr 18503 = (0, 3) from by decide +kernel] at h0
    exact h0
  have b18504 : 0 ≤ σ 18504 ∧ σ 18504 ≤ 3 := by
    have h0 := hb 18504
    rw [show sx_sr 18504 = (0, 3) from by decide +kernel] at h0
    exact h0
  have b18505 : (-1) ≤ σ 18505 ∧ σ 18505 ≤ 60 := by
    have h0 := hb 18505
    rw [show sx_sr 18505 = ((-1), 60) from by decide +kernel] at h0
    exact h0
  have b18506 : (-1) ≤ σ 18506 ∧ σ 18506 ≤ 60 := by
    have h0 := hb 18506
    rw [show sx_sr 18506 = ((-1), 60) from by decide +kernel] at h0
    exact h0
  have b18507 : (-1) ≤ σ 18507 ∧ σ 18507 ≤ 60 := by
    have h0 := hb 18507
    rw [show sx_sr 18507 = ((-1), 60) from by decide +kernel] at h0
    exact h0
  have b18508 : (-1) ≤ σ 18508 ∧ σ 18508 ≤ 60 := by
    have h0 := hb 18508
    rw [show sx_sr 18508 = ((-1), 60) from by decide +kernel] at h0
    exact h0
  obtain ⟨hs, ht, hf, hr, hm, hw⟩ := hW
  have e1 : τ 19001 = a1 := by rw [ht 19001 (by decide) (by decide)]; exact h1
  have e2 : τ 19002 = a2 := by rw [ht 19002 (by decide) (by decide)]; exact h2
  have e3 : τ 19003 = a3 := by rw [ht 19003 (by decide) (by decide)]; exact h3
  have e4 : τ 19004 = a4 := by rw [ht 19004 (by decide) (by decide)]; exact h4
  have e5 : τ 19005 = a5 := by rw [ht 19005 (by decide) (by decide)]; exact h5
  have s18501 : τ 18501 = σ 18501 := hs 18501 (by decide)
  have s18502 : τ 18502 = σ 18502 := hs 18502 (by decide)
  have s18503 : τ 18503 = σ 18503 := hs 18503 (by decide)
  have s18504 : τ 18504 = σ 18504 := hs 18504 (by decide)
  have s18505 : τ 18505 = σ 18505 := hs 18505 (by decide)
  have s18506 : τ 18506 = σ 18506 := hs 18506 (by decide)
  have s18507 : τ 18507 = σ 18507 := hs 18507 (by decide)
  have s18508 : τ 18508 = σ 18508 := hs 18508 (by decide)
  clear hs ht hb
  rw [hx] at hr
  obtain ⟨y, hy, hv⟩ := hr
  cases hy
  replace hv : x.toInt = 0 + 0 := hv
  have f0 : 0 ≤ (-1) + (1 * τ 18501 + 0) := hf _ (List.Mem.head _)
  have f1 : 0 ≤ 2 + ((-1) * τ 18502 + 0) := hf _ (List.Mem.tail _ (List.Mem.head _))
  have f2 : 0 ≤ 0 + (1 * τ 18505 + 0) := hf _ (List.Mem.tail _ (List.Mem.tail _ (List.Mem.head _)))
  have f3 : 0 ≤ 0 + (1 * τ 18506 + 0) := hf _ (List.Mem.tail _ (List.Mem.tail _ (List.Mem.tail _ (List.Mem.head _))))
  have f4 : 0 ≤ (-1) + (1 * τ 19001 + 0) := hf _ (List.Mem.tail _ (List.Mem.tail _ (List.Mem.tail _ (List.Mem.tail _ (List.Mem.head _)))))
  have f5 : 0 ≤ 1 + ((-1) * τ 19001 + 0) := hf _ (List.Mem.tail _ (List.Mem.tail _ (List.Mem.tail _ (List.Mem.tail _ (List.Mem.tail _ (List.Mem.head _))))))
  have f6 : 0 ≤ 0 + (1 * τ 19002 + 0) := hf _ (List.Mem.tail _ (List.Mem.tail _ (List.Mem.tail _ (List.Mem.tail _ (List.Mem.tail _ (List.Mem.tail _ (List.Mem.head _)))))))
  have f7 : 0 ≤ 0 + (1 * τ 19003 + 0) := hf _ (List.Mem.tail _ (List.Mem.tail _ (List.Mem.tail _ (List.Mem.tail _ (List.Mem.tail _ (List.Mem.tail _ (List.Mem.tail _ (List.Mem.head _))))))))
  have f8 : 0 ≤ 0 + ((-1) * τ 19003 + 0) := hf _ (List.Mem.tail _ (List.Mem.tail _ (List.Mem.tail _ (List.Mem.tail _ (List.Mem.tail _ (List.Mem.tail _ (List.Mem.tail _ (List.Mem.tail _ (List.Mem.head _)))))))))
  have f9 : 0 ≤ 0 + (1 * τ 19004 + 0) := hf _ (List.Mem.tail _ (List.Mem.tail _ (List.Mem.tail _ (List.Mem.tail _ (List.Mem.tail _ (List.Mem.tail _ (List.Mem.tail _ (List.Mem.tail _ (List.Mem.tail _ (List.Mem.head _))))))))))
  have f10 : 0 ≤ 0 + (1 * τ 19005 + 0) := hf _ (List.Mem.tail _ (List.Mem.tail _ (List.Mem.tail _ (List.Mem.tail _ (List.Mem.tail _ (List.Mem.tail _ (List.Mem.tail _ (List.Mem.tail _ (List.Mem.tail _ (List.Mem.tail _ (List.Mem.head _)))))))))))
  have f11 : 0 ≤ (-1) + (1 * τ 18501 + ((-1) * τ 18502 + 0)) := hf _ (List.Mem.tail _ (List.Mem.tail _ (List.Mem.tail _ (List.Mem.tail _ (List.Mem.tail _ (List.Mem.tail _ (List.Mem.tail _ (List.Mem.tail _ (List.Mem.tail _ (List.Mem.tail _ (List.Mem.tail _ (List.Mem.head _))))))))))))
  clear hf hm
  have ej : a1 = 1 := by omega
  subst ej
  have ek : a3 = 0 := by omega
  subst ek
  simp only [lw_sel0, lw_sel1, lw_sel2, lw_sel3]
  refine Or.inr ⟨by omega, fun h => ?_⟩
  obtain ⟨z0, z1, z2, z3, z4, z5, z6, z7, z8, z9, z10, z11⟩ := h
  omega
theorem lw_pm_8 {as : List rv_A} {σ σ' : Nat → Int} {o : rv_O} {x : Int32} {a1 a2 a3 a4 a5 : Int} {τ : Nat → Int} (hx : o.1 = some (.inl x)) (h1 : lw_av as 1 = a1) (h2 : lw_av as 2 = a2) (h3 : lw_av as 3 = a3) (h4 : lw_av as 4 = a4) (h5 : lw_av as 5 = a5) (hb : ∀ s, (sx_sr s).1 ≤ σ s ∧ σ s ≤ (sx_sr s).2) (hW : lw_W ([], [((-1), [(18501, 1)]), (2, [(18503, (-1))]), (0, [(18505, 1)]), (0, [(18507, 1)]), (0, [(19001, 1)]), (0, [(19001, (-1))]), (0, [(19002, 1)]), ((-2), [(19003, 1)]), (2, [(19003, (-1))]), (0, [(19004, 1)]), (0, [(19005, 1)]), ((-1), [(18501, 1), (18503, (-1))])], [(12800, (8, []))], some (false, (0, []))) as σ σ' τ o) : lw_pm_C a1 a2 a3 a4 a5 x.toInt σ σ' := by
  unfold lw_pm_C
  have b18501 : 0 ≤ σ 18501 ∧ σ 18501 ≤ 3 := by
    have h0 := hb 18501
    rw [show sx_sr 18501 = (0, 3) from by decide +kernel] at h0
    exact h0
  have b18502 : 0 ≤ σ 18502 ∧ σ 18502 ≤ 3 := by
    have h0 := hb 18502
    rw [show sx_sr 18502 = (0, 3) from by decide +kernel] at h0
    exact h0
  have b18503 : 0 ≤ σ 18503 ∧ σ 18503 ≤ 3 := by
    have h0 := hb 18503
    rw [show sx_sr 18503 = (0, 3) from by decide +kernel] at h0
    exact h0
  have b18504 : 0 ≤ σ 18504 ∧ σ 18504 ≤ 3 := by
    have h0 := hb 18504
    rw [show sx_sr 18504 = (0, 3) from by decide +kernel] at h0
    exact h0
  have b18505 : (-1) ≤ σ 18505 ∧ σ 18505 ≤ 60 := by
    have h0 := hb 18505
    rw [show sx_sr 18505 = ((-1), 60) from by decide +kernel] at h0
    exact h0
  have b18506 : (-1) ≤ σ 18506 ∧ σ 18506 ≤ 60 := by
    have h0 := hb 18506
    rw [show sx_sr 18506 = ((-1), 60) from by decide +kernel] at h0
    exact h0
  have b18507 : (-1) ≤ σ 18507 ∧ σ 18507 ≤ 60 := by
    have h0 := hb 18507
    rw [show sx_sr 18507 = ((-1), 60) from by decide +kernel] at h0
    exact h0
  have b18508 : (-1) ≤ σ 18508 ∧ σ 18508 ≤ 60 := by
    have h0 := hb 18508
    rw [show sx_sr 18508 = ((-1), 60) from by decide +kernel] at h0
    exact h0
  obtain ⟨hs, ht, hf, hr, hm, hw⟩ := hW
  have e1 : τ 19001 = a1 := by rw [ht 19001 (by decide) (by decide)]; exact h1
  have e2 : τ 19002 = a2 := by rw [ht 19002 (by decide) (by decide)]; exact h2
  have e3 : τ 19003 = a3 := by rw [ht 19003 (by decide) (by decide)]; exact h3
  have e4 : τ 19004 = a4 := by rw [ht 19004 (by decide) (by decide)]; exact h4
  have e5 : τ 19005 = a5 := by rw [ht 19005 (by decide) (by decide)]; exact h5
  have s18501 : τ 18501 = σ 18501 := hs 18501 (by decide)
  have s18502 : τ 18502 = σ 18502 := hs 18502 (by decide)
  have s18503 : τ 18503 = σ 18503 := hs 18503 (by decide)
  have s18504 : τ 18504 = σ 18504 := hs 18504 (by decide)
  have s18505 : τ 18505 = σ 18505 := hs 18505 (by decide)
  have s18506 : τ 18506 = σ 18506 := hs 18506 (by decide)
  have s18507 : τ 18507 = σ 18507 := hs 18507 (by decide)
  have s18508 : τ 18508 = σ 18508 := hs 18508 (by decide)
  clear hs ht hb
  rw [hx] at hr
  obtain ⟨y, hy, hv⟩ := hr
  cases hy
  replace hv : x.toInt = 0 + 0 := hv
  have f0 : 0 ≤ (-1) + (1 * τ 18501 + 0) := hf _ (List.Mem.head _)
  have f1 : 0 ≤ 2 + ((-1) * τ 18503 + 0) := hf _ (List.Mem.tail _ (List.Mem.head _))
  have f2 : 0 ≤ 0 + (1 * τ 18505 + 0) := hf _ (List.Mem.tail _ (List.Mem.tail _ (List.Mem.head _)))
  have f3 : 0 ≤ 0 + (1 * τ 18507 + 0) := hf _ (List.Mem.tail _ (List.Mem.tail _ (List.Mem.tail _ (List.Mem.head _))))
  have f4 : 0 ≤ 0 + (1 * τ 19001 + 0) := hf _ (List.Mem.tail _ (List.Mem.tail _ (List.Mem.tail _ (List.Mem.tail _ (List.Mem.head _)))))
  have f5 : 0 ≤ 0 + ((-1) * τ 19001 + 0) := hf _ (List.Mem.tail _ (List.Mem.tail _ (List.Mem.tail _ (List.Mem.tail _ (List.Mem.tail _ (List.Mem.head _))))))
  have f6 : 0 ≤ 0 + (1 * τ 19002 + 0) := hf _ (List.Mem.tail _ (List.Mem.tail _ (List.Mem.tail _ (List.Mem.tail _ (List.Mem.tail _ (List.Mem.tail _ (List.Mem.head _)))))))
  have f7 : 0 ≤ (-2) + (1 * τ 19003 + 0) := hf _ (List.Mem.tail _ (List.Mem.tail _ (List.Mem.tail _ (List.Mem.tail _ (List.Mem.tail _ (List.Mem.tail _ (List.Mem.tail _ (List.Mem.head _))))))))
  have f8 : 0 ≤ 2 + ((-1) * τ 19003 + 0) := hf _ (List.Mem.tail _ (List.Mem.tail _ (List.Mem.tail _ (List.Mem.tail _ (List.Mem.tail _ (List.Mem.tail _ (List.Mem.tail _ (List.Mem.tail _ (List.Mem.head _)))))))))
  have f9 : 0 ≤ 0 + (1 * τ 19004 + 0) := hf _ (List.Mem.tail _ (List.Mem.tail _ (List.Mem.tail _ (List.Mem.tail _ (List.Mem.tail _ (List.Mem.tail _ (List.Mem.tail _ (List.Mem.tail _ (List.Mem.tail _ (List.Mem.head _))))))))))
  have f10 : 0 ≤ 0 + (1 * τ 19005 + 0) := hf _ (List.Mem.tail _ (List.Mem.tail _ (List.Mem.tail _ (List.Mem.tail _ (List.Mem.tail _ (List.Mem.tail _ (List.Mem.tail _ (List.Mem.tail _ (List.Mem.tail _ (List.Mem.tail _ (List.Mem.head _)))))))))))
  have f11 : 0 ≤ (-1) + (1 * τ 18501 + ((-1) * τ 18503 + 0)) := hf _ (List.Mem.tail _ (List.Mem.tail _ (List.Mem.tail _ (List.Mem.tail _ (List.Mem.tail _ (List.Mem.tail _ (List.Mem.tail _ (List.Mem.tail _ (List.Mem.tail _ (List.Mem.tail _ (List.Mem.tail _ (List.Mem.head _))))))))))))
  clear hf hm
  have ej : a1 = 0 := by omega
  subst ej
  have ek : a3 = 2 := by omega
  subst ek
  simp only [lw_sel0, lw_sel1, lw_sel2, lw_sel3]
  refine Or.inr ⟨by omega, fun h => ?_⟩
  obtain ⟨z0, z1, z2, z3, z4, z5, z6, z7, z8, z9, z10, z11⟩ := h
  omega
theorem lw_pm_9 {as : List rv_A} {σ σ' : Nat → Int} {o : rv_O} {x : Int32} {a1 a2 a3 a4 a5 : Int} {τ : Nat → Int} (hx : o.1 = some (.inl x)) (h1 : lw_av as 1 = a1) (h2 : lw_av as 2 = a2) (h3 : lw_av as 3 = a3) (h4 : lw_av as 4 = a4) (h5 : lw_av as 5 = a5) (hb : ∀ s, (sx_sr s).1 ≤ σ s ∧ σ s ≤ (sx_sr s).2) (hW : lw_W ([], [((-1), [(18501, 1)]), (2, [(18503, (-1))]), (0, [(18505, 1)]), (0, [(18507, 1)]), ((-2), [(19001, 1)]), (2, [(19001, (-1))]), (0, [(19002, 1)]), (0, [(19003, 1)]), (0, [(19003, (-1))]), (0, [(19004, 1)]), (0, [(19005, 1)]), ((-1), [(18501, 1), (18503, (-1))])], [(12800, (8, []))], some (false, (0, []))) as σ σ' τ o) : lw_pm_C a1 a2 a3 a4 a5 x.toInt σ σ' := by
  unfold lw_pm_C
  have b18501 : 0 ≤ σ 18501 ∧ σ 18501 ≤ 3 := by
    have h0 := hb 18501
    rw [show sx_sr 18501 = (0, 3) from by decide +kernel] at h0
    exact h0
  have b18502 : 0 ≤ σ 18502 ∧ σ 18502 ≤ 3 := by
    have h0 := hb 18502
    rw [show sx_sr 18502 = (0, 3) from by decide +kernel] at h0
    exact h0
  have b18503 : 0 ≤ σ 18503 ∧ σ 18503 ≤ 3 := by
    have h0 := hb 18503
    rw [show sx_sr 18503 = (0, 3) from by decide +kernel] at h0
    exact h0
  have b18504 : 0 ≤ σ 18504 ∧ σ 18504 ≤ 3 := by
    have h0 := hb 18504
    rw [show sx_sr 18504 = (0, 3) from by decide +kernel] at h0
    exact h0
  have b18505 : (-1) ≤ σ 18505 ∧ σ 18505 ≤ 60 := by
    have h0 := hb 18505
    rw [show sx_sr 18505 = ((-1), 60) from by decide +kernel] at h0
    exact h0
  have b18506 : (-1) ≤ σ 18506 ∧ σ 18506 ≤ 60 := by
    have h0 := hb 18506
    rw [show sx_sr 18506 = ((-1), 60) from by decide +kernel] at h0
    exact h0
  have b18507 : (-1) ≤ σ 18507 ∧ σ 18507 ≤ 60 := by
    have h0 := hb 18507
    rw [show sx_sr 18507 = ((-1), 60) from by decide +kernel] at h0
    exact h0
  have b18508 : (-1) ≤ σ 18508 ∧ σ 18508 ≤ 60 := by
    have h0 := hb 18508
    rw [show sx_sr 18508 = ((-1), 60) from by decide +kernel] at h0
    exact h0
  obtain ⟨hs, ht, hf, hr, hm, hw⟩ := hW
  have e1 : τ 19001 = a1 := by rw [ht 19001 (by decide) (by decide)]; exact h1
  have e2 : τ 19002 = a2 := by rw [ht 19002 (by decide) (by decide)]; exact h2
  have e3 : τ 19003 = a3 := by rw [ht 19003 (by decide) (by decide)]; exact h3
  have e4 : τ 19004 = a4 := by rw [ht 19004 (by decide) (by decide)]; exact h4
  have e5 : τ 19005 = a5 := by rw [ht 19005 (by decide) (by decide)]; exact h5
  have s18501 : τ 18501 = σ 18501 := hs 18501 (by decide)
  have s18502 : τ 18502 = σ 18502 := hs 18502 (by decide)
  have s18503 : τ 18503 = σ 18503 := hs 18503 (by decide)
  have s18504 : τ 18504 = σ 18504 := hs 18504 (by decide)
  have s18505 : τ 18505 = σ 18505 := hs 18505 (by decide)
  have s18506 : τ 18506 = σ 18506 := hs 18506 (by decide)
  have s18507 : τ 18507 = σ 18507 := hs 18507 (by decide)
  have s18508 : τ 18508 = σ 18508 := hs 18508 (by decide)
  clear hs ht hb
  rw [hx] at hr
  obtain ⟨y, hy, hv⟩ := hr
  cases hy
  replace hv : x.toInt = 0 + 0 := hv
  have f0 : 0 ≤ (-1) + (1 * τ 18501 + 0) := hf _ (List.Mem.head _)
  have f1 : 0 ≤ 2 + ((-1) * τ 18503 + 0) := hf _ (List.Mem.tail _ (List.Mem.head _))
  have f2 : 0 ≤ 0 + (1 * τ 18505 + 0) := hf _ (List.Mem.tail _ (List.Mem.tail _ (List.Mem.head _)))
  have f3 : 0 ≤ 0 + (1 * τ 18507 + 0) := hf _ (List.Mem.tail _ (List.Mem.tail _ (List.Mem.tail _ (List.Mem.head _))))
  have f4 : 0 ≤ (-2) + (1 * τ 19001 + 0) := hf _ (List.Mem.tail _ (List.Mem.tail _ (List.Mem.tail _ (List.Mem.tail _ (List.Mem.head _)))))
  have f5 : 0 ≤ 2 + ((-1) * τ 19001 + 0) := hf _ (List.Mem.tail _ (List.Mem.tail _ (List.Mem.tail _ (List.Mem.tail _ (List.Mem.tail _ (List.Mem.head _))))))
  have f6 : 0 ≤ 0 + (1 * τ 19002 + 0) := hf _ (List.Mem.tail _ (List.Mem.tail _ (List.Mem.tail _ (List.Mem.tail _ (List.Mem.tail _ (List.Mem.tail _ (List.Mem.head _)))))))
  have f7 : 0 ≤ 0 + (1 * τ 19003 + 0) := hf _ (List.Mem.tail _ (List.Mem.tail _ (List.Mem.tail _ (List.Mem.tail _ (List.Mem.tail _ (List.Mem.tail _ (List.Mem.tail _ (List.Mem.head _))))))))
  have f8 : 0 ≤ 0 + ((-1) * τ 19003 + 0) := hf _ (List.Mem.tail _ (List.Mem.tail _ (List.Mem.tail _ (List.Mem.tail _ (List.Mem.tail _ (List.Mem.tail _ (List.Mem.tail _ (List.Mem.tail _ (List.Mem.head _)))))))))
  have f9 : 0 ≤ 0 + (1 * τ 19004 + 0) := hf _ (List.Mem.tail _ (List.Mem.tail _ (List.Mem.tail _ (List.Mem.tail _ (List.Mem.tail _ (List.Mem.tail _ (List.Mem.tail _ (List.Mem.tail _ (List.Mem.tail _ (List.Mem.head _))))))))))
  have f10 : 0 ≤ 0 + (1 * τ 19005 + 0) := hf _ (List.Mem.tail _ (List.Mem.tail _ (List.Mem.tail _ (List.Mem.tail _ (List.Mem.tail _ (List.Mem.tail _ (List.Mem.tail _ (List.Mem.tail _ (List.Mem.tail _ (List.Mem.tail _ (List.Mem.head _)))))))))))
  have f11 : 0 ≤ (-1) + (1 * τ 18501 + ((-1) * τ 18503 + 0)) := hf _ (List.Mem.tail _ (List.Mem.tail _ (List.Mem.tail _ (List.Mem.tail _ (List.Mem.tail _ (List.Mem.tail _ (List.Mem.tail _ (List.Mem.tail _ (List.Mem.tail _ (List.Mem.tail _ (List.Mem.tail _ (List.Mem.head _))))))))))))
  clear hf hm
  have ej : a1 = 2 := by omega
  subst ej
  have ek : a3 = 0 := by omega
  subst ek
  simp only [lw_sel0, lw_sel1, lw_sel2, lw_sel3]
  refine Or.inr ⟨by omega, fun h => ?_⟩
  obtain ⟨z0, z1, z2, z3, z4, z5, z6, z7, z8, z9, z10, z11⟩ := h
  omega
theorem lw_pm_10 {as : List rv_A} {σ σ' : Nat → Int} {o : rv_O} {x : Int32} {a1 a2 a3 a4 a5 : Int} {τ : Nat → Int} (hx : o.1 = some (.inl x)) (h1 : lw_av as 1 = a1) (h2 : lw_av as 2 = a2) (h3 : lw_av as 3 = a3) (h4 : lw_av as 4 = a4) (h5 : lw_av as 5 = a5) (hb : ∀ s, (sx_sr s).1 ≤ σ s ∧ σ s ≤ (sx_sr s).2) (hW : lw_W ([], [((-1), [(18501, 1)]), (2, [(18504, (-1))]), (0, [(18505, 1)]), (0, [(18508, 1)]), (0, [(19001, 1)]), (0, [(19001, (-1))]), (0, [(19002, 1)]), ((-3), [(19003, 1)]), (3, [(19003, (-1))]), (0, [(19004, 1)]), (0, [(19005, 1)]), ((-1), [(18501, 1), (18504, (-1))])], [(12800, (8, []))], some (false, (0, []))) as σ σ' τ o) : lw_pm_C a1 a2 a3 a4 a5 x.toInt σ σ' := by
  unfold lw_pm_C
  have b18501 : 0 ≤ σ 18501 ∧ σ 18501 ≤ 3 := by
    have h0 := hb 18501
    rw [show sx_sr 18501 = (0, 3) from by decide +kernel] at h0
    exact h0
  have b18502 : 0 ≤ σ 18502 ∧ σ 18502 ≤ 3 := by
    have h0 := hb 18502
    rw [show sx_sr 18502 = (0, 3) from by decide +kernel] at h0
    exact h0
  have b18503 : 0 ≤ σ 18503 ∧ σ 18503 ≤ 3 := by
    have h0 := hb 18503
    rw [show sx_sr 18503 = (0, 3) from by decide +kernel] at h0
    exact h0
  have b18504 : 0 ≤ σ 18504 ∧ σ 18504 ≤ 3 := by
    have h0 := hb 18504
    rw [show sx_sr 18504 = (0, 3) from by decide +kernel] at h0
    exact h0
  have b18505 : (-1) ≤ σ 18505 ∧ σ 18505 ≤ 60 := by
    have h0 := hb 18505
    rw [show sx_sr 18505 = ((-1), 60) from by decide +kernel] at h0
    exact h0
  have b18506 : (-1) ≤ σ 18506 ∧ σ 18506 ≤ 60 := by
    have h0 := hb 18506
    rw [show sx_sr 18506 = ((-1), 60) from by decide +kernel] at h0
    exact h0
  have b18507 : (-1) ≤ σ 18507 ∧ σ 18507 ≤ 60 := by
    have h0 := hb 18507
    rw [show sx_sr 18507 = ((-1), 60) from by decide +kernel] at h0
    exact h0
  have b18508 : (-1) ≤ σ 18508 ∧ σ 18508 ≤ 60 := by
    have h0 := hb 18508
    rw [show sx_sr 18508 = ((-1), 60) from by decide +kernel] at h0
    exact h0
  obtain ⟨hs, ht, hf, hr, hm, hw⟩ := hW
  have e1 : τ 19001 = a1 := by rw [ht 19001 (by decide) (by decide)]; exact h1
  have e2 : τ 19002 = a2 := by rw [ht 19002 (by decide) (by decide)]; exact h2
  have e3 : τ 19003 = a3 := by rw [ht 19003 (by decide) (by decide)]; exact h3
  have e4 : τ 19004 = a4 := by rw [ht 19004 (by decide) (by decide)]; exact h4
  have e5 : τ 19005 = a5 := by rw [ht 19005 (by decide) (by decide)]; exact h5
  have s18501 : τ 18501 = σ 18501 := hs 18501 (by decide)
  have s18502 : τ 18502 = σ 18502 := hs 18502 (by decide)
  have s18503 : τ 18503 = σ 18503 := hs 18503 (by decide)
  have s18504 : τ 18504 = σ 18504 := hs 18504 (by decide)
  have s18505 : τ 18505 = σ 18505 := hs 18505 (by decide)
  have s18506 : τ 18506 = σ 18506 := hs 18506 (by decide)
  have s18507 : τ 18507 = σ 18507 := hs 18507 (by decide)
  have s18508 : τ 18508 = σ 18508 := hs 18508 (by decide)
  clear hs ht hb
  rw [hx] at hr
  obtain ⟨y, hy, hv⟩ := hr
  cases hy
  replace hv : x.toInt = 0 + 0 := hv
  have f0 : 0 ≤ (-1) + (1 * τ 18501 + 0) := hf _ (List.Mem.head _)
  have f1 : 0 ≤ 2 + ((-1) * τ 18504 + 0) := hf _ (List.Mem.tail _ (List.Mem.head _))
  have f2 : 0 ≤ 0 + (1 * τ 18505 + 0) := hf _ (List.Mem.tail _ (List.Mem.tail _ (List.Mem.head _)))
  have f3 : 0 ≤ 0 + (1 * τ 18508 + 0) := hf _ (List.Mem.tail _ (List.Mem.tail _ (List.Mem.tail _ (List.Mem.head _))))
  have f4 : 0 ≤ 0 + (1 * τ 19001 + 0) := hf _ (List.Mem.tail _ (List.Mem.tail _ (List.Mem.tail _ (List.Mem.tail _ (List.Mem.head _)))))
  have f5 : 0 ≤ 0 + ((-1) * τ 19001 + 0) := hf _ (List.Mem.tail _ (List.Mem.tail _ (List.Mem.tail _ (List.Mem.tail _ (List.Mem.tail _ (List.Mem.head _))))))
  have f6 : 0 ≤ 0 + (1 * τ 19002 + 0) := hf _ (List.Mem.tail _ (List.Mem.tail _ (List.Mem.tail _ (List.Mem.tail _ (List.Mem.tail _ (List.Mem.tail _ (List.Mem.head _)))))))
  have f7 : 0 ≤ (-3) + (1 * τ 19003 + 0) := hf _ (List.Mem.tail _ (List.Mem.tail _ (List.Mem.tail _ (List.Mem.tail _ (List.Mem.tail _ (List.Mem.tail _ (List.Mem.tail _ (List.Mem.head _))))))))
  have f8 : 0 ≤ 3 + ((-1) * τ 19003 + 0) := hf _ (List.Mem.tail _ (List.Mem.tail _ (List.Mem.tail _ (List.Mem.tail _ (List.Mem.tail _ (List.Mem.tail _ (List.Mem.tail _ (List.Mem.tail _ (List.Mem.head _)))))))))
  have f9 : 0 ≤ 0 + (1 * τ 19004 + 0) := hf _ (List.Mem.tail _ (List.Mem.tail _ (List.Mem.tail _ (List.Mem.tail _ (List.Mem.tail _ (List.Mem.tail _ (List.Mem.tail _ (List.Mem.tail _ (List.Mem.tail _ (List.Mem.head _))))))))))
  have f10 : 0 ≤ 0 + (1 * τ 19005 + 0) := hf _ (List.Mem.tail _ (List.Mem.tail _ (List.Mem.tail _ (List.Mem.tail _ (List.Mem.tail _ (List.Mem.tail _ (List.Mem.tail _ (List.Mem.tail _ (List.Mem.tail _ (List.Mem.tail _ (List.Mem.head _)))))))))))
  have f11 : 0 ≤ (-1) + (1 * τ 18501 + ((-1) * τ 18504 + 0)) := hf _ (List.Mem.tail _ (List.Mem.tail _ (List.Mem.tail _ (List.Mem.tail _ (List.Mem.tail _ (List.Mem.tail _ (List.Mem.tail _ (List.Mem.tail _ (List.Mem.tail _ (List.Mem.tail _ (List.Mem.tail _ (List.Mem.head _))))))))))))
  clear hf hm
  have ej : a1 = 0 := by omega
  subst ej
  have ek : a3 = 3 := by omega
  subst ek
  simp only [lw_sel0, lw_sel1, lw_sel2, lw_sel3]
  refine Or.inr ⟨by omega, fun h => ?_⟩
  obtain ⟨z0, z1, z2, z3, z4, z5, z6, z7, z8, z9, z10, z11⟩ := h
  omega
theorem lw_pm_11 {as : List rv_A} {σ σ' : Nat → Int} {o : rv_O} {x : Int32} {a1 a2 a3 a4 a5 : Int} {τ : Nat → Int} (hx : o.1 = some (.inl x)) (h1 : lw_av as 1 = a1) (h2 : lw_av as 2 = a2) (h3 : lw_av as 3 = a3) (h4 : lw_av as 4 = a4) (h5 : lw_av as 5 = a5) (hb : ∀ s, (sx_sr s).1 ≤ σ s ∧ σ s ≤ (sx_sr s).2) (hW : lw_W ([], [((-1), [(18501, 1)]), (2, [(18504, (-1))]), (0, [(18505, 1)]), (0, [(18508, 1)]), ((-3), [(19001, 1)]), (3, [(19001, (-1))]), (0, [(19002, 1)]), (0, [(19003, 1)]), (0, [(19003, (-1))]), (0, [(19004, 1)]), (0, [(19005, 1)]), ((-1), [(18501, 1), (18504, (-1))])], [(12800, (8, []))], some (false, (0, []))) as σ σ' τ o) : lw_pm_C a1 a2 a3 a4 a5 x.toInt σ σ' := by
  unfold lw_pm_C
  have b18501 : 0 ≤ σ 18501 ∧ σ 18501 ≤ 3 := by
    have h0 := hb 18501
    rw [show sx_sr 18501 = (0, 3) from by decide +kernel] at h0
    exact h0
  have b18502 : 0 ≤ σ 18502 ∧ σ 18502 ≤ 3 := by
    have h0 := hb 18502
    rw [show sx_sr 18502 = (0, 3) from by decide +kernel] at h0
    exact h0
  have b18503 : 0 ≤ σ 18503 ∧ σ 18503 ≤ 3 := by
    have h0 := hb 18503
    rw [show sx_sr 18503 = (0, 3) from by decide +kernel] at h0
    exact h0
  have b18504 : 0 ≤ σ 18504 ∧ σ 18504 ≤ 3 := by
    have h0 := hb 18504
    rw [show sx_sr 18504 = (0, 3) from by decide +kernel] at h0
    exact h0
  have b18505 : (-1) ≤ σ 18505 ∧ σ 18505 ≤ 60 := by
    have h0 := hb 18505
    rw [show sx_sr 18505 = ((-1), 60) from by decide +kernel] at h0
    exact h0
  have b18506 : (-1) ≤ σ 18506 ∧ σ 18506 ≤ 60 := by
    have h0 := hb 18506
    rw [show sx_sr 18506 = ((-1), 60) from by decide +kernel] at h0
    exact h0
  have b18507 : (-1) ≤ σ 18507 ∧ σ 18507 ≤ 60 := by
    have h0 := hb 18507
    rw [show sx_sr 18507 = ((-1), 60) from by decide +kernel] at h0
    exact h0
  have b18508 : (-1) ≤ σ 18508 ∧ σ 18508 ≤ 60 := by
    have h0 := hb 18508
    rw [show sx_sr 18508 = ((-1), 60) from by decide +kernel] at h0
    exact h0
  obtain ⟨hs, ht, hf, hr, hm, hw⟩ := hW
  have e1 : τ 19001 = a1 := by rw [ht 19001 (by decide) (by decide)]; exact h1
  have e2 : τ 19002 = a2 := by rw [ht 19002 (by decide) (by decide)]; exact h2
  have e3 : τ 19003 = a3 := by rw [ht 19003 (by decide) (by decide)]; exact h3
  have e4 : τ 19004 = a4 := by rw [ht 19004 (by decide) (by decide)]; exact h4
  have e5 : τ 19005 = a5 := by rw [ht 19005 (by decide) (by decide)]; exact h5
  have s18501 : τ 18501 = σ 18501 := hs 18501 (by decide)
  have s18502 : τ 18502 = σ 18502 := hs 18502 (by decide)
  have s18503 : τ 18503 = σ 18503 := hs 18503 (by decide)
  have s18504 : τ 18504 = σ 18504 := hs 18504 (by decide)
  have s18505 : τ 18505 = σ 18505 := hs 18505 (by decide)
  have s18506 : τ 18506 = σ 18506 := hs 18506 (by decide)
  have s18507 : τ 18507 = σ 18507 := hs 18507 (by decide)
  have s18508 : τ 18508 = σ 18508 := hs 18508 (by decide)
  clear hs ht hb
  rw [hx] at hr
  obtain ⟨y, hy, hv⟩ := hr
  cases hy
  replace hv : x.toInt = 0 + 0 := hv
  have f0 : 0 ≤ (-1) + (1 * τ 18501 + 0) := hf _ (List.Mem.head _)
  have f1 : 0 ≤ 2 + ((-1) * τ 18504 + 0) := hf _ (List.Mem.tail _ (List.Mem.head _))
  have f2 : 0 ≤ 0 + (1 * τ 18505 + 0) := hf _ (List.Mem.tail _ (List.Mem.tail _ (List.Mem.head _)))
  have f3 : 0 ≤ 0 + (1 * τ 18508 + 0) := hf _ (List.Mem.tail _ (List.Mem.tail _ (List.Mem.tail _ (List.Mem.head _))))
  have f4 : 0 ≤ (-3) + (1 * τ 19001 + 0) := hf _ (List.Mem.tail _ (List.Mem.tail _ (List.Mem.tail _ (List.Mem.tail _ (List.Mem.head _)))))
  have f5 : 0 ≤ 3 + ((-1) * τ 19001 + 0) := hf _ (List.Mem.tail _ (List.Mem.tail _ (List.Mem.tail _ (List.Mem.tail _ (List.Mem.tail _ (List.Mem.head _))))))
  have f6 : 0 ≤ 0 + (1 * τ 19002 + 0) := hf _ (List.Mem.tail _ (List.Mem.tail _ (List.Mem.tail _ (List.Mem.tail _ (List.Mem.tail _ (List.Mem.tail _ (List.Mem.head _)))))))
  have f7 : 0 ≤ 0 + (1 * τ 19003 + 0) := hf _ (List.Mem.tail _ (List.Mem.tail _ (List.Mem.tail _ (List.Mem.tail _ (List.Mem.tail _ (List.Mem.tail _ (List.Mem.tail _ (List.Mem.head _))))))))
  have f8 : 0 ≤ 0 + ((-1) * τ 19003 + 0) := hf _ (List.Mem.tail _ (List.Mem.tail _ (List.Mem.tail _ (List.Mem.tail _ (List.Mem.tail _ (List.Mem.tail _ (List.Mem.tail _ (List.Mem.tail _ (List.Mem.head _)))))))))
  have f9 : 0 ≤ 0 + (1 * τ 19004 + 0) := hf _ (List.Mem.tail _ (List.Mem.tail _ (List.Mem.tail _ (List.Mem.tail _ (List.Mem.tail _ (List.Mem.tail _ (List.Mem.tail _ (List.Mem.tail _ (List.Mem.tail _ (List.Mem.head _))))))))))
  have f10 : 0 ≤ 0 + (1 * τ 19005 + 0) := hf _ (List.Mem.tail _ (List.Mem.tail _ (List.Mem.tail _ (List.Mem.tail _ (List.Mem.tail _ (List.Mem.tail _ (List.Mem.tail _ (List.Mem.tail _ (List.Mem.tail _ (List.Mem.tail _ (List.Mem.head _)))))))))))
  have f11 : 0 ≤ (-1) + (1 * τ 18501 + ((-1) * τ 18504 + 0)) := hf _ (List.Mem.tail _ (List.Mem.tail _ (List.Mem.tail _ (List.Mem.tail _ (List.Mem.tail _ (List.Mem.tail _ (List.Mem.tail _ (List.Mem.tail _ (List.Mem.tail _ (List.Mem.tail _ (List.Mem.tail _ (List.Mem.head _))))))))))))
  clear hf hm
  have ej : a1 = 3 := by omega
  subst ej
  have ek : a3 = 0 := by omega
  subst ek
  simp only [lw_sel0, lw_sel1, lw_sel2, lw_sel3]
  refine Or.inr ⟨by omega, fun h => ?_⟩
  obtain ⟨z0, z1, z2, z3, z4, z5, z6, z7, z8, z9, z10, z11⟩ := h
  omega
theorem lw_pm_12 {as : List rv_A} {σ σ' : Nat → Int} {o : rv_O} {x : Int32} {a1 a2 a3 a4 a5 : Int} {τ : Nat → Int} (hx : o.1 = some (.inl x)) (h1 : lw_av as 1 = a1) (h2 : lw_av as 2 = a2) (h3 : lw_av as 3 = a3) (h4 : lw_av as 4 = a4) (h5 : lw_av as 5 = a5) (hb : ∀ s, (sx_sr s).1 ≤ σ s ∧ σ s ≤ (sx_sr s).2) (hW : lw_W ([], [(2, [(18502, (-1))]), ((-1), [(18503, 1)]), (0, [(18506, 1)]), (0, [(18507, 1)]), ((-1), [(19001, 1)]), (1, [(19001, (-1))]), (0, [(19002, 1)]), ((-2), [(19003, 1)]), (2, [(19003, (-1))]), (0, [(19004, 1)]), (0, [(19005, 1)]), ((-1), [(18502, (-1)), (18503, 1)])], [(12800, (8, []))], some (false, (0, []))) as σ σ' τ o) : lw_pm_C a1 a2 a3 a4 a5 x.toInt σ σ' := by
  unfold lw_pm_C
  have b18501 : 0 ≤ σ 18501 ∧ σ 18501 ≤ 3 := by
    have h0 := hb 18501
    rw [show sx_sr 18501 = (0, 3) from by decide +kernel] at h0
    exact h0
  have b18502 : 0 ≤ σ 18502 ∧ σ 18502 ≤ 3 := by
    have h0 := hb 18502
    rw [show sx_sr 18502 = (0, 3) from by decide +kernel] at h0
    exact h0
  have b18503 : 0 ≤ σ 18503 ∧ σ 18503 ≤ 3 := by
    have h0 := hb 18503
    rw [show sx_sr 18503 = (0, 3) from by decide +kernel] at h0
    exact h0
  have b18504 : 0 ≤ σ 18504 ∧ σ 18504 ≤ 3 := by
    have h0 := hb 18504
    rw [show sx_sr 18504 = (0, 3) from by decide +kernel] at h0
    exact h0
  have b18505 : (-1) ≤ σ 18505 ∧ σ 18505 ≤ 60 := by
    have h0 := hb 18505
    rw [show sx_sr 18505 = ((-1), 60) from by decide +kernel] at h0
    exact h0
  have b18506 : (-1) ≤ σ 18506 ∧ σ 18506 ≤ 60 := by
    have h0 := hb 18506
    rw [show sx_sr 18506 = ((-1), 60) from by decide +kernel] at h0
    exact h0
  have b18507 : (-1) ≤ σ 18507 ∧ σ 18507 ≤ 60 := by
    have h0 := hb 18507
    rw [show sx_sr 18507 = ((-1), 60) from by decide +kernel] at h0
    exact h0
  have b18508 : (-1) ≤ σ 18508 ∧ σ 18508 ≤ 60 := by
    have h0 := hb 18508
    rw [show sx_sr 18508 = ((-1), 60) from by decide +kernel] at h0
    exact h0
  obtain ⟨hs, ht, hf, hr, hm, hw⟩ := hW
  have e1 : τ 19001 = a1 := by rw [ht 19001 (by decide) (by decide)]; exact h1
  have e2 : τ 19002 = a2 := by rw [ht 19002 (by decide) (by decide)]; exact h2
  have e3 : τ 19003 = a3 := by rw [ht 19003 (by decide) (by decide)]; exact h3
  have e4 : τ 19004 = a4 := by rw [ht 19004 (by decide) (by decide)]; exact h4
  have e5 : τ 19005 = a5 := by rw [ht 19005 (by decide) (by decide)]; exact h5
  have s18501 : τ 18501 = σ 18501 := hs 18501 (by decide)
  have s18502 : τ 18502 = σ 18502 := hs 18502 (by decide)
  have s18503 : τ 18503 = σ 18503 := hs 18503 (by decide)
  have s18504 : τ 18504 = σ 18504 := hs 18504 (by decide)
  have s18505 : τ 18505 = σ 18505 := hs 18505 (by decide)
  have s18506 : τ 18506 = σ 18506 := hs 18506 (by decide)
  have s18507 : τ 18507 = σ 18507 := hs 18507 (by decide)
  have s18508 : τ 18508 = σ 18508 := hs 18508 (by decide)
  clear hs ht hb
  rw [hx] at hr
  obtain ⟨y, hy, hv⟩ := hr
  cases hy
  replace hv : x.toInt = 0 + 0 := hv
  have f0 : 0 ≤ 2 + ((-1) * τ 18502 + 0) := hf _ (List.Mem.head _)
  have f1 : 0 ≤ (-1) + (1 * τ 18503 + 0) := hf _ (List.Mem.tail _ (List.Mem.head _))
  have f2 : 0 ≤ 0 + (1 * τ 18506 + 0) := hf _ (List.Mem.tail _ (List.Mem.tail _ (List.Mem.head _)))
  have f3 : 0 ≤ 0 + (1 * τ 18507 + 0) := hf _ (List.Mem.tail _ (List.Mem.tail _ (List.Mem.tail _ (List.Mem.head _))))
  have f4 : 0 ≤ (-1) + (1 * τ 19001 + 0) := hf _ (List.Mem.tail _ (List.Mem.tail _ (List.Mem.tail _ (List.Mem.tail _ (List.Mem.head _)))))
  have f5 : 0 ≤ 1 + ((-1) * τ 19001 + 0) := hf _ (List.Mem.tail _ (List.Mem.tail _ (List.Mem.tail _ (List.Mem.tail _ (List.Mem.tail _ (List.Mem.head _))))))
  have f6 : 0 ≤ 0 + (1 * τ 19002 + 0) := hf _ (List.Mem.tail _ (List.Mem.tail _ (List.Mem.tail _ (List.Mem.tail _ (List.Mem.tail _ (List.Mem.tail _ (List.Mem.head _)))))))
  have f7 : 0 ≤ (-2) + (1 * τ 19003 + 0) := hf _ (List.Mem.tail _ (List.Mem.tail _ (List.Mem.tail _ (List.Mem.tail _ (List.Mem.tail _ (List.Mem.tail _ (List.Mem.tail _ (List.Mem.head _))))))))
  have f8 : 0 ≤ 2 + ((-1) * τ 19003 + 0) := hf _ (List.Mem.tail _ (List.Mem.tail _ (List.Mem.tail _ (List.Mem.tail _ (List.Mem.tail _ (List.Mem.tail _ (List.Mem.tail _ (List.Mem.tail _ (List.Mem.head _)))))))))
  have f9 : 0 ≤ 0 + (1 * τ 19004 + 0) := hf _ (List.Mem.tail _ (List.Mem.tail _ (List.Mem.tail _ (List.Mem.tail _ (List.Mem.tail _ (List.Mem.tail _ (List.Mem.tail _ (List.Mem.tail _ (List.Mem.tail _ (List.Mem.head _))))))))))
  have f10 : 0 ≤ 0 + (1 * τ 19005 + 0) := hf _ (List.Mem.tail _ (List.Mem.tail _ (List.Mem.tail _ (List.Mem.tail _ (List.Mem.tail _ (List.Mem.tail _ (List.Mem.tail _ (List.Mem.tail _ (List.Mem.tail _ (List.Mem.tail _ (List.Mem.head _)))))))))))
  have f11 : 0 ≤ (-1) + ((-1) * τ 18502 + (1 * τ 18503 + 0)) := hf _ (List.Mem.tail _ (List.Mem.tail _ (List.Mem.tail _ (List.Mem.tail _ (List.Mem.tail _ (List.Mem.tail _ (List.Mem.tail _ (List.Mem.tail _ (List.Mem.tail _ (List.Mem.tail _ (List.Mem.tail _ (List.Mem.head _))))))))))))
  clear hf hm
  have ej : a1 = 1 := by omega
  subst ej
  have ek : a3 = 2 := by omega
  subst ek
  simp only [lw_sel0, lw_sel1, lw_sel2, lw_sel3]
  refine Or.inr ⟨by omega, fun h => ?_⟩
  obtain ⟨z0, z1, z2, z3, z4, z5, z6, z7, z8, z9, z10, z11⟩ := h
  omega
theorem lw_pm_13 {as : List rv_A} {σ σ' : Nat → Int} {o : rv_O} {x : Int32} {a1 a2 a3 a4 a5 : Int} {τ : Nat → Int} (hx : o.1 = some (.inl x)) (h1 : lw_av as 1 = a1) (h2 : lw_av as 2 = a2) (h3 : lw_av as 3 = a3) (h4 : lw_av as 4 = a4) (h5 : lw_av as 5 = a5) (hb : ∀ s, (sx_sr s).1 ≤ σ s ∧ σ s ≤ (sx_sr s).2) (hW : lw_W ([], [(2, [(18502, (-1))]), ((-1), [(18503, 1)]), (0, [(18506, 1)]), (0, [(18507, 1)]), ((-2), [(19001, 1)]), (2, [(19001, (-1))]), (0, [(19002, 1)]), ((-1), [(19003, 1)]), (1, [(19003, (-1))]), (0, [(19004, 1)]), (0, [(19005, 1)]), ((-1), [(18502, (-1)), (18503, 1)])], [(12800, (8, []))], some (false, (0, []))) as σ σ' τ o) : lw_pm_C a1 a2 a3 a4 a5 x.toInt σ σ' := by
  unfold lw_pm_C
  have b18501 : 0 ≤ σ 18501 ∧ σ 18501 ≤ 3 := by
    have h0 := hb 18501
    rw [show sx_sr 18501 = (0, 3) from by decide +kernel] at h0
    exact h0
  have b18502 : 0 ≤ σ 18502 ∧ σ 18502 ≤ 3 := by
    have h0 := hb 18502
    rw [show sx_sr 18502 = (0, 3) from by decide +kernel] at h0
    exact h0
  have b18503 : 0 ≤ σ 18503 ∧ σ 18503 ≤ 3 := by
    have h0 := hb 18503
    rw [show sx_sr 18503 = (0, 3) from by decide +kernel] at h0
    exact h0
  have b18504 : 0 ≤ σ 18504 ∧ σ 18504 ≤ 3 := by
    have h0 := hb 18504
    rw [show sx_sr 18504 = (0, 3) from by decide +kernel] at h0
    exact h0
  have b18505 : (-1) ≤ σ 18505 ∧ σ 18505 ≤ 60 := by
    have h0 := hb 18505
    rw [show sx_sr 18505 = ((-1), 60) from by decide +kernel] at h0
    exact h0
  have b18506 : (-1) ≤ σ 18506 ∧ σ 18506 ≤ 60 := by
    have h0 := hb 18506
    rw [show sx_sr 18506 = ((-1), 60) from by decide +kernel] at h0
    exact h0
  have b18507 : (-1) ≤ σ 18507 ∧ σ 18507 ≤ 60 := by
    have h0 := hb 18507
    rw [show sx_sr 18507 = ((-1), 60) from by decide +kernel] at h0
    exact h0
  have b18508 : (-1) ≤ σ 18508 ∧ σ 18508 ≤ 60 := by
    have h0 := hb 18508
    rw [show sx_sr 18508 = ((-1), 60) from by decide +kernel] at h0
    exact h0
  obtain ⟨hs, ht, hf, hr, hm, hw⟩ := hW
  have e1 : τ 19001 = a1 := by rw [ht 19001 (by decide) (by decide)]; exact h1
  have e2 : τ 19002 = a2 := by rw [ht 19002 (by decide) (by decide)]; exact h2
  have e3 : τ 19003 = a3 := by rw [ht 19003 (by decide) (by decide)]; exact h3
  have e4 : τ 19004 = a4 := by rw [ht 19004 (by decide) (by decide)]; exact h4
  have e5 : τ 19005 = a5 := by rw [ht 19005 (by decide) (by decide)]; exact h5
  have s18501 : τ 18501 = σ 18501 := hs 18501 (by decide)
  have s18502 : τ 18502 = σ 18502 := hs 18502 (by decide)
  have s18503 : τ 18503 = σ 18503 := hs 18503 (by decide)
  have s18504 : τ 18504 = σ 18504 := hs 18504 (by decide)
  have s18505 : τ 18505 = σ 18505 := hs 18505 (by decide)
  have s18506 : τ 18506 = σ 18506 := hs 18506 (by decide)
  have s18507 : τ 18507 = σ 18507 := hs 18507 (by decide)
  have s18508 : τ 18508 = σ 18508 := hs 18508 (by decide)
  clear hs ht hb
  rw [hx] at hr
  obtain ⟨y, hy, hv⟩ := hr
  cases hy
  replace hv : x.toInt = 0 + 0 := hv
  have f0 : 0 ≤ 2 + ((-1) * τ 18502 + 0) := hf _ (List.Mem.head _)
  have f1 : 0 ≤ (-1) + (1 * τ 18503 + 0) := hf _ (List.Mem.tail _ (List.Mem.head _))
  have f2 : 0 ≤ 0 + (1 * τ 18506 + 0) := hf _ (List.Mem.tail _ (List.Mem.tail _ (List.Mem.head _)))
  have f3 : 0 ≤ 0 + (1 * τ 18507 + 0) := hf _ (List.Mem.tail _ (List.Mem.tail _ (List.Mem.tail _ (List.Mem.head _))))
  have f4 : 0 ≤ (-2) + (1 * τ 19001 + 0) := hf _ (List.Mem.tail _ (List.Mem.tail _ (List.Mem.tail _ (List.Mem.tail _ (List.Mem.head _)))))
  have f5 : 0 ≤ 2 + ((-1) * τ 19001 + 0) := hf _ (List.Mem.tail _ (List.Mem.tail _ (List.Mem.tail _ (List.Mem.tail _ (List.Mem.tail _ (List.Mem.head _))))))
  have f6 : 0 ≤ 0 + (1 * τ 19002 + 0) := hf _ (List.Mem.tail _ (List.Mem.tail _ (List.Mem.tail _ (List.Mem.tail _ (List.Mem.tail _ (List.Mem.tail _ (List.Mem.head _)))))))
  have f7 : 0 ≤ (-1) + (1 * τ 19003 + 0) := hf _ (List.Mem.tail _ (List.Mem.tail _ (List.Mem.tail _ (List.Mem.tail _ (List.Mem.tail _ (List.Mem.tail _ (List.Mem.tail _ (List.Mem.head _))))))))
  have f8 : 0 ≤ 1 + ((-1) * τ 19003 + 0) := hf _ (List.Mem.tail _ (List.Mem.tail _ (List.Mem.tail _ (List.Mem.tail _ (List.Mem.tail _ (List.Mem.tail _ (List.Mem.tail _ (List.Mem.tail _ (List.Mem.head _)))))))))
  have f9 : 0 ≤ 0 + (1 * τ 19004 + 0) := hf _ (List.Mem.tail _ (List.Mem.tail _ (List.Mem.tail _ (List.Mem.tail _ (List.Mem.tail _ (List.Mem.tail _ (List.Mem.tail _ (List.Mem.tail _ (List.Mem.tail _ (List.Mem.head _))))))))))
  have f10 : 0 ≤ 0 + (1 * τ 19005 + 0) := hf _ (List.Mem.tail _ (List.Mem.tail _ (List.Mem.tail _ (List.Mem.tail _ (List.Mem.tail _ (List.Mem.tail _ (List.Mem.tail _ (List.Mem.tail _ (List.Mem.tail _ (List.Mem.tail _ (List.Mem.head _)))))))))))
  have f11 : 0 ≤ (-1) + ((-1) * τ 18502 + (1 * τ 18503 + 0)) := hf _ (List.Mem.tail _ (List.Mem.tail _ (List.Mem.tail _ (List.Mem.tail _ (List.Mem.tail _ (List.Mem.tail _ (List.Mem.tail _ (List.Mem.tail _ (List.Mem.tail _ (List.Mem.tail _ (List.Mem.tail _ (List.Mem.head _))))))))))))
  clear hf hm
  have ej : a1 = 2 := by omega
  subst ej
  have ek : a3 = 1 := by omega
  subst ek
  simp only [lw_sel0, lw_sel1, lw_sel2, lw_sel3]
  refine Or.inr ⟨by omega, fun h => ?_⟩
  obtain ⟨z0, z1, z2, z3, z4, z5, z6, z7, z8, z9, z10, z11⟩ := h
  omega
theorem lw_pm_14 {as : List rv_A} {σ σ' : Nat → Int} {o : rv_O} {x : Int32} {a1 a2 a3 a4 a5 : Int} {τ : Nat → Int} (hx : o.1 = some (.inl x)) (h1 : lw_av as 1 = a1) (h2 : lw_av as 2 = a2) (h3 : lw_av as 3 = a3) (h4 : lw_av as 4 = a4) (h5 : lw_av as 5 = a5) (hb : ∀ s, (sx_sr s).1 ≤ σ s ∧ σ s ≤ (sx_sr s).2) (hW : lw_W ([], [(2, [(18502, (-1))]), ((-1), [(18504, 1)]), (0, [(18506, 1)]), (0, [(18508, 1)]), ((-1), [(19001, 1)]), (1, [(19001, (-1))]), (0, [(19002, 1)]), ((-3), [(19003, 1)]), (3, [(19003, (-1))]), (0, [(19004, 1)]), (0, [(19005, 1)]), ((-1), [(18502, (-1)), (18504, 1)])], [(12800, (8, []))], some (false, (0, []))) as σ σ' τ o) : lw_pm_C a1 a2 a3 a4 a5 x.toInt σ σ' := by
  unfold lw_pm_C
  have b18501 : 0 ≤ σ 18501 ∧ σ 18501 ≤ 3 := by
    have h0 := hb 18501
    rw [show sx_sr 18501 = (0, 3) from by decide +kernel] at h0
    exact h0
  have b18502 : 0 ≤ σ 18502 ∧ σ 18502 ≤ 3 := by
    have h0 := hb 18502
    rw [show sx_sr 18502 = (0, 3) from by decide +kernel] at h0
    exact h0
  have b18503 : 0 ≤ σ 18503 ∧ σ 18503 ≤ 3 := by
    have h0 := hb 18503
    rw [show sx_sr 18503 = (0, 3) from by decide +kernel] at h0
    exact h0
  have b18504 : 0 ≤ σ 18504 ∧ σ 18504 ≤ 3 := by
    have h0 := hb 18504
    rw [show sx_sr 18504 = (0, 3) from by decide +kernel] at h0
    exact h0
  have b18505 : (-1) ≤ σ 18505 ∧ σ 18505 ≤ 60 := by
    have h0 := hb 18505
    rw [show sx_sr 18505 = ((-1), 60) from by decide +kernel] at h0
    exact h0
  have b18506 : (-1) ≤ σ 18506 ∧ σ 18506 ≤ 60 := by
    have h0 := hb 18506
    rw [show sx_sr 18506 = ((-1), 60) from by decide +kernel] at h0
    exact h0
  have b18507 : (-1) ≤ σ 18507 ∧ σ 18507 ≤ 60 := by
    have h0 := hb 18507
    rw [show sx_sr 18507 = ((-1), 60) from by decide +kernel] at h0
    exact h0
  have b18508 : (-1) ≤ σ 18508 ∧ σ 18508 ≤ 60 := by
    have h0 := hb 18508
    rw [show sx_sr 18508 = ((-1), 60) from by decide +kernel] at h0
    exact h0
  obtain ⟨hs, ht, hf, hr, hm, hw⟩ := hW
  have e1 : τ 19001 = a1 := by rw [ht 19001 (by decide) (by decide)]; exact h1
  have e2 : τ 19002 = a2 := by rw [ht 19002 (by decide) (by decide)]; exact h2
  have e3 : τ 19003 = a3 := by rw [ht 19003 (by decide) (by decide)]; exact h3
  have e4 : τ 19004 = a4 := by rw [ht 19004 (by decide) (by decide)]; exact h4
  have e5 : τ 19005 = a5 := by rw [ht 19005 (by decide) (by decide)]; exact h5
  have s18501 : τ 18501 = σ 18501 := hs 18501 (by decide)
  have s18502 : τ 18502 = σ 18502 := hs 18502 (by decide)
  have s18503 : τ 18503 = σ 18503 := hs 18503 (by decide)
  have s18504 : τ 18504 = σ 18504 := hs 18504 (by decide)
  have s18505 : τ 18505 = σ 18505 := hs 18505 (by decide)
  have s18506 : τ 18506 = σ 18506 := hs 18506 (by decide)
  have s18507 : τ 18507 = σ 18507 := hs 18507 (by decide)
  have s18508 : τ 18508 = σ 18508 := hs 18508 (by decide)
  clear hs ht hb
  rw [hx] at hr
  obtain ⟨y, hy, hv⟩ := hr
  cases hy
  replace hv : x.toInt = 0 + 0 := hv
  have f0 : 0 ≤ 2 + ((-1) * τ 18502 + 0) := hf _ (List.Mem.head _)
  have f1 : 0 ≤ (-1) + (1 * τ 18504 + 0) := hf _ (List.Mem.tail _ (List.Mem.head _))
  have f2 : 0 ≤ 0 + (1 * τ 18506 + 0) := hf _ (List.Mem.tail _ (List.Mem.tail _ (List.Mem.head _)))
  have f3 : 0 ≤ 0 + (1 * τ 18508 + 0) := hf _ (List.Mem.tail _ (List.Mem.tail _ (List.Mem.tail _ (List.Mem.head _))))
  have f4 : 0 ≤ (-1) + (1 * τ 19001 + 0) := hf _ (List.Mem.tail _ (List.Mem.tail _ (List.Mem.tail _ (List.Mem.tail _ (List.Mem.head _)))))
  have f5 : 0 ≤ 1 + ((-1) * τ 19001 + 0) := hf _ (List.Mem.tail _ (List.Mem.tail _ (List.Mem.tail _ (List.Mem.tail _ (List.Mem.tail _ (List.Mem.head _))))))
  have f6 : 0 ≤ 0 + (1 * τ 19002 + 0) := hf _ (List.Mem.tail _ (List.Mem.tail _ (List.Mem.tail _ (List.Mem.tail _ (List.Mem.tail _ (List.Mem.tail _ (List.Mem.head _)))))))
  have f7 : 0 ≤ (-3) + (1 * τ 19003 + 0) := hf _ (List.Mem.tail _ (List.Mem.tail _ (List.Mem.tail _ (List.Mem.tail _ (List.Mem.tail _ (List.Mem.tail _ (List.Mem.tail _ (List.Mem.head _))))))))
  have f8 : 0 ≤ 3 + ((-1) * τ 19003 + 0) := hf _ (List.Mem.tail _ (List.Mem.tail _ (List.Mem.tail _ (List.Mem.tail _ (List.Mem.tail _ (List.Mem.tail _ (List.Mem.tail _ (List.Mem.tail _ (List.Mem.head _)))))))))
  have f9 : 0 ≤ 0 + (1 * τ 19004 + 0) := hf _ (List.Mem.tail _ (List.Mem.tail _ (List.Mem.tail _ (List.Mem.tail _ (List.Mem.tail _ (List.Mem.tail _ (List.Mem.tail _ (List.Mem.tail _ (List.Mem.tail _ (List.Mem.head _))))))))))
  have f10 : 0 ≤ 0 + (1 * τ 19005 + 0) := hf _ (List.Mem.tail _ (List.Mem.tail _ (List.Mem.tail _ (List.Mem.tail _ (List.Mem.tail _ (List.Mem.tail _ (List.Mem.tail _ (List.Mem.tail _ (List.Mem.tail _ (List.Mem.tail _ (List.Mem.head _)))))))))))
  have f11 : 0 ≤ (-1) + ((-1) * τ 18502 + (1 * τ 18504 + 0)) := hf _ (List.Mem.tail _ (List.Mem.tail _ (List.Mem.tail _ (List.Mem.tail _ (List.Mem.tail _ (List.Mem.tail _ (List.Mem.tail _ (List.Mem.tail _ (List.Mem.tail _ (List.Mem.tail _ (List.Mem.tail _ (List.Mem.head _))))))))))))
  clear hf hm
  have ej : a1 = 1 := by omega
  subst ej
  have ek : a3 = 3 := by omega
  subst ek
  simp only [lw_sel0, lw_sel1, lw_sel2, lw_sel3]
  refine Or.inr ⟨by omega, fun h => ?_⟩
  obtain ⟨z0, z1, z2, z3, z4, z5, z6, z7, z8, z9, z10, z11⟩ := h
  omega
theorem lw_pm_15 {as : List rv_A} {σ σ' : Nat → Int} {o : rv_O} {x : Int32} {a1 a2 a3 a4 a5 : Int} {τ : Nat → Int} (hx : o.1 = some (.inl x)) (h1 : lw_av as 1 = a1) (h2 : lw_av as 2 = a2) (h3 : lw_av as 3 = a3) (h4 : lw_av as 4 = a4) (h5 : lw_av as 5 = a5) (hb : ∀ s, (sx_sr s).1 ≤ σ s ∧ σ s ≤ (sx_sr s).2) (hW : lw_W ([], [(2, [(18502, (-1))]), ((-1), [(18504, 1)]), (0, [(18506, 1)]), (0, [(18508, 1)]), ((-3), [(19001, 1)]), (3, [(19001, (-1))]), (0, [(19002, 1)]), ((-1), [(19003, 1)]), (1, [(19003, (-1))]), (0, [(19004, 1)]), (0, [(19005, 1)]), ((-1), [(18502, (-1)), (18504, 1)])], [(12800, (8, []))], some (false, (0, []))) as σ σ' τ o) : lw_pm_C a1 a2 a3 a4 a5 x.toInt σ σ' := by
  unfold lw_pm_C
  have b18501 : 0 ≤ σ 18501 ∧ σ 18501 ≤ 3 := by
    have h0 := hb 18501
    rw [show sx_sr 18501 = (0, 3) from by decide +kernel] at h0
    exact h0
  have b18502 : 0 ≤ σ 18502 ∧ σ 18502 ≤ 3 := by
    have h0 := hb 18502
    rw [show sx_sr 18502 = (0, 3) from by decide +kernel] at h0
    exact h0
  have b18503 : 0 ≤ σ 18503 ∧ σ 18503 ≤ 3 := by
    have h0 := hb 18503
    rw [show sx_sr 18503 = (0, 3) from by decide +kernel] at h0
    exact h0
  have b18504 : 0 ≤ σ 18504 ∧ σ 18504 ≤ 3 := by
    have h0 := hb 18504
    rw [show sx_sr 18504 = (0, 3) from by decide +kernel] at h0
    exact h0
  have b18505 : (-1) ≤ σ 18505 ∧ σ 18505 ≤ 60 := by
    have h0 := hb 18505
    rw [show sx_sr 18505 = ((-1), 60) from by decide +kernel] at h0
    exact h0
  have b18506 : (-1) ≤ σ 18506 ∧ σ 18506 ≤ 60 := by
    have h0 := hb 18506
    rw [show sx_sr 18506 = ((-1), 60) from by decide +kernel] at h0
    exact h0
  have b18507 : (-1) ≤ σ 18507 ∧ σ 18507 ≤ 60 := by
    have h0 := hb 18507
    rw [show sx_sr 18507 = ((-1), 60) from by decide +kernel] at h0
    exact h0
  have b18508 : (-1) ≤ σ 18508 ∧ σ 18508 ≤ 60 := by
    have h0 := hb 18508
    rw [show sx_sr 18508 = ((-1), 60) from by decide +kernel] at h0
    exact h0
  obtain ⟨hs, ht, hf, hr, hm, hw⟩ := hW
  have e1 : τ 19001 = a1 := by rw [ht 19001 (by decide) (by decide)]; exact h1
  have e2 : τ 19002 = a2 := by rw [ht 19002 (by decide) (by decide)]; exact h2
  have e3 : τ 19003 = a3 := by rw [ht 19003 (by decide) (by decide)]; exact h3
  have e4 : τ 19004 = a4 := by rw [ht 19004 (by decide) (by decide)]; exact h4
  have e5 : τ 19005 = a5 := by rw [ht 19005 (by decide) (by decide)]; exact h5
  have s18501 : τ 18501 = σ 18501 := hs 18501 (by decide)
  have s18502 : τ 18502 = σ 18502 := hs 18502 (by decide)
  have s18503 : τ 18503 = σ 18503 := hs 18503 (by decide)
  have s18504 : τ 18504 = σ 18504 := hs 18504 (by decide)
  have s18505 : τ 18505 = σ 18505 := hs 18505 (by decide)
  have s18506 : τ 18506 = σ 18506 := hs 18506 (by decide)
  have s18507 : τ 18507 = σ 18507 := hs 18507 (by decide)
  have s18508 : τ 18508 = σ 18508 := hs 18508 (by decide)
  clear hs ht hb
  rw [hx] at hr
  obtain ⟨y, hy, hv⟩ := hr
  cases hy
  replace hv : x.toInt = 0 + 0 := hv
  have f0 : 0 ≤ 2 + ((-1) * τ 18502 + 0) := hf _ (List.Mem.head _)
  have f1 : 0 ≤ (-1) + (1 * τ 18504 + 0) := hf _ (List.Mem.tail _ (List.Mem.head _))
  have f2 : 0 ≤ 0 + (1 * τ 18506 + 0) := hf _ (List.Mem.tail _ (List.Mem.tail _ (List.Mem.head _)))
  have f3 : 0 ≤ 0 + (1 * τ 18508 + 0) := hf _ (List.Mem.tail _ (List.Mem.tail _ (List.Mem.tail _ (List.Mem.head _))))
  have f4 : 0 ≤ (-3) + (1 * τ 19001 + 0) := hf _ (List.Mem.tail _ (List.Mem.tail _ (List.Mem.tail _ (List.Mem.tail _ (List.Mem.head _)))))
  have f5 : 0 ≤ 3 + ((-1) * τ 19001 + 0) := hf _ (List.Mem.tail _ (List.Mem.tail _ (List.Mem.tail _ (List.Mem.tail _ (List.Mem.tail _ (List.Mem.head _))))))
  have f6 : 0 ≤ 0 + (1 * τ 19002 + 0) := hf _ (List.Mem.tail _ (List.Mem.tail _ (List.Mem.tail _ (List.Mem.tail _ (List.Mem.tail _ (List.Mem.tail _ (List.Mem.head _)))))))
  have f7 : 0 ≤ (-1) + (1 * τ 19003 + 0) := hf _ (List.Mem.tail _ (List.Mem.tail _ (List.Mem.tail _ (List.Mem.tail _ (List.Mem.tail _ (List.Mem.tail _ (List.Mem.tail _ (List.Mem.head _))))))))
  have f8 : 0 ≤ 1 + ((-1) * τ 19003 + 0) := hf _ (List.Mem.tail _ (List.Mem.tail _ (List.Mem.tail _ (List.Mem.tail _ (List.Mem.tail _ (List.Mem.tail _ (List.Mem.tail _ (List.Mem.tail _ (List.Mem.head _)))))))))
  have f9 : 0 ≤ 0 + (1 * τ 19004 + 0) := hf _ (List.Mem.tail _ (List.Mem.tail _ (List.Mem.tail _ (List.Mem.tail _ (List.Mem.tail _ (List.Mem.tail _ (List.Mem.tail _ (List.Mem.tail _ (List.Mem.tail _ (List.Mem.head _))))))))))
  have f10 : 0 ≤ 0 + (1 * τ 19005 + 0) := hf _ (List.Mem.tail _ (List.Mem.tail _ (List.Mem.tail _ (List.Mem.tail _ (List.Mem.tail _ (List.Mem.tail _ (List.Mem.tail _ (List.Mem.tail _ (List.Mem.tail _ (List.Mem.tail _ (List.Mem.head _)))))))))))
  have f11 : 0 ≤ (-1) + ((-1) * τ 18502 + (1 * τ 18504 + 0)) := hf _ (List.Mem.tail _ (List.Mem.tail _ (List.Mem.tail _ (List.Mem.tail _ (List.Mem.tail _ (List.Mem.tail _ (List.Mem.tail _ (List.Mem.tail _ (List.Mem.tail _ (List.Mem.tail _ (List.Mem.tail _ (List.Mem.head _))))))))))))
  clear hf hm
  have ej : a1 = 3 := by omega
  subst ej
  have ek : a3 = 1 := by omega
  subst ek
  simp only [lw_sel0, lw_sel1, lw_sel2, lw_sel3]
  refine Or.inr ⟨by omega, fun h => ?_⟩
  obtain ⟨z0, z1, z2, z3, z4, z5, z6, z7, z8, z9, z10, z11⟩ := h
  omega
theorem lw_pm_16 {as : List rv_A} {σ σ' : Nat → Int} {o : rv_O} {x : Int32} {a1 a2 a3 a4 a5 : Int} {τ : Nat → Int} (hx : o.1 = some (.inl x)) (h1 : lw_av as 1 = a1) (h2 : lw_av as 2 = a2) (h3 : lw_av as 3 = a3) (h4 : lw_av as 4 = a4) (h5 : lw_av as 5 = a5) (hb : ∀ s, (sx_sr s).1 ≤ σ s ∧ σ s ≤ (sx_sr s).2) (hW : lw_W ([], [((-1), [(18502, 1)]), (2, [(18503, (-1))]), (0, [(18506, 1)]), (0, [(18507, 1)]), ((-1), [(19001, 1)]), (1, [(19001, (-1))]), (0, [(19002, 1)]), ((-2), [(19003, 1)]), (2, [(19003, (-1))]), (0, [(19004, 1)]), (0, [(19005, 1)]), ((-1), [(18502, 1), (18503, (-1))])], [(12800, (8, []))], some (false, (0, []))) as σ σ' τ o) : lw_pm_C a1 a2 a3 a4 a5 x.toInt σ σ' := by
  unfold lw_pm_C
  have b18501 : 0 ≤ σ 18501 ∧ σ 18501 ≤ 3 := by
    have h0 := hb 18501
    rw [show sx_sr 18501 = (0, 3) from by decide +kernel] at h0
    exact h0
  have b18502 : 0 ≤ σ 18502 ∧ σ 18502 ≤ 3 := by
    have h0 := hb 18502
    rw [show sx_sr 18502 = (0, 3) from by decide +kernel] at h0
    exact h0
  have b18503 : 0 ≤ σ 18503 ∧ σ 18503 ≤ 3 := by
    have h0 := hb 18503
    rw [show sx_sr 18503 = (0, 3) from by decide +kernel] at h0
    exact h0
  have b18504 : 0 ≤ σ 18504 ∧ σ 18504 ≤ 3 := by
    have h0 := hb 18504
    rw [show sx_sr 18504 = (0, 3) from by decide +kernel] at h0
    exact h0
  have b18505 : (-1) ≤ σ 18505 ∧ σ 18505 ≤ 60 := by
    have h0 := hb 18505
    rw [show sx_sr 18505 = ((-1), 60) from by decide +kernel] at h0
    exact h0
  have b18506 : (-1) ≤ σ 18506 ∧ σ 18506 ≤ 60 := by
    have h0 := hb 18506
    rw [show sx_sr 18506 = ((-1), 60) from by decide +kernel] at h0
    exact h0
  have b18507 : (-1) ≤ σ 18507 ∧ σ 18507 ≤ 60 := by
    have h0 := hb 18507
    rw [show sx_sr 18507 = ((-1), 60) from by decide +kernel] at h0
    exact h0
  have b18508 : (-1) ≤ σ 18508 ∧ σ 18508 ≤ 60 := by
    have h0 := hb 18508
    rw [show sx_sr 18508 = ((-1), 60) from by decide +kernel] at h0
    exact h0
  obtain ⟨hs, ht, hf, hr, hm, hw⟩ := hW
  have e1 : τ 19001 = a1 := by rw [ht 19001 (by decide) (by decide)]; exact h1
  have e2 : τ 19002 = a2 := by rw [ht 19002 (by decide) (by decide)]; exact h2
  have e3 : τ 19003 = a3 := by rw [ht 19003 (by decide) (by decide)]; exact h3
  have e4 : τ 19004 = a4 := by rw [ht 19004 (by decide) (by decide)]; exact h4
  have e5 : τ 19005 = a5 := by rw [ht 19005 (by decide) (by decide)]; exact h5
  have s18501 : τ 18501 = σ 18501 := hs 18501 (by decide)
  have s18502 : τ 18502 = σ 18502 := hs 18502 (by decide)
  have s18503 : τ 18503 = σ 18503 := hs 18503 (by decide)
  have s18504 : τ 18504 = σ 18504 := hs 18504 (by decide)
  have s18505 : τ 18505 = σ 18505 := hs 18505 (by decide)
  have s18506 : τ 18506 = σ 18506 := hs 18506 (by decide)
  have s18507 : τ 18507 = σ 18507 := hs 18507 (by decide)
  have s18508 : τ 18508 = σ 18508 := hs 18508 (by decide)
  clear hs ht hb
  rw [hx] at hr
  obtain ⟨y, hy, hv⟩ := hr
  cases hy
  replace hv : x.toInt = 0 + 0 := hv
  have f0 : 0 ≤ (-1) + (1 * τ 18502 + 0) := hf _ (List.Mem.head _)
  have f1 : 0 ≤ 2 + ((-1) * τ 18503 + 0) := hf _ (List.Mem.tail _ (List.Mem.head _))
  have f2 : 0 ≤ 0 + (1 * τ 18506 + 0) := hf _ (List.Mem.tail _ (List.Mem.tail _ (List.Mem.head _)))
  have f3 : 0 ≤ 0 + (1 * τ 18507 + 0) := hf _ (List.Mem.tail _ (List.Mem.tail _ (List.Mem.tail _ (List.Mem.head _))))
  have f4 : 0 ≤ (-1) + (1 * τ 19001 + 0) := hf _ (List.Mem.tail _ (List.Mem.tail _ (List.Mem.tail _ (List.Mem.tail _ (List.Mem.head _)))))
  have f5 : 0 ≤ 1 + ((-1) * τ 19001 + 0) := hf _ (List.Mem.tail _ (List.Mem.tail _ (List.Mem.tail _ (List.Mem.tail _ (List.Mem.tail _ (List.Mem.head _))))))
  have f6 : 0 ≤ 0 + (1 * τ 19002 + 0) := hf _ (List.Mem.tail _ (List.Mem.tail _ (List.Mem.tail _ (List.Mem.tail _ (List.Mem.tail _ (List.Mem.tail _ (List.Mem.head _)))))))
  have f7 : 0 ≤ (-2) + (1 * τ 19003 + 0) := hf _ (List.Mem.tail _ (List.Mem.tail _ (List.Mem.tail _ (List.Mem.tail _ (List.Mem.tail _ (List.Mem.tail _ (List.Mem.tail _ (List.Mem.head _))))))))
  have f8 : 0 ≤ 2 + ((-1) * τ 19003 + 0) := hf _ (List.Mem.tail _ (List.Mem.tail _ (List.Mem.tail _ (List.Mem.tail _ (List.Mem.tail _ (List.Mem.tail _ (List.Mem.tail _ (List.Mem.tail _ (List.Mem.head _)))))))))
  have f9 : 0 ≤ 0 + (1 * τ 19004 + 0) := hf _ (List.Mem.tail _ (List.Mem.tail _ (List.Mem.tail _ (List.Mem.tail _ (List.Mem.tail _ (List.Mem.tail _ (List.Mem.tail _ (List.Mem.tail _ (List.Mem.tail _ (List.Mem.head _))))))))))
  have f10 : 0 ≤ 0 + (1 * τ 19005 + 0) := hf _ (List.Mem.tail _ (List.Mem.tail _ (List.Mem.tail _ (List.Mem.tail _ (List.Mem.tail _ (List.Mem.tail _ (List.Mem.tail _ (List.Mem.tail _ (List.Mem.tail _ (List.Mem.tail _ (List.Mem.head _)))))))))))
  have f11 : 0 ≤ (-1) + (1 * τ 18502 + ((-1) * τ 18503 + 0)) := hf _ (List.Mem.tail _ (List.Mem.tail _ (List.Mem.tail _ (List.Mem.tail _ (List.Mem.tail _ (List.Mem.tail _ (List.Mem.tail _ (List.Mem.tail _ (List.Mem.tail _ (List.Mem.tail _ (List.Mem.tail _ (List.Mem.head _))))))))))))
  clear hf hm
  have ej : a1 = 1 := by omega
  subst ej
  have ek : a3 = 2 := by omega
  subst ek
  simp only [lw_sel0, lw_sel1, lw_sel2, lw_sel3]
  refine Or.inr ⟨by omega, fun h => ?_⟩
  obtain ⟨z0, z1, z2, z3, z4, z5, z6, z7, z8, z9, z10, z11⟩ := h
  omega
theorem lw_pm_17 {as : List rv_A} {σ σ' : Nat → Int} {o : rv_O} {x : Int32} {a1 a2 a3 a4 a5 : Int} {τ : Nat → Int} (hx : o.1 = some (.inl x)) (h1 : lw_av as 1 = a1) (h2 : lw_av as 2 = a2) (h3 : lw_av as 3 = a3) (h4 : lw_av as 4 = a4) (h5 : lw_av as 5 = a5) (hb : ∀ s, (sx_sr s).1 ≤ σ s ∧ σ s ≤ (sx_sr s).2) (hW : lw_W ([], [((-1), [(18502, 1)]), (2, [(18503, (-1))]), (0, [(18506, 1)]), (0, [(18507, 1)]), ((-2), [(19001, 1)]), (2, [(19001, (-1))]), (0, [(19002, 1)]), ((-1), [(19003, 1)]), (1, [(19003, (-1))]), (0, [(19004, 1)]), (0, [(19005, 1)]), ((-1), [(18502, 1), (18503, (-1))])], [(12800, (8, []))], some (false, (0, []))) as σ σ' τ o) : lw_pm_C a1 a2 a3 a4 a5 x.toInt σ σ' := by
  unfold lw_pm_C
  have b18501 : 0 ≤ σ 18501 ∧ σ 18501 ≤ 3 := by
    have h0 := hb 18501
    rw [show sx_sr 18501 = (0, 3) from by decide +kernel] at h0
    exact h0
  have b18502 : 0 ≤ σ 18502 ∧ σ 18502 ≤ 3 := by
    have h0 := hb 18502
    rw [show sx_sr 18502 = (0, 3) from by decide +kernel] at h0
    exact h0
  have b18503 : 0 ≤ σ 18503 ∧ σ 18503 ≤ 3 := by
    have h0 := hb 18503
    rw [show sx_sr 18503 = (0, 3) from by decide +kernel] at h0
    exact h0
  have b18504 : 0 ≤ σ 18504 ∧ σ 18504 ≤ 3 := by
    have h0 := hb 18504
    rw [show sx_sr 18504 = (0, 3) from by decide +kernel] at h0
    exact h0
  have b18505 : (-1) ≤ σ 18505 ∧ σ 18505 ≤ 60 := by
    have h0 := hb 18505
    rw [show sx_sr 18505 = ((-1), 60) from by decide +kernel] at h0
    exact h0
  have b18506 : (-1) ≤ σ 18506 ∧ σ 18506 ≤ 60 := by
    have h0 := hb 18506
    rw [show sx_sr 18506 = ((-1), 60) from by decide +kernel] at h0
    exact h0
  have b18507 : (-1) ≤ σ 18507 ∧ σ 18507 ≤ 60 := by
    have h0 := hb 18507
    rw [show sx_sr 18507 = ((-1), 60) from by decide +kernel] at h0
    exact h0
  have b18508 : (-1) ≤ σ 18508 ∧ σ 18508 ≤ 60 := by
    have h0 := hb 18508
    rw [show sx_sr 18508 = ((-1), 60) from by decide +kernel] at h0
    exact h0
  obtain ⟨hs, ht, hf, hr, hm, hw⟩ := hW
  have e1 : τ 19001 = a1 := by rw [ht 19001 (by decide) (by decide)]; exact h1
  have e2 : τ 19002 = a2 := by rw [ht 19002 (by decide) (by decide)]; exact h2
  have e3 : τ 19003 = a3 := by rw [ht 19003 (by decide) (by decide)]; exact h3
  have e4 : τ 19004 = a4 := by rw [ht 19004 (by decide) (by decide)]; exact h4
  have e5 : τ 19005 = a5 := by rw [ht 19005 (by decide) (by decide)]; exact h5
  have s18501 : τ 18501 = σ 18501 := hs 18501 (by decide)
  have s18502 : τ 18502 = σ 18502 := hs 18502 (by decide)
  have s18503 : τ 18503 = σ 18503 := hs 18503 (by decide)
  have s18504 : τ 18504 = σ 18504 := hs 18504 (by decide)
  have s18505 : τ 18505 = σ 18505 := hs 18505 (by decide)
  have s18506 : τ 18506 = σ 18506 := hs 18506 (by decide)
  have s18507 : τ 18507 = σ 18507 := hs 18507 (by decide)
  have s18508 : τ 18508 = σ 18508 := hs 18508 (by decide)
  clear hs ht hb
  rw [hx] at hr
  obtain ⟨y, hy, hv⟩ := hr
  cases hy
  replace hv : x.toInt = 0 + 0 := hv
  have f0 : 0 ≤ (-1) + (1 * τ 18502 + 0) := hf _ (List.Mem.head _)
  have f1 : 0 ≤ 2 + ((-1) * τ 18503 + 0) := hf _ (List.Mem.tail _ (List.Mem.head _))
  have f2 : 0 ≤ 0 + (1 * τ 18506 + 0) := hf _ (List.Mem.tail _ (List.Mem.tail _ (List.Mem.head _)))
  have f3 : 0 ≤ 0 + (1 * τ 18507 + 0) := hf _ (List.Mem.tail _ (List.Mem.tail _ (List.Mem.tail _ (List.Mem.head _))))
  have f4 : 0 ≤ (-2) + (1 * τ 19001 + 0) := hf _ (List.Mem.tail _ (List.Mem.tail _ (List.Mem.tail _ (List.Mem.tail _ (List.Mem.head _)))))
  have f5 : 0 ≤ 2 + ((-1) * τ 19001 + 0) := hf _ (List.Mem.tail _ (List.Mem.tail _ (List.Mem.tail _ (List.Mem.tail _ (List.Mem.tail _ (List.Mem.head _))))))
  have f6 : 0 ≤ 0 + (1 * τ 19002 + 0) := hf _ (List.Mem.tail _ (List.Mem.tail _ (List.Mem.tail _ (List.Mem.tail _ (List.Mem.tail _ (List.Mem.tail _ (List.Mem.head _)))))))
  have f7 : 0 ≤ (-1) + (1 * τ 19003 + 0) := hf _ (List.Mem.tail _ (List.Mem.tail _ (List.Mem.tail _ (List.Mem.tail _ (List.Mem.tail _ (List.Mem.tail _ (List.Mem.tail _ (List.Mem.head _))))))))
  have f8 : 0 ≤ 1 + ((-1) * τ 19003 + 0) := hf _ (List.Mem.tail _ (List.Mem.tail _ (List.Mem.tail _ (List.Mem.tail _ (List.Mem.tail _ (List.Mem.tail _ (List.Mem.tail _ (List.Mem.tail _ (List.Mem.head _)))))))))
  have f9 : 0 ≤ 0 + (1 * τ 19004 + 0) := hf _ (List.Mem.tail _ (List.Mem.tail _ (List.Mem.tail _ (List.Mem.tail _ (List.Mem.tail _ (List.Mem.tail _ (List.Mem.tail _ (List.Mem.tail _ (List.Mem.tail _ (List.Mem.head _))))))))))
  have f10 : 0 ≤ 0 + (1 * τ 19005 + 0) := hf _ (List.Mem.tail _ (List.Mem.tail _ (List.Mem.tail _ (List.Mem.tail _ (List.Mem.tail _ (List.Mem.tail _ (List.Mem.tail _ (List.Mem.tail _ (List.Mem.tail _ (List.Mem.tail _ (List.Mem.head _)))))))))))
  have f11 : 0 ≤ (-1) + (1 * τ 18502 + ((-1) * τ 18503 + 0)) := hf _ (List.Mem.tail _ (List.Mem.tail _ (List.Mem.tail _ (List.Mem.tail _ (List.Mem.tail _ (List.Mem.tail _ (List.Mem.tail _ (List.Mem.tail _ (List.Mem.tail _ (List.Mem.tail _ (List.Mem.tail _ (List.Mem.head _))))))))))))
  clear hf hm
  have ej : a1 = 2 := by omega
  subst ej
  have ek : a3 = 1 := by omega
  subst ek
  simp only [lw_sel0, lw_sel1, lw_sel2, lw_sel3]
  refine Or.inr ⟨by omega, fun h => ?_⟩
  obtain ⟨z0, z1, z2, z3, z4, z5, z6, z7, z8, z9, z10, z11⟩ := h
  omega
theorem lw_pm_18 {as : List rv_A} {σ σ' : Nat → Int} {o : rv_O} {x : Int32} {a1 a2 a3 a4 a5 : Int} {τ : Nat → Int} (hx : o.1 = some (.inl x)) (h1 : lw_av as 1 = a1) (h2 : lw_av as 2 = a2) (h3 : lw_av as 3 = a3) (h4 : lw_av as 4 = a4) (h5 : lw_av as 5 = a5) (hb : ∀ s, (sx_sr s).1 ≤ σ s ∧ σ s ≤ (sx_sr s).2) (hW : lw_W ([], [((-1), [(18502, 1)]), (2, [(18504, (-1))]), (0, [(18506, 1)]), (0, [(18508, 1)]), ((-1), [(19001, 1)]), (1, [(19001, (-1))]), (0, [(19002, 1)]), ((-3), [(19003, 1)]), (3, [(19003, (-1))]), (0, [(19004, 1)]), (0, [(19005, 1)]), ((-1), [(18502, 1), (18504, (-1))])], [(12800, (8, []))], some (false, (0, []))) as σ σ' τ o) : lw_pm_C a1 a2 a3 a4 a5 x.toInt σ σ' := by
  unfold lw_pm_C
  have b18501 : 0 ≤ σ 18501 ∧ σ 18501 ≤ 3 := by
    have h0 := hb 18501
    rw [show sx_sr 18501 = (0, 3) from by decide +kernel] at h0
    exact h0
  have b18502 : 0 ≤ σ 18502 ∧ σ 18502 ≤ 3 := by
    have h0 := hb 18502
    rw [show sx_sr 18502 = (0, 3) from by decide +kernel] at h0
    exact h0
  have b18503 : 0 ≤ σ 18503 ∧ σ 18503 ≤ 3 := by
    have h0 := hb 18503
    rw [show sx_sr 18503 = (0, 3) from by decide +kernel] at h0
    exact h0
  have b18504 : 0 ≤ σ 18504 ∧ σ 18504 ≤ 3 := by
    have h0 := hb 18504
    rw [show sx_sr 18504 = (0, 3) from by decide +kernel] at h0
    exact h0
  have b18505 : (-1) ≤ σ 18505 ∧ σ 18505 ≤ 60 := by
    have h0 := hb 18505
    rw [show sx_sr 18505 = ((-1), 60) from by decide +kernel] at h0
    exact h0
  have b18506 : (-1) ≤ σ 18506 ∧ σ 18506 ≤ 60 := by
    have h0 := hb 18506
    rw [show sx_sr 18506 = ((-1), 60) from by decide +kernel] at h0
    exact h0
  have b18507 : (-1) ≤ σ 18507 ∧ σ 18507 ≤ 60 := by
    have h0 := hb 18507
    rw [show sx_sr 18507 = ((-1), 60) from by decide +kernel] at h0
    exact h0
  have b18508 : (-1) ≤ σ 18508 ∧ σ 18508 ≤ 60 := by
    have h0 := hb 18508
    rw [show sx_sr 18508 = ((-1), 60) from by decide +kernel] at h0
    exact h0
  obtain ⟨hs, ht, hf, hr, hm, hw⟩ := hW
  have e1 : τ 19001 = a1 := by rw [ht 19001 (by decide) (by decide)]; exact h1
  have e2 : τ 19002 = a2 := by rw [ht 19002 (by decide) (by decide)]; exact h2
  have e3 : τ 19003 = a3 := by rw [ht 19003 (by decide) (by decide)]; exact h3
  have e4 : τ 19004 = a4 := by rw [ht 19004 (by decide) (by decide)]; exact h4
  have e5 : τ 19005 = a5 := by rw [ht 19005 (by decide) (by decide)]; exact h5
  have s18501 : τ 18501 = σ 18501 := hs 18501 (by decide)
  have s18502 : τ 18502 = σ 18502 := hs 18502 (by decide)
  have s18503 : τ 18503 = σ 18503 := hs 18503 (by decide)
  have s18504 : τ 18504 = σ 18504 := hs 18504 (by decide)
  have s18505 : τ 18505 = σ 18505 := hs 18505 (by decide)
  have s18506 : τ 18506 = σ 18506 := hs 18506 (by decide)
  have s18507 : τ 18507 = σ 18507 := hs 18507 (by decide)
  have s18508 : τ 18508 = σ 18508 := hs 18508 (by decide)
  clear hs ht hb
  rw [hx] at hr
  obtain ⟨y, hy, hv⟩ := hr
  cases hy
  replace hv : x.toInt = 0 + 0 := hv
  have f0 : 0 ≤ (-1) + (1 * τ 18502 + 0) := hf _ (List.Mem.head _)
  have f1 : 0 ≤ 2 + ((-1) * τ 18504 + 0) := hf _ (List.Mem.tail _ (List.Mem.head _))
  have f2 : 0 ≤ 0 + (1 * τ 18506 + 0) := hf _ (List.Mem.tail _ (List.Mem.tail _ (List.Mem.head _)))
  have f3 : 0 ≤ 0 + (1 * τ 18508 + 0) := hf _ (List.Mem.tail _ (List.Mem.tail _ (List.Mem.tail _ (List.Mem.head _))))
  have f4 : 0 ≤ (-1) + (1 * τ 19001 + 0) := hf _ (List.Mem.tail _ (List.Mem.tail _ (List.Mem.tail _ (List.Mem.tail _ (List.Mem.head _)))))
  have f5 : 0 ≤ 1 + ((-1) * τ 19001 + 0) := hf _ (List.Mem.tail _ (List.Mem.tail _ (List.Mem.tail _ (List.Mem.tail _ (List.Mem.tail _ (List.Mem.head _))))))
  have f6 : 0 ≤ 0 + (1 * τ 19002 + 0) := hf _ (List.Mem.tail _ (List.Mem.tail _ (List.Mem.tail _ (List.Mem.tail _ (List.Mem.tail _ (List.Mem.tail _ (List.Mem.head _)))))))
  have f7 : 0 ≤ (-3) + (1 * τ 19003 + 0) := hf _ (List.Mem.tail _ (List.Mem.tail _ (List.Mem.tail _ (List.Mem.tail _ (List.Mem.tail _ (List.Mem.tail _ (List.Mem.tail _ (List.Mem.head _))))))))
  have f8 : 0 ≤ 3 + ((-1) * τ 19003 + 0) := hf _ (List.Mem.tail _ (List.Mem.tail _ (List.Mem.tail _ (List.Mem.tail _ (List.Mem.tail _ (List.Mem.tail _ (List.Mem.tail _ (List.Mem.tail _ (List.Mem.head _)))))))))
  have f9 : 0 ≤ 0 + (1 * τ 19004 + 0) := hf _ (List.Mem.tail _ (List.Mem.tail _ (List.Mem.tail _ (List.Mem.tail _ (List.Mem.tail _ (List.Mem.tail _ (List.Mem.tail _ (List.Mem.tail _ (List.Mem.tail _ (List.Mem.head _))))))))))
  have f10 : 0 ≤ 0 + (1 * τ 19005 + 0) := hf _ (List.Mem.tail _ (List.Mem.tail _ (List.Mem.tail _ (List.Mem.tail _ (List.Mem.tail _ (List.Mem.tail _ (List.Mem.tail _ (List.Mem.tail _ (List.Mem.tail _ (List.Mem.tail _ (List.Mem.head _)))))))))))
  have f11 : 0 ≤ (-1) + (1 * τ 18502 + ((-1) * τ 18504 + 0)) := hf _ (List.Mem.tail _ (List.Mem.tail _ (List.Mem.tail _ (List.Mem.tail _ (List.Mem.tail _ (List.Mem.tail _ (List.Mem.tail _ (List.Mem.tail _ (List.Mem.tail _ (List.Mem.tail _ (List.Mem.tail _ (List.Mem.head _))))))))))))
  clear hf hm
  have ej : a1 = 1 := by omega
  subst ej
  have ek : a3 = 3 := by omega
  subst ek
  simp only [lw_sel0, lw_sel1, lw_sel2, lw_sel3]
  refine Or.inr ⟨by omega, fun h => ?_⟩
  obtain ⟨z0, z1, z2, z3, z4, z5, z6, z7, z8, z9, z10, z11⟩ := h
  omega
theorem lw_pm_19 {as : List rv_A} {σ σ' : Nat → Int} {o : rv_O} {x : Int32} {a1 a2 a3 a4 a5 : Int} {τ : Nat → Int} (hx : o.1 = some (.inl x)) (h1 : lw_av as 1 = a1) (h2 : lw_av as 2 = a2) (h3 : lw_av as 3 = a3) (h4 : lw_av as 4 = a4) (h5 : lw_av as 5 = a5) (hb : ∀ s, (sx_sr s).1 ≤ σ s ∧ σ s ≤ (sx_sr s).2) (hW : lw_W ([], [((-1), [(18502, 1)]), (2, [(18504, (-1))]), (0, [(18506, 1)]), (0, [(18508, 1)]), ((-3), [(19001, 1)]), (3, [(19001, (-1))]), (0, [(19002, 1)]), ((-1), [(19003, 1)]), (1, [(19003, (-1))]), (0, [(19004, 1)]), (0, [(19005, 1)]), ((-1), [(18502, 1), (18504, (-1))])], [(12800, (8, []))], some (false, (0, []))) as σ σ' τ o) : lw_pm_C a1 a2 a3 a4 a5 x.toInt σ σ' := by
  unfold lw_pm_C
  have b18501 : 0 ≤ σ 18501 ∧ σ 18501 ≤ 3 := by
    have h0 := hb 18501
    rw [show sx_sr 18501 = (0, 3) from by decide +kernel] at h0
    exact h0
  have b18502 : 0 ≤ σ 18502 ∧ σ 18502 ≤ 3 := by
    have h0 := hb 18502
    rw [show sx_sr 18502 = (0, 3) from by decide +kernel] at h0
    exact h0
  have b18503 : 0 ≤ σ 18503 ∧ σ 18503 ≤ 3 := by
    have h0 := hb 18503
    rw [show sx_sr 18503 = (0, 3) from by decide +kernel] at h0
    exact h0
  have b18504 : 0 ≤ σ 18504 ∧ σ 18504 ≤ 3 := by
    have h0 := hb 18504
    rw [show sx_sr 18504 = (0, 3) from by decide +kernel] at h0
    exact h0
  have b18505 : (-1) ≤ σ 18505 ∧ σ 18505 ≤ 60 := by
    have h0 := hb 18505
    rw [show sx_sr 18505 = ((-1), 60) from by decide +kernel] at h0
    exact h0
  have b18506 : (-1) ≤ σ 18506 ∧ σ 18506 ≤ 60 := by
    have h0 := hb 18506
    rw [show sx_sr 18506 = ((-1), 60) from by decide +kernel] at h0
    exact h0
  have b18507 : (-1) ≤ σ 18507 ∧ σ 18507 ≤ 60 := by
    have h0 := hb 18507
    rw [show sx_sr 18507 = ((-1), 60) from by decide +kernel] at h0
    exact h0
  have b18508 : (-1) ≤ σ 18508 ∧ σ 18508 ≤ 60 := by
    have h0 := hb 18508
    rw [show sx_sr 18508 = ((-1), 60) from by decide +kernel] at h0
    exact h0
  obtain ⟨hs, ht, hf, hr, hm, hw⟩ := hW
  have e1 : τ 19001 = a1 := by rw [ht 19001 (by decide) (by decide)]; exact h1
  have e2 : τ 19002 = a2 := by rw [ht 19002 (by decide) (by decide)]; exact h2
  have e3 : τ 19003 = a3 := by rw [ht 19003 (by decide) (by decide)]; exact h3
  have e4 : τ 19004 = a4 := by rw [ht 19004 (by decide) (by decide)]; exact h4
  have e5 : τ 19005 = a5 := by rw [ht 19005 (by decide) (by decide)]; exact h5
  have s18501 : τ 18501 = σ 18501 := hs 18501 (by decide)
  have s18502 : τ 18502 = σ 18502 := hs 18502 (by decide)
  have s18503 : τ 18503 = σ 18503 := hs 18503 (by decide)
  have s18504 : τ 18504 = σ 18504 := hs 18504 (by decide)
  have s18505 : τ 18505 = σ 18505 := hs 18505 (by decide)
  have s18506 : τ 18506 = σ 18506 := hs 18506 (by decide)
  have s18507 : τ 18507 = σ 18507 := hs 18507 (by decide)
  have s18508 : τ 18508 = σ 18508 := hs 18508 (by decide)
  clear hs ht hb
  rw [hx] at hr
  obtain ⟨y, hy, hv⟩ := hr
  cases hy
  replace hv : x.toInt = 0 + 0 := hv
  have f0 : 0 ≤ (-1) + (1 * τ 18502 + 0) := hf _ (List.Mem.head _)
  have f1 : 0 ≤ 2 + ((-1) * τ 18504 + 0) := hf _ (List.Mem.tail _ (List.Mem.head _))
  have f2 : 0 ≤ 0 + (1 * τ 18506 + 0) := hf _ (List.Mem.tail _ (List.Mem.tail _ (List.Mem.head _)))
  have f3 : 0 ≤ 0 + (1 * τ 18508 + 0) := hf _ (List.Mem.tail _ (List.Mem.tail _ (List.Mem.tail _ (List.Mem.head _))))
  have f4 : 0 ≤ (-3) + (1 * τ 19001 + 0) := hf _ (List.Mem.tail _ (List.Mem.tail _ (List.Mem.tail _ (List.Mem.tail _ (List.Mem.head _)))))
  have f5 : 0 ≤ 3 + ((-1) * τ 19001 + 0) := hf _ (List.Mem.tail _ (List.Mem.tail _ (List.Mem.tail _ (List.Mem.tail _ (List.Mem.tail _ (List.Mem.head _))))))
  have f6 : 0 ≤ 0 + (1 * τ 19002 + 0) := hf _ (List.Mem.tail _ (List.Mem.tail _ (List.Mem.tail _ (List.Mem.tail _ (List.Mem.tail _ (List.Mem.tail _ (List.Mem.head _)))))))
  have f7 : 0 ≤ (-1) + (1 * τ 19003 + 0) := hf _ (List.Mem.tail _ (List.Mem.tail _ (List.Mem.tail _ (List.Mem.tail _ (List.Mem.tail _ (List.Mem.tail _ (List.Mem.tail _ (List.Mem.head _))))))))
  have f8 : 0 ≤ 1 + ((-1) * τ 19003 + 0) := hf _ (List.Mem.tail _ (List.Mem.tail _ (List.Mem.tail _ (List.Mem.tail _ (List.Mem.tail _ (List.Mem.tail _ (List.Mem.tail _ (List.Mem.tail _ (List.Mem.head _)))))))))
  have f9 : 0 ≤ 0 + (1 * τ 19004 + 0) := hf _ (List.Mem.tail _ (List.Mem.tail _ (List.Mem.tail _ (List.Mem.tail _ (List.Mem.tail _ (List.Mem.tail _ (List.Mem.tail _ (List.Mem.tail _ (List.Mem.tail _ (List.Mem.head _))))))))))
  have f10 : 0 ≤ 0 + (1 * τ 19005 + 0) := hf _ (List.Mem.tail _ (List.Mem.tail _ (List.Mem.tail _ (List.Mem.tail _ (List.Mem.tail _ (List.Mem.tail _ (List.Mem.tail _ (List.Mem.tail _ (List.Mem.tail _ (List.Mem.tail _ (List.Mem.head _)))))))))))
  have f11 : 0 ≤ (-1) + (1 * τ 18502 + ((-1) * τ 18504 + 0)) := hf _ (List.Mem.tail _ (List.Mem.tail _ (List.Mem.tail _ (List.Mem.tail _ (List.Mem.tail _ (List.Mem.tail _ (List.Mem.tail _ (List.Mem.tail _ (List.Mem.tail _ (List.Mem.tail _ (List.Mem.tail _ (List.Mem.head _))))))))))))
  clear hf hm
  have ej : a1 = 3 := by omega
  subst ej
  have ek : a3 = 1 := by omega
  subst ek
  simp only [lw_sel0, lw_sel1, lw_sel2, lw_sel3]
  refine Or.inr ⟨by omega, fun h => ?_⟩
  obtain ⟨z0, z1, z2, z3, z4, z5, z6, z7, z8, z9, z10, z11⟩ := h
  omega
theorem lw_pm_20 {as : List rv_A} {σ σ' : Nat → Int} {o : rv_O} {x : Int32} {a1 a2 a3 a4 a5 : Int} {τ : Nat → Int} (hx : o.1 = some (.inl x)) (h1 : lw_av as 1 = a1) (h2 : lw_av as 2 = a2) (h3 : lw_av as 3 = a3) (h4 : lw_av as 4 = a4) (h5 : lw_av as 5 = a5) (hb : ∀ s, (sx_sr s).1 ≤ σ s ∧ σ s ≤ (sx_sr s).2) (hW : lw_W ([], [(2, [(18503, (-1))]), ((-1), [(18504, 1)]), (0, [(18507, 1)]), (0, [(18508, 1)]), ((-2), [(19001, 1)]), (2, [(19001, (-1))]), (0, [(19002, 1)]), ((-3), [(19003, 1)]), (3, [(19003, (-1))]), (0, [(19004, 1)]), (0, [(19005, 1)]), ((-1), [(18503, (-1)), (18504, 1)])], [(12800, (8, []))], some (false, (0, []))) as σ σ' τ o) : lw_pm_C a1 a2 a3 a4 a5 x.toInt σ σ' := by
  unfold lw_pm_C
  have b18501 : 0 ≤ σ 18501 ∧ σ 18501 ≤ 3 := by
    have h0 := hb 18501
    rw [show sx_sr 18501 = (0, 3) from by decide +kernel] at h0
    exact h0
  have b18502 : 0 ≤ σ 18502 ∧ σ 18502 ≤ 3 := by
    have h0 := hb 18502
    rw [show sx_sr 18502 = (0, 3) from by decide +kernel] at h0
    exact h0
  have b18503 : 0 ≤ σ 18503 ∧ σ 18503 ≤ 3 := by
    have h0 := hb 18503
    rw [show sx_sr 18503 = (0, 3) from by decide +kernel] at h0
    exact h0
  have b18504 : 0 ≤ σ 18504 ∧ σ 18504 ≤ 3 := by
    have h0 := hb 18504
    rw [show sx_sr 18504 = (0, 3) from by decide +kernel] at h0
    exact h0
  have b18505 : (-1) ≤ σ 18505 ∧ σ 18505 ≤ 60 := by
    have h0 := hb 18505
    rw [show sx_sr 18505 = ((-1), 60) from by decide +kernel] at h0
    exact h0
  have b18506 : (-1) ≤ σ 18506 ∧ σ 18506 ≤ 60 := by
    have h0 := hb 18506
    rw [show sx_sr 18506 = ((-1), 60) from by decide +kernel] at h0
    exact h0
  have b18507 : (-1) ≤ σ 18507 ∧ σ 18507 ≤ 60 := by
    have h0 := hb 18507
    rw [show sx_sr 18507 = ((-1), 60) from by decide +kernel] at h0
    exact h0
  have b18508 : (-1) ≤ σ 18508 ∧ σ 18508 ≤ 60 := by
    have h0 := hb 18508
    rw [show sx_sr 18508 = ((-1), 60) from by decide +kernel] at h0
    exact h0
  obtain ⟨hs, ht, hf, hr, hm, hw⟩ := hW
  have e1 : τ 19001 = a1 := by rw [ht 19001 (by decide) (by decide)]; exact h1
  have e2 : τ 19002 = a2 := by rw [ht 19002 (by decide) (by decide)]; exact h2
  have e3 : τ 19003 = a3 := by rw [ht 19003 (by decide) (by decide)]; exact h3
  have e4 : τ 19004 = a4 := by rw [ht 19004 (by decide) (by decide)]; exact h4
  have e5 : τ 19005 = a5 := by rw [ht 19005 (by decide) (by decide)]; exact h5
  have s18501 : τ 18501 = σ 18501 := hs 18501 (by decide)
  have s18502 : τ 18502 = σ 18502 := hs 18502 (by decide)
  have s18503 : τ 18503 = σ 18503 := hs 18503 (by decide)
  have s18504 : τ 18504 = σ 18504 := hs 18504 (by decide)
  have s18505 : τ 18505 = σ 18505 := hs 18505 (by decide)
  have s18506 : τ 18506 = σ 18506 := hs 18506 (by decide)
  have s18507 : τ 18507 = σ 18507 := hs 18507 (by decide)
  have s18508 : τ 18508 = σ 18508 := hs 18508 (by decide)
  clear hs ht hb
  rw [hx] at hr
  obtain ⟨y, hy, hv⟩ := hr
  cases hy
  replace hv : x.toInt = 0 + 0 := hv
  have f0 : 0 ≤ 2 + ((-1) * τ 18503 + 0) := hf _ (List.Mem.head _)
  have f1 : 0 ≤ (-1) + (1 * τ 18504 + 0) := hf _ (List.Mem.tail _ (List.Mem.head _))
  have f2 : 0 ≤ 0 + (1 * τ 18507 + 0) := hf _ (List.Mem.tail _ (List.Mem.tail _ (List.Mem.head _)))
  have f3 : 0 ≤ 0 + (1 * τ 18508 + 0) := hf _ (List.Mem.tail _ (List.Mem.tail _ (List.Mem.tail _ (List.Mem.head _))))
  have f4 : 0 ≤ (-2) + (1 * τ 19001 + 0) := hf _ (List.Mem.tail _ (List.Mem.tail _ (List.Mem.tail _ (List.Mem.tail _ (List.Mem.head _)))))
  have f5 : 0 ≤ 2 + ((-1) * τ 19001 + 0) := hf _ (List.Mem.tail _ (List.Mem.tail _ (List.Mem.tail _ (List.Mem.tail _ (List.Mem.tail _ (List.Mem.head _))))))
  have f6 : 0 ≤ 0 + (1 * τ 19002 + 0) := hf _ (List.Mem.tail _ (List.Mem.tail _ (List.Mem.tail _ (List.Mem.tail _ (List.Mem.tail _ (List.Mem.tail _ (List.Mem.head _)))))))
  have f7 : 0 ≤ (-3) + (1 * τ 19003 + 0) := hf _ (List.Mem.tail _ (List.Mem.tail _ (List.Mem.tail _ (List.Mem.tail _ (List.Mem.tail _ (List.Mem.tail _ (List.Mem.tail _ (List.Mem.head _))))))))
  have f8 : 0 ≤ 3 + ((-1) * τ 19003 + 0) := hf _ (List.Mem.tail _ (List.Mem.tail _ (List.Mem.tail _ (List.Mem.tail _ (List.Mem.tail _ (List.Mem.tail _ (List.Mem.tail _ (List.Mem.tail _ (List.Mem.head _)))))))))
  have f9 : 0 ≤ 0 + (1 * τ 19004 + 0) := hf _ (List.Mem.tail _ (List.Mem.tail _ (List.Mem.tail _ (List.Mem.tail _ (List.Mem.tail _ (List.Mem.tail _ (List.Mem.tail _ (List.Mem.tail _ (List.Mem.tail _ (List.Mem.head _))))))))))
  have f10 : 0 ≤ 0 + (1 * τ 19005 + 0) := hf _ (List.Mem.tail _ (List.Mem.tail _ (List.Mem.tail _ (List.Mem.tail _ (List.Mem.tail _ (List.Mem.tail _ (List.Mem.tail _ (List.Mem.tail _ (List.Mem.tail _ (List.Mem.tail _ (List.Mem.head _)))))))))))
  have f11 : 0 ≤ (-1) + ((-1) * τ 18503 + (1 * τ 18504 + 0)) := hf _ (List.Mem.tail _ (List.Mem.tail _ (List.Mem.tail _ (List.Mem.tail _ (List.Mem.tail _ (List.Mem.tail _ (List.Mem.tail _ (List.Mem.tail _ (List.Mem.tail _ (List.Mem.tail _ (List.Mem.tail _ (List.Mem.head _))))))))))))
  clear hf hm
  have ej : a1 = 2 := by omega
  subst ej
  have ek : a3 = 3 := by omega
  subst ek
  simp only [lw_sel0, lw_sel1, lw_sel2, lw_sel3]
  refine Or.inr ⟨by omega, fun h => ?_⟩
  obtain ⟨z0, z1, z2, z3, z4, z5, z6, z7, z8, z9, z10, z11⟩ := h
  omega
theorem lw_pm_21 {as : List rv_A} {σ σ' : Nat → Int} {o : rv_O} {x : Int32} {a1 a2 a3 a4 a5 : Int} {τ : Nat → Int} (hx : o.1 = some (.inl x)) (h1 : lw_av as 1 = a1) (h2 : lw_av as 2 = a2) (h3 : lw_av as 3 = a3) (h4 : lw_av as 4 = a4) (h5 : lw_av as 5 = a5) (hb : ∀ s, (sx_sr s).1 ≤ σ s ∧ σ s ≤ (sx_sr s).2) (hW : lw_W ([], [(2, [(18503, (-1))]), ((-1), [(18504, 1)]), (0, [(18507, 1)]), (0, [(18508, 1)]), ((-3), [(19001, 1)]), (3, [(19001, (-1))]), (0, [(19002, 1)]), ((-2), [(19003, 1)]), (2, [(19003, (-1))]), (0, [(19004, 1)]), (0, [(19005, 1)]), ((-1), [(18503, (-1)), (18504, 1)])], [(12800, (8, []))], some (false, (0, []))) as σ σ' τ o) : lw_pm_C a1 a2 a3 a4 a5 x.toInt σ σ' := by
  unfold lw_pm_C
  have b18501 : 0 ≤ σ 18501 ∧ σ 18501 ≤ 3 := by
    have h0 := hb 18501
    rw [show sx_sr 18501 = (0, 3) from by decide +kernel] at h0
    exact h0
  have b18502 : 0 ≤ σ 18502 ∧ σ 18502 ≤ 3 := by
    have h0 := hb 18502
    rw [show sx_sr 18502 = (0, 3) from by decide +kernel] at h0
    exact h0
  have b18503 : 0 ≤ σ 18503 ∧ σ 18503 ≤ 3 := by
    have h0 := hb 18503
    rw [show sx_sr 18503 = (0, 3) from by decide +kernel] at h0
    exact h0
  have b18504 : 0 ≤ σ 18504 ∧ σ 18504 ≤ 3 := by
    have h0 := hb 18504
    rw [show sx_sr 18504 = (0, 3) from by decide +kernel] at h0
    exact h0
  have b18505 : (-1) ≤ σ 18505 ∧ σ 18505 ≤ 60 := by
    have h0 := hb 18505
    rw [show sx_sr 18505 = ((-1), 60) from by decide +kernel] at h0
    exact h0
  have b18506 : (-1) ≤ σ 18506 ∧ σ 18506 ≤ 60 := by
    have h0 := hb 18506
    rw [show sx_sr 18506 = ((-1), 60) from by decide +kernel] at h0
    exact h0
  have b18507 : (-1) ≤ σ 18507 ∧ σ 18507 ≤ 60 := by
    have h0 := hb 18507
    rw [show sx_sr 18507 = ((-1), 60) from by decide +kernel] at h0
    exact h0
  have b18508 : (-1) ≤ σ 18508 ∧ σ 18508 ≤ 60 := by
    have h0 := hb 18508
    rw [show sx_sr 18508 = ((-1), 60) from by decide +kernel] at h0
    exact h0
  obtain ⟨hs, ht, hf, hr, hm, hw⟩ := hW
  have e1 : τ 19001 = a1 := by rw [ht 19001 (by decide) (by decide)]; exact h1
  have e2 : τ 19002 = a2 := by rw [ht 19002 (by decide) (by decide)]; exact h2
  have e3 : τ 19003 = a3 := by rw [ht 19003 (by decide) (by decide)]; exact h3
  have e4 : τ 19004 = a4 := by rw [ht 19004 (by decide) (by decide)]; exact h4
  have e5 : τ 19005 = a5 := by rw [ht 19005 (by decide) (by decide)]; exact h5
  have s18501 : τ 18501 = σ 18501 := hs 18501 (by decide)
  have s18502 : τ 18502 = σ 18502 := hs 18502 (by decide)
  have s18503 : τ 18503 = σ 18503 := hs 18503 (by decide)
  have s18504 : τ 18504 = σ 18504 := hs 18504 (by decide)
  have s18505 : τ 18505 = σ 18505 := hs 18505 (by decide)
  have s18506 : τ 18506 = σ 18506 := hs 18506 (by decide)
  have s18507 : τ 18507 = σ 18507 := hs 18507 (by decide)
  have s18508 : τ 18508 = σ 18508 := hs 18508 (by decide)
  clear hs ht hb
  rw [hx] at hr
  obtain ⟨y, hy, hv⟩ := hr
  cases hy
  replace hv : x.toInt = 0 + 0 := hv
  have f0 : 0 ≤ 2 + ((-1) * τ 18503 + 0) := hf _ (List.Mem.head _)
  have f1 : 0 ≤ (-1) + (1 * τ 18504 + 0) := hf _ (List.Mem.tail _ (List.Mem.head _))
  have f2 : 0 ≤ 0 + (1 * τ 18507 + 0) := hf _ (List.Mem.tail _ (List.Mem.tail _ (List.Mem.head _)))
  have f3 : 0 ≤ 0 + (1 * τ 18508 + 0) := hf _ (List.Mem.tail _ (List.Mem.tail _ (List.Mem.tail _ (List.Mem.head _))))
  have f4 : 0 ≤ (-3) + (1 * τ 19001 + 0) := hf _ (List.Mem.tail _ (List.Mem.tail _ (List.Mem.tail _ (List.Mem.tail _ (List.Mem.head _)))))
  have f5 : 0 ≤ 3 + ((-1) * τ 19001 + 0) := hf _ (List.Mem.tail _ (List.Mem.tail _ (List.Mem.tail _ (List.Mem.tail _ (List.Mem.tail _ (List.Mem.head _))))))
  have f6 : 0 ≤ 0 + (1 * τ 19002 + 0) := hf _ (List.Mem.tail _ (List.Mem.tail _ (List.Mem.tail _ (List.Mem.tail _ (List.Mem.tail _ (List.Mem.tail _ (List.Mem.head _)))))))
  have f7 : 0 ≤ (-2) + (1 * τ 19003 + 0) := hf _ (List.Mem.tail _ (List.Mem.tail _ (List.Mem.tail _ (List.Mem.tail _ (List.Mem.tail _ (List.Mem.tail _ (List.Mem.tail _ (List.Mem.head _))))))))
  have f8 : 0 ≤ 2 + ((-1) * τ 19003 + 0) := hf _ (List.Mem.tail _ (List.Mem.tail _ (List.Mem.tail _ (List.Mem.tail _ (List.Mem.tail _ (List.Mem.tail _ (List.Mem.tail _ (List.Mem.tail _ (List.Mem.head _)))))))))
  have f9 : 0 ≤ 0 + (1 * τ 19004 + 0) := hf _ (List.Mem.tail _ (List.Mem.tail _ (List.Mem.tail _ (List.Mem.tail _ (List.Mem.tail _ (List.Mem.tail _ (List.Mem.tail _ (List.Mem.tail _ (List.Mem.tail _ (List.Mem.head _))))))))))
  have f10 : 0 ≤ 0 + (1 * τ 19005 + 0) := hf _ (List.Mem.tail _ (List.Mem.tail _ (List.Mem.tail _ (List.Mem.tail _ (List.Mem.tail _ (List.Mem.tail _ (List.Mem.tail _ (List.Mem.tail _ (List.Mem.tail _ (List.Mem.tail _ (List.Mem.head _)))))))))))
  have f11 : 0 ≤ (-1) + ((-1) * τ 18503 + (1 * τ 18504 + 0)) := hf _ (List.Mem.tail _ (List.Mem.tail _ (List.Mem.tail _ (List.Mem.tail _ (List.Mem.tail _ (List.Mem.tail _ (List.Mem.tail _ (List.Mem.tail _ (List.Mem.tail _ (List.Mem.tail _ (List.Mem.tail _ (List.Mem.head _))))))))))))
  clear hf hm
  have ej : a1 = 3 := by omega
  subst ej
  have ek : a3 = 2 := by omega
  subst ek
  simp only [lw_sel0, lw_sel1, lw_sel2, lw_sel3]
  refine Or.inr ⟨by omega, fun h => ?_⟩
  obtain ⟨z0, z1, z2, z3, z4, z5, z6, z7, z8, z9, z10, z11⟩ := h
  omega
