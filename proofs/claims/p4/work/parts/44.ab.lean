theorem lw_wx_22 {as : List rv_A} {σ σ' : Nat → Int} {o : rv_O} {x : Int32} {a1 a2 : Int} {τ : Nat → Int} (hx : o.1 = some (.inl x)) (h1 : lw_av as 1 = a1) (h2 : lw_av as 2 = a2) (hb : ∀ s, (sx_sr s).1 ≤ σ s ∧ σ s ≤ (sx_sr s).2) (hW : lw_W ([], [(0, [(5889, 1)]), (0, [(5889, (-1))]), ((-1), [(5890, 1)]), ((-2), [(19001, 1)]), (2, [(19001, (-1))]), (0, [(19002, 1)]), (59, [(19002, (-1))]), ((-1), [(5890, 1), (19002, (-1))])], [(9, (0, []))], some (false, (1, []))) as σ σ' τ o) : lw_wx_C a1 a2 x.toInt σ σ' := by
  unfold lw_wx_C
  have b5377 : (-1) ≤ σ 5377 ∧ σ 5377 ≤ 3 := by
    have h0 := hb 5377
    rw [show sx_sr 5377 = ((-1), 3) from by decide +kernel] at h0
    exact h0
  have b5633 : (-1) ≤ σ 5633 ∧ σ 5633 ≤ 3 := by
    have h0 := hb 5633
    rw [show sx_sr 5633 = ((-1), 3) from by decide +kernel] at h0
    exact h0
  have b5889 : (-1) ≤ σ 5889 ∧ σ 5889 ≤ 3 := by
    have h0 := hb 5889
    rw [show sx_sr 5889 = ((-1), 3) from by decide +kernel] at h0
    exact h0
  have b6145 : (-1) ≤ σ 6145 ∧ σ 6145 ≤ 3 := by
    have h0 := hb 6145
    rw [show sx_sr 6145 = ((-1), 3) from by decide +kernel] at h0
    exact h0
  have b5378 : 0 ≤ σ 5378 ∧ σ 5378 ≤ 60 := by
    have h0 := hb 5378
    rw [show sx_sr 5378 = (0, 60) from by decide +kernel] at h0
    exact h0
  have b5634 : 0 ≤ σ 5634 ∧ σ 5634 ≤ 60 := by
    have h0 := hb 5634
    rw [show sx_sr 5634 = (0, 60) from by decide +kernel] at h0
    exact h0
  have b5890 : 0 ≤ σ 5890 ∧ σ 5890 ≤ 60 := by
    have h0 := hb 5890
    rw [show sx_sr 5890 = (0, 60) from by decide +kernel] at h0
    exact h0
  have b6146 : 0 ≤ σ 6146 ∧ σ 6146 ≤ 60 := by
    have h0 := hb 6146
    rw [show sx_sr 6146 = (0, 60) from by decide +kernel] at h0
    exact h0
  obtain ⟨hs, ht, hf, hr, hm, hw⟩ := hW
  have e1 : τ 19001 = a1 := by rw [ht 19001 (by decide) (by decide)]; exact h1
  have e2 : τ 19002 = a2 := by rw [ht 19002 (by decide) (by decide)]; exact h2
  have s5377 : τ 5377 = σ 5377 := hs 5377 (by decide)
  have s5378 : τ 5378 = σ 5378 := hs 5378 (by decide)
  have s5633 : τ 5633 = σ 5633 := hs 5633 (by decide)
  have s5634 : τ 5634 = σ 5634 := hs 5634 (by decide)
  have s5889 : τ 5889 = σ 5889 := hs 5889 (by decide)
  have s5890 : τ 5890 = σ 5890 := hs 5890 (by decide)
  have s6145 : τ 6145 = σ 6145 := hs 6145 (by decide)
  have s6146 : τ 6146 = σ 6146 := hs 6146 (by decide)
  clear hs ht hb
  rw [hx] at hr
  obtain ⟨y, hy, hv⟩ := hr
  cases hy
  replace hv : x.toInt = 1 + 0 := hv
  have f0 : 0 ≤ 0 + (1 * τ 5889 + 0) := hf _ (List.Mem.head _)
  have f1 : 0 ≤ 0 + ((-1) * τ 5889 + 0) := hf _ (List.Mem.tail _ (List.Mem.head _))
  have f2 : 0 ≤ (-1) + (1 * τ 5890 + 0) := hf _ (List.Mem.tail _ (List.Mem.tail _ (List.Mem.head _)))
  have f3 : 0 ≤ (-2) + (1 * τ 19001 + 0) := hf _ (List.Mem.tail _ (List.Mem.tail _ (List.Mem.tail _ (List.Mem.head _))))
  have f4 : 0 ≤ 2 + ((-1) * τ 19001 + 0) := hf _ (List.Mem.tail _ (List.Mem.tail _ (List.Mem.tail _ (List.Mem.tail _ (List.Mem.head _)))))
  have f5 : 0 ≤ 0 + (1 * τ 19002 + 0) := hf _ (List.Mem.tail _ (List.Mem.tail _ (List.Mem.tail _ (List.Mem.tail _ (List.Mem.tail _ (List.Mem.head _))))))
  have f6 : 0 ≤ 59 + ((-1) * τ 19002 + 0) := hf _ (List.Mem.tail _ (List.Mem.tail _ (List.Mem.tail _ (List.Mem.tail _ (List.Mem.tail _ (List.Mem.tail _ (List.Mem.head _)))))))
  have f7 : 0 ≤ (-1) + (1 * τ 5890 + ((-1) * τ 19002 + 0)) := hf _ (List.Mem.tail _ (List.Mem.tail _ (List.Mem.tail _ (List.Mem.tail _ (List.Mem.tail _ (List.Mem.tail _ (List.Mem.tail _ (List.Mem.head _))))))))
  clear hf hm
  exact Or.inl ⟨by omega, Or.inr (Or.inr (Or.inl ⟨by omega, by omega, by omega, by omega⟩))⟩
theorem lw_wx_23 {as : List rv_A} {σ σ' : Nat → Int} {o : rv_O} {x : Int32} {a1 a2 : Int} {τ : Nat → Int} (hx : o.1 = some (.inl x)) (h1 : lw_av as 1 = a1) (h2 : lw_av as 2 = a2) (hb : ∀ s, (sx_sr s).1 ≤ σ s ∧ σ s ≤ (sx_sr s).2) (hW : lw_W ([], [((-1), [(5889, 1)]), (1, [(5889, (-1))]), ((-1), [(5890, 1)]), ((-2), [(19001, 1)]), (2, [(19001, (-1))]), (0, [(19002, 1)]), (59, [(19002, (-1))]), ((-1), [(5890, 1), (19002, (-1))])], [(9, (0, []))], some (false, (1, []))) as σ σ' τ o) : lw_wx_C a1 a2 x.toInt σ σ' := by
  unfold lw_wx_C
  have b5377 : (-1) ≤ σ 5377 ∧ σ 5377 ≤ 3 := by
    have h0 := hb 5377
    rw [show sx_sr 5377 = ((-1), 3) from by decide +kernel] at h0
    exact h0
  have b5633 : (-1) ≤ σ 5633 ∧ σ 5633 ≤ 3 := by
    have h0 := hb 5633
    rw [show sx_sr 5633 = ((-1), 3) from by decide +kernel] at h0
    exact h0
  have b5889 : (-1) ≤ σ 5889 ∧ σ 5889 ≤ 3 := by
    have h0 := hb 5889
    rw [show sx_sr 5889 = ((-1), 3) from by decide +kernel] at h0
    exact h0
  have b6145 : (-1) ≤ σ 6145 ∧ σ 6145 ≤ 3 := by
    have h0 := hb 6145
    rw [show sx_sr 6145 = ((-1), 3) from by decide +kernel] at h0
    exact h0
  have b5378 : 0 ≤ σ 5378 ∧ σ 5378 ≤ 60 := by
    have h0 := hb 5378
    rw [show sx_sr 5378 = (0, 60) from by decide +kernel] at h0
    exact h0
  have b5634 : 0 ≤ σ 5634 ∧ σ 5634 ≤ 60 := by
    have h0 := hb 5634
    rw [show sx_sr 5634 = (0, 60) from by decide +kernel] at h0
    exact h0
  have b5890 : 0 ≤ σ 5890 ∧ σ 5890 ≤ 60 := by
    have h0 := hb 5890
    rw [show sx_sr 5890 = (0, 60) from by decide +kernel] at h0
    exact h0
  have b6146 : 0 ≤ σ 6146 ∧ σ 6146 ≤ 60 := by
    have h0 := hb 6146
    rw [show sx_sr 6146 = (0, 60) from by decide +kernel] at h0
    exact h0
  obtain ⟨hs, ht, hf, hr, hm, hw⟩ := hW
  have e1 : τ 19001 = a1 := by rw [ht 19001 (by decide) (by decide)]; exact h1
  have e2 : τ 19002 = a2 := by rw [ht 19002 (by decide) (by decide)]; exact h2
  have s5377 : τ 5377 = σ 5377 := hs 5377 (by decide)
  have s5378 : τ 5378 = σ 5378 := hs 5378 (by decide)
  have s5633 : τ 5633 = σ 5633 := hs 5633 (by decide)
  have s5634 : τ 5634 = σ 5634 := hs 5634 (by decide)
  have s5889 : τ 5889 = σ 5889 := hs 5889 (by decide)
  have s5890 : τ 5890 = σ 5890 := hs 5890 (by decide)
  have s6145 : τ 6145 = σ 6145 := hs 6145 (by decide)
  have s6146 : τ 6146 = σ 6146 := hs 6146 (by decide)
  clear hs ht hb
  rw [hx] at hr
  obtain ⟨y, hy, hv⟩ := hr
  cases hy
  replace hv : x.toInt = 1 + 0 := hv
  have f0 : 0 ≤ (-1) + (1 * τ 5889 + 0) := hf _ (List.Mem.head _)
  have f1 : 0 ≤ 1 + ((-1) * τ 5889 + 0) := hf _ (List.Mem.tail _ (List.Mem.head _))
  have f2 : 0 ≤ (-1) + (1 * τ 5890 + 0) := hf _ (List.Mem.tail _ (List.Mem.tail _ (List.Mem.head _)))
  have f3 : 0 ≤ (-2) + (1 * τ 19001 + 0) := hf _ (List.Mem.tail _ (List.Mem.tail _ (List.Mem.tail _ (List.Mem.head _))))
  have f4 : 0 ≤ 2 + ((-1) * τ 19001 + 0) := hf _ (List.Mem.tail _ (List.Mem.tail _ (List.Mem.tail _ (List.Mem.tail _ (List.Mem.head _)))))
  have f5 : 0 ≤ 0 + (1 * τ 19002 + 0) := hf _ (List.Mem.tail _ (List.Mem.tail _ (List.Mem.tail _ (List.Mem.tail _ (List.Mem.tail _ (List.Mem.head _))))))
  have f6 : 0 ≤ 59 + ((-1) * τ 19002 + 0) := hf _ (List.Mem.tail _ (List.Mem.tail _ (List.Mem.tail _ (List.Mem.tail _ (List.Mem.tail _ (List.Mem.tail _ (List.Mem.head _)))))))
  have f7 : 0 ≤ (-1) + (1 * τ 5890 + ((-1) * τ 19002 + 0)) := hf _ (List.Mem.tail _ (List.Mem.tail _ (List.Mem.tail _ (List.Mem.tail _ (List.Mem.tail _ (List.Mem.tail _ (List.Mem.tail _ (List.Mem.head _))))))))
  clear hf hm
  exact Or.inl ⟨by omega, Or.inr (Or.inr (Or.inl ⟨by omega, by omega, by omega, by omega⟩))⟩
theorem lw_wx_24 {as : List rv_A} {σ σ' : Nat → Int} {o : rv_O} {x : Int32} {a1 a2 : Int} {τ : Nat → Int} (hx : o.1 = some (.inl x)) (h1 : lw_av as 1 = a1) (h2 : lw_av as 2 = a2) (hb : ∀ s, (sx_sr s).1 ≤ σ s ∧ σ s ≤ (sx_sr s).2) (hW : lw_W ([], [((-2), [(5889, 1)]), (2, [(5889, (-1))]), ((-1), [(5890, 1)]), ((-2), [(19001, 1)]), (2, [(19001, (-1))]), (0, [(19002, 1)]), (59, [(19002, (-1))]), ((-1), [(5890, 1), (19002, (-1))])], [(9, (0, []))], some (false, (1, []))) as σ σ' τ o) : lw_wx_C a1 a2 x.toInt σ σ' := by
  unfold lw_wx_C
  have b5377 : (-1) ≤ σ 5377 ∧ σ 5377 ≤ 3 := by
    have h0 := hb 5377
    rw [show sx_sr 5377 = ((-1), 3) from by decide +kernel] at h0
    exact h0
  have b5633 : (-1) ≤ σ 5633 ∧ σ 5633 ≤ 3 := by
    have h0 := hb 5633
    rw [show sx_sr 5633 = ((-1), 3) from by decide +kernel] at h0
    exact h0
  have b5889 : (-1) ≤ σ 5889 ∧ σ 5889 ≤ 3 := by
    have h0 := hb 5889
    rw [show sx_sr 5889 = ((-1), 3) from by decide +kernel] at h0
    exact h0
  have b6145 : (-1) ≤ σ 6145 ∧ σ 6145 ≤ 3 := by
    have h0 := hb 6145
    rw [show sx_sr 6145 = ((-1), 3) from by decide +kernel] at h0
    exact h0
  have b5378 : 0 ≤ σ 5378 ∧ σ 5378 ≤ 60 := by
    have h0 := hb 5378
    rw [show sx_sr 5378 = (0, 60) from by decide +kernel] at h0
    exact h0
  have b5634 : 0 ≤ σ 5634 ∧ σ 5634 ≤ 60 := by
    have h0 := hb 5634
    rw [show sx_sr 5634 = (0, 60) from by decide +kernel] at h0
    exact h0
  have b5890 : 0 ≤ σ 5890 ∧ σ 5890 ≤ 60 := by
    have h0 := hb 5890
    rw [show sx_sr 5890 = (0, 60) from by decide +kernel] at h0
    exact h0
  have b6146 : 0 ≤ σ 6146 ∧ σ 6146 ≤ 60 := by
    have h0 := hb 6146
    rw [show sx_sr 6146 = (0, 60) from by decide +kernel] at h0
    exact h0
  obtain ⟨hs, ht, hf, hr, hm, hw⟩ := hW
  have e1 : τ 19001 = a1 := by rw [ht 19001 (by decide) (by decide)]; exact h1
  have e2 : τ 19002 = a2 := by rw [ht 19002 (by decide) (by decide)]; exact h2
  have s5377 : τ 5377 = σ 5377 := hs 5377 (by decide)
  have s5378 : τ 5378 = σ 5378 := hs 5378 (by decide)
  have s5633 : τ 5633 = σ 5633 := hs 5633 (by decide)
  have s5634 : τ 5634 = σ 5634 := hs 5634 (by decide)
  have s5889 : τ 5889 = σ 5889 := hs 5889 (by decide)
  have s5890 : τ 5890 = σ 5890 := hs 5890 (by decide)
  have s6145 : τ 6145 = σ 6145 := hs 6145 (by decide)
  have s6146 : τ 6146 = σ 6146 := hs 6146 (by decide)
  clear hs ht hb
  rw [hx] at hr
  obtain ⟨y, hy, hv⟩ := hr
  cases hy
  replace hv : x.toInt = 1 + 0 := hv
  have f0 : 0 ≤ (-2) + (1 * τ 5889 + 0) := hf _ (List.Mem.head _)
  have f1 : 0 ≤ 2 + ((-1) * τ 5889 + 0) := hf _ (List.Mem.tail _ (List.Mem.head _))
  have f2 : 0 ≤ (-1) + (1 * τ 5890 + 0) := hf _ (List.Mem.tail _ (List.Mem.tail _ (List.Mem.head _)))
  have f3 : 0 ≤ (-2) + (1 * τ 19001 + 0) := hf _ (List.Mem.tail _ (List.Mem.tail _ (List.Mem.tail _ (List.Mem.head _))))
  have f4 : 0 ≤ 2 + ((-1) * τ 19001 + 0) := hf _ (List.Mem.tail _ (List.Mem.tail _ (List.Mem.tail _ (List.Mem.tail _ (List.Mem.head _)))))
  have f5 : 0 ≤ 0 + (1 * τ 19002 + 0) := hf _ (List.Mem.tail _ (List.Mem.tail _ (List.Mem.tail _ (List.Mem.tail _ (List.Mem.tail _ (List.Mem.head _))))))
  have f6 : 0 ≤ 59 + ((-1) * τ 19002 + 0) := hf _ (List.Mem.tail _ (List.Mem.tail _ (List.Mem.tail _ (List.Mem.tail _ (List.Mem.tail _ (List.Mem.tail _ (List.Mem.head _)))))))
  have f7 : 0 ≤ (-1) + (1 * τ 5890 + ((-1) * τ 19002 + 0)) := hf _ (List.Mem.tail _ (List.Mem.tail _ (List.Mem.tail _ (List.Mem.tail _ (List.Mem.tail _ (List.Mem.tail _ (List.Mem.tail _ (List.Mem.head _))))))))
  clear hf hm
  exact Or.inl ⟨by omega, Or.inr (Or.inr (Or.inl ⟨by omega, by omega, by omega, by omega⟩))⟩
theorem lw_wx_25 {as : List rv_A} {σ σ' : Nat → Int} {o : rv_O} {x : Int32} {a1 a2 : Int} {τ : Nat → Int} (hx : o.1 = some (.inl x)) (h1 : lw_av as 1 = a1) (h2 : lw_av as 2 = a2) (hb : ∀ s, (sx_sr s).1 ≤ σ s ∧ σ s ≤ (sx_sr s).2) (hW : lw_W ([], [((-3), [(5889, 1)]), ((-1), [(5890, 1)]), ((-2), [(19001, 1)]), (2, [(19001, (-1))]), (0, [(19002, 1)]), (59, [(19002, (-1))]), ((-1), [(5890, 1), (19002, (-1))])], [(9, (0, []))], some (false, (1, []))) as σ σ' τ o) : lw_wx_C a1 a2 x.toInt σ σ' := by
  unfold lw_wx_C
  have b5377 : (-1) ≤ σ 5377 ∧ σ 5377 ≤ 3 := by
    have h0 := hb 5377
    rw [show sx_sr 5377 = ((-1), 3) from by decide +kernel] at h0
    exact h0
  have b5633 : (-1) ≤ σ 5633 ∧ σ 5633 ≤ 3 := by
    have h0 := hb 5633
    rw [show sx_sr 5633 = ((-1), 3) from by decide +kernel] at h0
    exact h0
  have b5889 : (-1) ≤ σ 5889 ∧ σ 5889 ≤ 3 := by
    have h0 := hb 5889
    rw [show sx_sr 5889 = ((-1), 3) from by decide +kernel] at h0
    exact h0
  have b6145 : (-1) ≤ σ 6145 ∧ σ 6145 ≤ 3 := by
    have h0 := hb 6145
    rw [show sx_sr 6145 = ((-1), 3) from by decide +kernel] at h0
    exact h0
  have b5378 : 0 ≤ σ 5378 ∧ σ 5378 ≤ 60 := by
    have h0 := hb 5378
    rw [show sx_sr 5378 = (0, 60) from by decide +kernel] at h0
    exact h0
  have b5634 : 0 ≤ σ 5634 ∧ σ 5634 ≤ 60 := by
    have h0 := hb 5634
    rw [show sx_sr 5634 = (0, 60) from by decide +kernel] at h0
    exact h0
  have b5890 : 0 ≤ σ 5890 ∧ σ 5890 ≤ 60 := by
    have h0 := hb 5890
    rw [show sx_sr 5890 = (0, 60) from by decide +kernel] at h0
    exact h0
  have b6146 : 0 ≤ σ 6146 ∧ σ 6146 ≤ 60 := by
    have h0 := hb 6146
    rw [show sx_sr 6146 = (0, 60) from by decide +kernel] at h0
    exact h0
  obtain ⟨hs, ht, hf, hr, hm, hw⟩ := hW
  have e1 : τ 19001 = a1 := by rw [ht 19001 (by decide) (by decide)]; exact h1
  have e2 : τ 19002 = a2 := by rw [ht 19002 (by decide) (by decide)]; exact h2
  have s5377 : τ 5377 = σ 5377 := hs 5377 (by decide)
  have s5378 : τ 5378 = σ 5378 := hs 5378 (by decide)
  have s5633 : τ 5633 = σ 5633 := hs 5633 (by decide)
  have s5634 : τ 5634 = σ 5634 := hs 5634 (by decide)
  have s5889 : τ 5889 = σ 5889 := hs 5889 (by decide)
  have s5890 : τ 5890 = σ 5890 := hs 5890 (by decide)
  have s6145 : τ 6145 = σ 6145 := hs 6145 (by decide)
  have s6146 : τ 6146 = σ 6146 := hs 6146 (by decide)
  clear hs ht hb
  rw [hx] at hr
  obtain ⟨y, hy, hv⟩ := hr
  cases hy
  replace hv : x.toInt = 1 + 0 := hv
  have f0 : 0 ≤ (-3) + (1 * τ 5889 + 0) := hf _ (List.Mem.head _)
  have f1 : 0 ≤ (-1) + (1 * τ 5890 + 0) := hf _ (List.Mem.tail _ (List.Mem.head _))
  have f2 : 0 ≤ (-2) + (1 * τ 19001 + 0) := hf _ (List.Mem.tail _ (List.Mem.tail _ (List.Mem.head _)))
  have f3 : 0 ≤ 2 + ((-1) * τ 19001 + 0) := hf _ (List.Mem.tail _ (List.Mem.tail _ (List.Mem.tail _ (List.Mem.head _))))
  have f4 : 0 ≤ 0 + (1 * τ 19002 + 0) := hf _ (List.Mem.tail _ (List.Mem.tail _ (List.Mem.tail _ (List.Mem.tail _ (List.Mem.head _)))))
  have f5 : 0 ≤ 59 + ((-1) * τ 19002 + 0) := hf _ (List.Mem.tail _ (List.Mem.tail _ (List.Mem.tail _ (List.Mem.tail _ (List.Mem.tail _ (List.Mem.head _))))))
  have f6 : 0 ≤ (-1) + (1 * τ 5890 + ((-1) * τ 19002 + 0)) := hf _ (List.Mem.tail _ (List.Mem.tail _ (List.Mem.tail _ (List.Mem.tail _ (List.Mem.tail _ (List.Mem.tail _ (List.Mem.head _)))))))
  clear hf hm
  exact Or.inl ⟨by omega, Or.inr (Or.inr (Or.inl ⟨by omega, by omega, by omega, by omega⟩))⟩
theorem lw_wx_26 {as : List rv_A} {σ σ' : Nat → Int} {o : rv_O} {x : Int32} {a1 a2 : Int} {τ : Nat → Int} (hx : o.1 = some (.inl x)) (h1 : lw_av as 1 = a1) (h2 : lw_av as 2 = a2) (hb : ∀ s, (sx_sr s).1 ≤ σ s ∧ σ s ≤ (sx_sr s).2) (hW : lw_W ([], [(0, [(6145, 1)]), (0, [(6145, (-1))]), ((-1), [(6146, 1)]), ((-3), [(19001, 1)]), (3, [(19001, (-1))]), (0, [(19002, 1)]), (59, [(19002, (-1))]), ((-1), [(6146, 1), (19002, (-1))])], [(9, (0, []))], some (false, (1, []))) as σ σ' τ o) : lw_wx_C a1 a2 x.toInt σ σ' := by
  unfold lw_wx_C
  have b5377 : (-1) ≤ σ 5377 ∧ σ 5377 ≤ 3 := by
    have h0 := hb 5377
    rw [show sx_sr 5377 = ((-1), 3) from by decide +kernel] at h0
    exact h0
  have b5633 : (-1) ≤ σ 5633 ∧ σ 5633 ≤ 3 := by
    have h0 := hb 5633
    rw [show sx_sr 5633 = ((-1), 3) from by decide +kernel] at h0
    exact h0
  have b5889 : (-1) ≤ σ 5889 ∧ σ 5889 ≤ 3 := by
    have h0 := hb 5889
    rw [show sx_sr 5889 = ((-1), 3) from by decide +kernel] at h0
    exact h0
  have b6145 : (-1) ≤ σ 6145 ∧ σ 6145 ≤ 3 := by
    have h0 := hb 6145
    rw [show sx_sr 6145 = ((-1), 3) from by decide +kernel] at h0
    exact h0
  have b5378 : 0 ≤ σ 5378 ∧ σ 5378 ≤ 60 := by
    have h0 := hb 5378
    rw [show sx_sr 5378 = (0, 60) from by decide +kernel] at h0
    exact h0
  have b5634 : 0 ≤ σ 5634 ∧ σ 5634 ≤ 60 := by
    have h0 := hb 5634
    rw [show sx_sr 5634 = (0, 60) from by decide +kernel] at h0
    exact h0
  have b5890 : 0 ≤ σ 5890 ∧ σ 5890 ≤ 60 := by
    have h0 := hb 5890
    rw [show sx_sr 5890 = (0, 60) from by decide +kernel] at h0
    exact h0
  have b6146 : 0 ≤ σ 6146 ∧ σ 6146 ≤ 60 := by
    have h0 := hb 6146
    rw [show sx_sr 6146 = (0, 60) from by decide +kernel] at h0
    exact h0
  obtain ⟨hs, ht, hf, hr, hm, hw⟩ := hW
  have e1 : τ 19001 = a1 := by rw [ht 19001 (by decide) (by decide)]; exact h1
  have e2 : τ 19002 = a2 := by rw [ht 19002 (by decide) (by decide)]; exact h2
  have s5377 : τ 5377 = σ 5377 := hs 5377 (by decide)
  have s5378 : τ 5378 = σ 5378 := hs 5378 (by decide)
  have s5633 : τ 5633 = σ 5633 := hs 5633 (by decide)
  have s5634 : τ 5634 = σ 5634 := hs 5634 (by decide)
  have s5889 : τ 5889 = σ 5889 := hs 5889 (by decide)
  have s5890 : τ 5890 = σ 5890 := hs 5890 (by decide)
  have s6145 : τ 6145 = σ 6145 := hs 6145 (by decide)
  have s6146 : τ 6146 = σ 6146 := hs 6146 (by decide)
  clear hs ht hb
  rw [hx] at hr
  obtain ⟨y, hy, hv⟩ := hr
  cases hy
  replace hv : x.toInt = 1 + 0 := hv
  have f0 : 0 ≤ 0 + (1 * τ 6145 + 0) := hf _ (List.Mem.head _)
  have f1 : 0 ≤ 0 + ((-1) * τ 6145 + 0) := hf _ (List.Mem.tail _ (List.Mem.head _))
  have f2 : 0 ≤ (-1) + (1 * τ 6146 + 0) := hf _ (List.Mem.tail _ (List.Mem.tail _ (List.Mem.head _)))
  have f3 : 0 ≤ (-3) + (1 * τ 19001 + 0) := hf _ (List.Mem.tail _ (List.Mem.tail _ (List.Mem.tail _ (List.Mem.head _))))
  have f4 : 0 ≤ 3 + ((-1) * τ 19001 + 0) := hf _ (List.Mem.tail _ (List.Mem.tail _ (List.Mem.tail _ (List.Mem.tail _ (List.Mem.head _)))))
  have f5 : 0 ≤ 0 + (1 * τ 19002 + 0) := hf _ (List.Mem.tail _ (List.Mem.tail _ (List.Mem.tail _ (List.Mem.tail _ (List.Mem.tail _ (List.Mem.head _))))))
  have f6 : 0 ≤ 59 + ((-1) * τ 19002 + 0) := hf _ (List.Mem.tail _ (List.Mem.tail _ (List.Mem.tail _ (List.Mem.tail _ (List.Mem.tail _ (List.Mem.tail _ (List.Mem.head _)))))))
  have f7 : 0 ≤ (-1) + (1 * τ 6146 + ((-1) * τ 19002 + 0)) := hf _ (List.Mem.tail _ (List.Mem.tail _ (List.Mem.tail _ (List.Mem.tail _ (List.Mem.tail _ (List.Mem.tail _ (List.Mem.tail _ (List.Mem.head _))))))))
  clear hf hm
  exact Or.inl ⟨by omega, Or.inr (Or.inr (Or.inr ⟨by omega, by omega, by omega, by omega⟩))⟩
theorem lw_wx_27 {as : List rv_A} {σ σ' : Nat → Int} {o : rv_O} {x : Int32} {a1 a2 : Int} {τ : Nat → Int} (hx : o.1 = some (.inl x)) (h1 : lw_av as 1 = a1) (h2 : lw_av as 2 = a2) (hb : ∀ s, (sx_sr s).1 ≤ σ s ∧ σ s ≤ (sx_sr s).2) (hW : lw_W ([], [((-1), [(6145, 1)]), (1, [(6145, (-1))]), ((-1), [(6146, 1)]), ((-3), [(19001, 1)]), (3, [(19001, (-1))]), (0, [(19002, 1)]), (59, [(19002, (-1))]), ((-1), [(6146, 1), (19002, (-1))])], [(9, (0, []))], some (false, (1, []))) as σ σ' τ o) : lw_wx_C a1 a2 x.toInt σ σ' := by
  unfold lw_wx_C
  have b5377 : (-1) ≤ σ 5377 ∧ σ 5377 ≤ 3 := by
    have h0 := hb 5377
    rw [show sx_sr 5377 = ((-1), 3) from by decide +kernel] at h0
    exact h0
  have b5633 : (-1) ≤ σ 5633 ∧ σ 5633 ≤ 3 := by
    have h0 := hb 5633
    rw [show sx_sr 5633 = ((-1), 3) from by decide +kernel] at h0
    exact h0
  have b5889 : (-1) ≤ σ 5889 ∧ σ 5889 ≤ 3 := by
    have h0 := hb 5889
    rw [show sx_sr 5889 = ((-1), 3) from by decide +kernel] at h0
    exact h0
  have b6145 : (-1) ≤ σ 6145 ∧ σ 6145 ≤ 3 := by
    have h0 := hb 6145
    rw [show sx_sr 6145 = ((-1), 3) from by decide +kernel] at h0
    exact h0
  have b5378 : 0 ≤ σ 5378 ∧ σ 5378 ≤ 60 := by
    have h0 := hb 5378
    rw [show sx_sr 5378 = (0, 60) from by decide +kernel] at h0
    exact h0
  have b5634 : 0 ≤ σ 5634 ∧ σ 5634 ≤ 60 := by
    have h0 := hb 5634
    rw [show sx_sr 5634 = (0, 60) from by decide +kernel] at h0
    exact h0
  have b5890 : 0 ≤ σ 5890 ∧ σ 5890 ≤ 60 := by
    have h0 := hb 5890
    rw [show sx_sr 5890 = (0, 60) from by decide +kernel] at h0
    exact h0
  have b6146 : 0 ≤ σ 6146 ∧ σ 6146 ≤ 60 := by
    have h0 := hb 6146
    rw [show sx_sr 6146 = (0, 60) from by decide +kernel] at h0
    exact h0
  obtain ⟨hs, ht, hf, hr, hm, hw⟩ := hW
  have e1 : τ 19001 = a1 := by rw [ht 19001 (by decide) (by decide)]; exact h1
  have e2 : τ 19002 = a2 := by rw [ht 19002 (by decide) (by decide)]; exact h2
  have s5377 : τ 5377 = σ 5377 := hs 5377 (by decide)
  have s5378 : τ 5378 = σ 5378 := hs 5378 (by decide)
  have s5633 : τ 5633 = σ 5633 := hs 5633 (by decide)
  have s5634 : τ 5634 = σ 5634 := hs 5634 (by decide)
  have s5889 : τ 5889 = σ 5889 := hs 5889 (by decide)
  have s5890 : τ 5890 = σ 5890 := hs 5890 (by decide)
  have s6145 : τ 6145 = σ 6145 := hs 6145 (by decide)
  have s6146 : τ 6146 = σ 6146 := hs 6146 (by decide)
  clear hs ht hb
  rw [hx] at hr
  obtain ⟨y, hy, hv⟩ := hr
  cases hy
  replace hv : x.toInt = 1 + 0 := hv
  have f0 : 0 ≤ (-1) + (1 * τ 6145 + 0) := hf _ (List.Mem.head _)
  have f1 : 0 ≤ 1 + ((-1) * τ 6145 + 0) := hf _ (List.Mem.tail _ (List.Mem.head _))
  have f2 : 0 ≤ (-1) + (1 * τ 6146 + 0) := hf _ (List.Mem.tail _ (List.Mem.tail _ (List.Mem.head _)))
  have f3 : 0 ≤ (-3) + (1 * τ 19001 + 0) := hf _ (List.Mem.tail _ (List.Mem.tail _ (List.Mem.tail _ (List.Mem.head _))))
  have f4 : 0 ≤ 3 + ((-1) * τ 19001 + 0) := hf _ (List.Mem.tail _ (List.Mem.tail _ (List.Mem.tail _ (List.Mem.tail _ (List.Mem.head _)))))
  have f5 : 0 ≤ 0 + (1 * τ 19002 + 0) := hf _ (List.Mem.tail _ (List.Mem.tail _ (List.Mem.tail _ (List.Mem.tail _ (List.Mem.tail _ (List.Mem.head _))))))
  have f6 : 0 ≤ 59 + ((-1) * τ 19002 + 0) := hf _ (List.Mem.tail _ (List.Mem.tail _ (List.Mem.tail _ (List.Mem.tail _ (List.Mem.tail _ (List.Mem.tail _ (List.Mem.head _)))))))
  have f7 : 0 ≤ (-1) + (1 * τ 6146 + ((-1) * τ 19002 + 0)) := hf _ (List.Mem.tail _ (List.Mem.tail _ (List.Mem.tail _ (List.Mem.tail _ (List.Mem.tail _ (List.Mem.tail _ (List.Mem.tail _ (List.Mem.head _))))))))
  clear hf hm
  exact Or.inl ⟨by omega, Or.inr (Or.inr (Or.inr ⟨by omega, by omega, by omega, by omega⟩))⟩
theorem lw_wx_28 {as : List rv_A} {σ σ' : Nat → Int} {o : rv_O} {x : Int32} {a1 a2 : Int} {τ : Nat → Int} (hx : o.1 = some (.inl x)) (h1 : lw_av as 1 = a1) (h2 : lw_av as 2 = a2) (hb : ∀ s, (sx_sr s).1 ≤ σ s ∧ σ s ≤ (sx_sr s).2) (hW : lw_W ([], [((-2), [(6145, 1)]), (2, [(6145, (-1))]), ((-1), [(6146, 1)]), ((-3), [(19001, 1)]), (3, [(19001, (-1))]), (0, [(19002, 1)]), (59, [(19002, (-1))]), ((-1), [(6146, 1), (19002, (-1))])], [(9, (0, []))], some (false, (1, []))) as σ σ' τ o) : lw_wx_C a1 a2 x.toInt σ σ' := by
  unfold lw_wx_C
  have b5377 : (-1) ≤ σ 5377 ∧ σ 5377 ≤ 3 := by
    have h0 := hb 5377
    rw [show sx_sr 5377 = ((-1), 3) from by decide +kernel] at h0
    exact h0
  have b5633 : (-1) ≤ σ 5633 ∧ σ 5633 ≤ 3 := by
    have h0 := hb 5633
    rw [show sx_sr 5633 = ((-1), 3) from by decide +kernel] at h0
    exact h0
  have b5889 : (-1) ≤ σ 5889 ∧ σ 5889 ≤ 3 := by
    have h0 := hb 5889
    rw [show sx_sr 5889 = ((-1), 3) from by decide +kernel] at h0
    exact h0
  have b6145 : (-1) ≤ σ 6145 ∧ σ 6145 ≤ 3 := by
    have h0 := hb 6145
    rw [show sx_sr 6145 = ((-1), 3) from by decide +kernel] at h0
    exact h0
  have b5378 : 0 ≤ σ 5378 ∧ σ 5378 ≤ 60 := by
    have h0 := hb 5378
    rw [show sx_sr 5378 = (0, 60) from by decide +kernel] at h0
    exact h0
  have b5634 : 0 ≤ σ 5634 ∧ σ 5634 ≤ 60 := by
    have h0 := hb 5634
    rw [show sx_sr 5634 = (0, 60) from by decide +kernel] at h0
    exact h0
  have b5890 : 0 ≤ σ 5890 ∧ σ 5890 ≤ 60 := by
    have h0 := hb 5890
    rw [show sx_sr 5890 = (0, 60) from by decide +kernel] at h0
    exact h0
  have b6146 : 0 ≤ σ 6146 ∧ σ 6146 ≤ 60 := by
    have h0 := hb 6146
    rw [show sx_sr 6146 = (0, 60) from by decide +kernel] at h0
    exact h0
  obtain ⟨hs, ht, hf, hr, hm, hw⟩ := hW
  have e1 : τ 19001 = a1 := by rw [ht 19001 (by decide) (by decide)]; exact h1
  have e2 : τ 19002 = a2 := by rw [ht 19002 (by decide) (by decide)]; exact h2
  have s5377 : τ 5377 = σ 5377 := hs 5377 (by decide)
  have s5378 : τ 5378 = σ 5378 := hs 5378 (by decide)
  have s5633 : τ 5633 = σ 5633 := hs 5633 (by decide)
  have s5634 : τ 5634 = σ 5634 := hs 5634 (by decide)
  have s5889 : τ 5889 = σ 5889 := hs 5889 (by decide)
  have s5890 : τ 5890 = σ 5890 := hs 5890 (by decide)
  have s6145 : τ 6145 = σ 6145 := hs 6145 (by decide)
  have s6146 : τ 6146 = σ 6146 := hs 6146 (by decide)
  clear hs ht hb
  rw [hx] at hr
  obtain ⟨y, hy, hv⟩ := hr
  cases hy
  replace hv : x.toInt = 1 + 0 := hv
  have f0 : 0 ≤ (-2) + (1 * τ 6145 + 0) := hf _ (List.Mem.head _)
  have f1 : 0 ≤ 2 + ((-1) * τ 6145 + 0) := hf _ (List.Mem.tail _ (List.Mem.head _))
  have f2 : 0 ≤ (-1) + (1 * τ 6146 + 0) := hf _ (List.Mem.tail _ (List.Mem.tail _ (List.Mem.head _)))
  have f3 : 0 ≤ (-3) + (1 * τ 19001 + 0) := hf _ (List.Mem.tail _ (List.Mem.tail _ (List.Mem.tail _ (List.Mem.head _))))
  have f4 : 0 ≤ 3 + ((-1) * τ 19001 + 0) := hf _ (List.Mem.tail _ (List.Mem.tail _ (List.Mem.tail _ (List.Mem.tail _ (List.Mem.head _)))))
  have f5 : 0 ≤ 0 + (1 * τ 19002 + 0) := hf _ (List.Mem.tail _ (List.Mem.tail _ (List.Mem.tail _ (List.Mem.tail _ (List.Mem.tail _ (List.Mem.head _))))))
  have f6 : 0 ≤ 59 + ((-1) * τ 19002 + 0) := hf _ (List.Mem.tail _ (List.Mem.tail _ (List.Mem.tail _ (List.Mem.tail _ (List.Mem.tail _ (List.Mem.tail _ (List.Mem.head _)))))))
  have f7 : 0 ≤ (-1) + (1 * τ 6146 + ((-1) * τ 19002 + 0)) := hf _ (List.Mem.tail _ (List.Mem.tail _ (List.Mem.tail _ (List.Mem.tail _ (List.Mem.tail _ (List.Mem.tail _ (List.Mem.tail _ (List.Mem.head _))))))))
  clear hf hm
  exact Or.inl ⟨by omega, Or.inr (Or.inr (Or.inr ⟨by omega, by omega, by omega, by omega⟩))⟩
theorem lw_wx_29 {as : List rv_A} {σ σ' : Nat → Int} {o : rv_O} {x : Int32} {a1 a2 : Int} {τ : Nat → Int} (hx : o.1 = some (.inl x)) (h1 : lw_av as 1 = a1) (h2 : lw_av as 2 = a2) (hb : ∀ s, (sx_sr s).1 ≤ σ s ∧ σ s ≤ (sx_sr s).2) (hW : lw_W ([], [((-3), [(6145, 1)]), ((-1), [(6146, 1)]), ((-3), [(19001, 1)]), (3, [(19001, (-1))]), (0, [(19002, 1)]), (59, [(19002, (-1))]), ((-1), [(6146, 1), (19002, (-1))])], [(9, (0, []))], some (false, (1, []))) as σ σ' τ o) : lw_wx_C a1 a2 x.toInt σ σ' := by
  unfold lw_wx_C
  have b5377 : (-1) ≤ σ 5377 ∧ σ 5377 ≤ 3 := by
    have h0 := hb 5377
    rw [show sx_sr 5377 = ((-1), 3) from by decide +kernel] at h0
    exact h0
  have b5633 : (-1) ≤ σ 5633 ∧ σ 5633 ≤ 3 := by
    have h0 := hb 5633
    rw [show sx_sr 5633 = ((-1), 3) from by decide +kernel] at h0
    exact h0
  have b5889 : (-1) ≤ σ 5889 ∧ σ 5889 ≤ 3 := by
    have h0 := hb 5889
    rw [show sx_sr 5889 = ((-1), 3) from by decide +kernel] at h0
    exact h0
  have b6145 : (-1) ≤ σ 6145 ∧ σ 6145 ≤ 3 := by
    have h0 := hb 6145
    rw [show sx_sr 6145 = ((-1), 3) from by decide +kernel] at h0
    exact h0
  have b5378 : 0 ≤ σ 5378 ∧ σ 5378 ≤ 60 := by
    have h0 := hb 5378
    rw [show sx_sr 5378 = (0, 60) from by decide +kernel] at h0
    exact h0
  have b5634 : 0 ≤ σ 5634 ∧ σ 5634 ≤ 60 := by
    have h0 := hb 5634
    rw [show sx_sr 5634 = (0, 60) from by decide +kernel] at h0
    exact h0
  have b5890 : 0 ≤ σ 5890 ∧ σ 5890 ≤ 60 := by
    have h0 := hb 5890
    rw [show sx_sr 5890 = (0, 60) from by decide +kernel] at h0
    exact h0
  have b6146 : 0 ≤ σ 6146 ∧ σ 6146 ≤ 60 := by
    have h0 := hb 6146
    rw [show sx_sr 6146 = (0, 60) from by decide +kernel] at h0
    exact h0
  obtain ⟨hs, ht, hf, hr, hm, hw⟩ := hW
  have e1 : τ 19001 = a1 := by rw [ht 19001 (by decide) (by decide)]; exact h1
  have e2 : τ 19002 = a2 := by rw [ht 19002 (by decide) (by decide)]; exact h2
  have s5377 : τ 5377 = σ 5377 := hs 5377 (by decide)
  have s5378 : τ 5378 = σ 5378 := hs 5378 (by decide)
  have s5633 : τ 5633 = σ 5633 := hs 5633 (by decide)
  have s5634 : τ 5634 = σ 5634 := hs 5634 (by decide)
  have s5889 : τ 5889 = σ 5889 := hs 5889 (by decide)
  have s5890 : τ 5890 = σ 5890 := hs 5890 (by decide)
  have s6145 : τ 6145 = σ 6145 := hs 6145 (by decide)
  have s6146 : τ 6146 = σ 6146 := hs 6146 (by decide)
  clear hs ht hb
  rw [hx] at hr
  obtain ⟨y, hy, hv⟩ := hr
  cases hy
  replace hv : x.toInt = 1 + 0 := hv
  have f0 : 0 ≤ (-3) + (1 * τ 6145 + 0) := hf _ (List.Mem.head _)
  have f1 : 0 ≤ (-1) + (1 * τ 6146 + 0) := hf _ (List.Mem.tail _ (List.Mem.head _))
  have f2 : 0 ≤ (-3) + (1 * τ 19001 + 0) := hf _ (List.Mem.tail _ (List.Mem.tail _ (List.Mem.head _)))
  have f3 : 0 ≤ 3 + ((-1) * τ 19001 + 0) := hf _ (List.Mem.tail _ (List.Mem.tail _ (List.Mem.tail _ (List.Mem.head _))))
  have f4 : 0 ≤ 0 + (1 * τ 19002 + 0) := hf _ (List.Mem.tail _ (List.Mem.tail _ (List.Mem.tail _ (List.Mem.tail _ (List.Mem.head _)))))
  have f5 : 0 ≤ 59 + ((-1) * τ 19002 + 0) := hf _ (List.Mem.tail _ (List.Mem.tail _ (List.Mem.tail _ (List.Mem.tail _ (List.Mem.tail _ (List.Mem.head _))))))
  have f6 : 0 ≤ (-1) + (1 * τ 6146 + ((-1) * τ 19002 + 0)) := hf _ (List.Mem.tail _ (List.Mem.tail _ (List.Mem.tail _ (List.Mem.tail _ (List.Mem.tail _ (List.Mem.tail _ (List.Mem.head _)))))))
  clear hf hm
  exact Or.inl ⟨by omega, Or.inr (Or.inr (Or.inr ⟨by omega, by omega, by omega, by omega⟩))⟩
set_option maxHeartbeats 4000000 in
theorem lw_wx {as : List rv_A} {σ σ' : Nat → Int} {o : rv_O} {x : Int32} {a1 a2 : Int} (hx : o.1 = some (.inl x)) (h1 : lw_av as 1 = a1) (h2 : lw_av as 2 = a2) (hb : ∀ s, (sx_sr s).1 ≤ σ s ∧ σ s ≤ (sx_sr s).2) (h : lw_Qc sx_c246 as σ σ' o) : lw_wx_C a1 a2 x.toInt σ σ' := by
  obtain ⟨g, hg, τ, hW⟩ := h
  simp only [sx_c246, List.mem_cons, List.not_mem_nil, or_false] at hg
  rcases hg with rfl | rfl | rfl | rfl | rfl | rfl | rfl | rfl | rfl | rfl | rfl | rfl | rfl | rfl | rfl | rfl | rfl | rfl | rfl | rfl | rfl | rfl | rfl | rfl | rfl | rfl | rfl | rfl | rfl | rfl
  · exact lw_wx_0 hx h1 h2 hb hW
  · exact lw_wx_1 hx h1 h2 hb hW
  · exact lw_wx_2 hx h1 h2 hb hW
  · exact lw_wx_3 hx h1 h2 hb hW
  · exact lw_wx_4 hx h1 h2 hb hW
  · exact lw_wx_5 hx h1 h2 hb hW
  · exact lw_wx_6 hx h1 h2 hb hW
  · exact lw_wx_7 hx h1 h2 hb hW
  · exact lw_wx_8 hx h1 h2 hb hW
  · exact lw_wx_9 hx h1 h2 hb hW
  · exact lw_wx_10 hx h1 h2 hb hW
  · exact lw_wx_11 hx h1 h2 hb hW
  · exact lw_wx_12 hx h1 h2 hb hW
  · exact lw_wx_13 hx h1 h2 hb hW
  · exact lw_wx_14 hx h1 h2 hb hW
  · exact lw_wx_15 hx h1 h2 hb hW
  · exact lw_wx_16 hx h1 h2 hb hW
  · exact lw_wx_17 hx h1 h2 hb hW
  · exact lw_wx_18 hx h1 h2 hb hW
  · exact lw_wx_19 hx h1 h2 hb hW
  · exact lw_wx_20 hx h1 h2 hb hW
  · exact lw_wx_21 hx h1 h2 hb hW
  · exact lw_wx_22 hx h1 h2 hb hW
  · exact lw_wx_23 hx h1 h2 hb hW
  · exact lw_wx_24 hx h1 h2 hb hW
  · exact lw_wx_25 hx h1 h2 hb hW
  · exact lw_wx_26 hx h1 h2 hb hW
  · exact lw_wx_27 hx h1 h2 hb hW
  · exact lw_wx_28 hx h1 h2 hb hW
  · exact lw_wx_29 hx h1 h2 hb hW
def lw_wm_C (a1 a2 z : Int) (σ σ' : Nat → Int) : Prop := (z = 1 ∧ (lw_WR a1 a2 (σ 18505) (σ 18505) (σ 18506) (σ 18506) (σ 18507) (σ 18507) (σ 18508) (σ 18508))) ∨ (z = 0 ∧ ¬ (lw_WR a1 a2 (σ 18505) (σ 18505) (σ 18506) (σ 18506) (σ 18507) (σ 18507) (σ 18508) (σ 18508)))
theorem lw_wm_0 {as : List rv_A} {σ σ' : Nat → Int} {o : rv_O} {x : Int32} {a1 a2 : Int} {τ : Nat → Int} (hx : o.1 = some (.inl x)) (h1 : lw_av as 1 = a1) (h2 : lw_av as 2 = a2) (hb : ∀ s, (sx_sr s).1 ≤ σ s ∧ σ s ≤ (sx_sr s).2) (hW : lw_W ([], [((-1), [(18505, (-1))]), (0, [(19001, 1)]), (0, [(19001, (-1))])], [(12800, (2, []))], some (false, (0, []))) as σ σ' τ o) : lw_wm_C a1 a2 x.toInt σ σ' := by
  unfold lw_wm_C
  have b18501 : 0 ≤ σ 18501 ∧ σ 18501 ≤ 3 := by
    have h0 := hb 18501
    rw [show sx_sr 18501 = (0, 3) from by decide +kernel] at h0
    exact h0
  have b18502 : 0 ≤ σ 18502 ∧ σ 18502 ≤ 3 := by
    have h0 := hb 18502
    rw [show sx_sr 18502 = (0, 3) from by decide +kernel] at h0
    exact h0
  have b18503 : 0 ≤ σ 18503 ∧ σ 18503 ≤ 3 := by
    have h0 := hb 18503
    rw [show sx_sr 18503 = (0, 3) from by decide +kernel] at h0
    exact h0
  have b18504 : 0 ≤ σ 18504 ∧ σ 18504 ≤ 3 := by
    have h0 := hb 18504
    rw [show sx_sr 18504 = (0, 3) from by decide +kernel] at h0
    exact h0
  have b18505 : (-1) ≤ σ 18505 ∧ σ 18505 ≤ 60 := by
    have h0 := hb 18505
    rw [show sx_sr 18505 = ((-1), 60) from by decide +kernel] at h0
    exact h0
  have b18506 : (-1) ≤ σ 18506 ∧ σ 18506 ≤ 60 := by
    have h0 := hb 18506
    rw [show sx_sr 18506 = ((-1), 60) from by decide +kernel] at h0
    exact h0
  have b18507 : (-1) ≤ σ 18507 ∧ σ 18507 ≤ 60 := by
    have h0 := hb 18507
    rw [show sx_sr 18507 = ((-1), 60) from by decide +kernel] at h0
    exact h0
  have b18508 : (-1) ≤ σ 18508 ∧ σ 18508 ≤ 60 := by
    have h0 := hb 18508
    rw [show sx_sr 18508 = ((-1), 60) from by decide +kernel] at h0
    exact h0
  obtain ⟨hs, ht, hf, hr, hm, hw⟩ := hW
  have e1 : τ 19001 = a1 := by rw [ht 19001 (by decide) (by decide)]; exact h1
  have e2 : τ 19002 = a2 := by rw [ht 19002 (by decide) (by decide)]; exact h2
  have s18501 : τ 18501 = σ 18501 := hs 18501 (by decide)
  have s18502 : τ 18502 = σ 18502 := hs 18502 (by decide)
  have s18503 : τ 18503 = σ 18503 := hs 18503 (by decide)
  have s18504 : τ 18504 = σ 18504 := hs 18504 (by decide)
  have s18505 : τ 18505 = σ 18505 := hs 18505 (by decide)
  have s18506 : τ 18506 = σ 18506 := hs 18506 (by decide)
  have s18507 : τ 18507 = σ 18507 := hs 18507 (by decide)
  have s18508 : τ 18508 = σ 18508 := hs 18508 (by decide)
  clear hs ht hb
  rw [hx] at hr
  obtain ⟨y, hy, hv⟩ := hr
  cases hy
  replace hv : x.toInt = 0 + 0 := hv
  have f0 : 0 ≤ (-1) + ((-1) * τ 18505 + 0) := hf _ (List.Mem.head _)
  have f1 : 0 ≤ 0 + (1 * τ 19001 + 0) := hf _ (List.Mem.tail _ (List.Mem.head _))
  have f2 : 0 ≤ 0 + ((-1) * τ 19001 + 0) := hf _ (List.Mem.tail _ (List.Mem.tail _ (List.Mem.head _)))
  clear hf hm
  refine Or.inr ⟨by omega, fun h => ?_⟩
  rcases h with ⟨z1, z2, z3, z4⟩ | ⟨z1, z2, z3, z4⟩ | ⟨z1, z2, z3, z4⟩ | ⟨z1, z2, z3, z4⟩ <;> omega
theorem lw_wm_1 {as : List rv_A} {σ σ' : Nat → Int} {o : rv_O} {x : Int32} {a1 a2 : Int} {τ : Nat → Int} (hx : o.1 = some (.inl x)) (h1 : lw_av as 1 = a1) (h2 : lw_av as 2 = a2) (hb : ∀ s, (sx_sr s).1 ≤ σ s ∧ σ s ≤ (sx_sr s).2) (hW : lw_W ([], [(0, [(18505, 1)]), (0, [(19001, 1)]), (0, [(19001, (-1))]), ((-1), [(19002, (-1))])], [(12800, (3, []))], some (false, (0, []))) as σ σ' τ o) : lw_wm_C a1 a2 x.toInt σ σ' := by
  unfold lw_wm_C
  have b18501 : 0 ≤ σ 18501 ∧ σ 18501 ≤ 3 := by
    have h0 := hb 18501
    rw [show sx_sr 18501 = (0, 3) from by decide +kernel] at h0
    exact h0
  have b18502 : 0 ≤ σ 18502 ∧ σ 18502 ≤ 3 := by
    have h0 := hb 18502
    rw [show sx_sr 18502 = (0, 3) from by decide +kernel] at h0
    exact h0
  have b18503 : 0 ≤ σ 18503 ∧ σ 18503 ≤ 3 := by
    have h0 := hb 18503
    rw [show sx_sr 18503 = (0, 3) from by decide +kernel] at h0
    exact h0
  have b18504 : 0 ≤ σ 18504 ∧ σ 18504 ≤ 3 := by
    have h0 := hb 18504
    rw [show sx_sr 18504 = (0, 3) from by decide +kernel] at h0
    exact h0
  have b18505 : (-1) ≤ σ 18505 ∧ σ 18505 ≤ 60 := by
    have h0 := hb 18505
    rw [show sx_sr 18505 = ((-1), 60) from by decide +kernel] at h0
    exact h0
  have b18506 : (-1) ≤ σ 18506 ∧ σ 18506 ≤ 60 := by
    have h0 := hb 18506
    rw [show sx_sr 18506 = ((-1), 60) from by decide +kernel] at h0
    exact h0
  have b18507 : (-1) ≤ σ 18507 ∧ σ 18507 ≤ 60 := by
    have h0 := hb 18507
    rw [show sx_sr 18507 = ((-1), 60) from by decide +kernel] at h0
    exact h0
  have b18508 : (-1) ≤ σ 18508 ∧ σ 18508 ≤ 60 := by
    have h0 := hb 18508
    rw [show sx_sr 18508 = ((-1), 60) from by decide +kernel] at h0
    exact h0
  obtain ⟨hs, ht, hf, hr, hm, hw⟩ := hW
  have e1 : τ 19001 = a1 := by rw [ht 19001 (by decide) (by decide)]; exact h1
  have e2 : τ 19002 = a2 := by rw [ht 19002 (by decide) (by decide)]; exact h2
  have s18501 : τ 18501 = σ 18501 := hs 18501 (by decide)
  have s18502 : τ 18502 = σ 18502 := hs 18502 (by decide)
  have s18503 : τ 18503 = σ 18503 := hs 18503 (by decide)
  have s18504 : τ 18504 = σ 18504 := hs 18504 (by decide)
  have s18505 : τ 18505 = σ 18505 := hs 18505 (by decide)
  have s18506 : τ 18506 = σ 18506 := hs 18506 (by decide)
  have s18507 : τ 18507 = σ 18507 := hs 18507 (by decide)
  have s18508 : τ 18508 = σ 18508 := hs 18508 (by decide)
  clear hs ht hb
  rw [hx] at hr
  obtain ⟨y, hy, hv⟩ := hr
  cases hy
  replace hv : x.toInt = 0 + 0 := hv
  have f0 : 0 ≤ 0 + (1 * τ 18505 + 0) := hf _ (List.Mem.head _)
  have f1 : 0 ≤ 0 + (1 * τ 19001 + 0) := hf _ (List.Mem.tail _ (List.Mem.head _))
  have f2 : 0 ≤ 0 + ((-1) * τ 19001 + 0) := hf _ (List.Mem.tail _ (List.Mem.tail _ (List.Mem.head _)))
  have f3 : 0 ≤ (-1) + ((-1) * τ 19002 + 0) := hf _ (List.Mem.tail _ (List.Mem.tail _ (List.Mem.tail _ (List.Mem.head _))))
  clear hf hm
  refine Or.inr ⟨by omega, fun h => ?_⟩
  rcases h with ⟨z1, z2, z3, z4⟩ | ⟨z1, z2, z3, z4⟩ | ⟨z1, z2, z3, z4⟩ | ⟨z1, z2, z3, z4⟩ <;> omega
theorem lw_wm_2 {as : List rv_A} {σ σ' : Nat → Int} {o : rv_O} {x : Int32} {a1 a2 : Int} {τ : Nat → Int} (hx : o.1 = some (.inl x)) (h1 : lw_av as 1 = a1) (h2 : lw_av as 2 = a2) (hb : ∀ s, (sx_sr s).1 ≤ σ s ∧ σ s ≤ (sx_sr s).2) (hW : lw_W ([], [(0, [(18505, 1)]), (0, [(19001, 1)]), (0, [(19001, (-1))]), (0, [(19002, 1)]), (0, [(18505, (-1)), (19002, 1)])], [(12800, (3, []))], some (false, (0, []))) as σ σ' τ o) : lw_wm_C a1 a2 x.toInt σ σ' := by
  unfold lw_wm_C
  have b18501 : 0 ≤ σ 18501 ∧ σ 18501 ≤ 3 := by
    have h0 := hb 18501
    rw [show sx_sr 18501 = (0, 3) from by decide +kernel] at h0
    exact h0
  have b18502 : 0 ≤ σ 18502 ∧ σ 18502 ≤ 3 := by
    have h0 := hb 18502
    rw [show sx_sr 18502 = (0, 3) from by decide +kernel] at h0
    exact h0
  have b18503 : 0 ≤ σ 18503 ∧ σ 18503 ≤ 3 := by
    have h0 := hb 18503
    rw [show sx_sr 18503 = (0, 3) from by decide +kernel] at h0
    exact h0
  have b18504 : 0 ≤ σ 18504 ∧ σ 18504 ≤ 3 := by
    have h0 := hb 18504
    rw [show sx_sr 18504 = (0, 3) from by decide +kernel] at h0
    exact h0
  have b18505 : (-1) ≤ σ 18505 ∧ σ 18505 ≤ 60 := by
    have h0 := hb 18505
    rw [show sx_sr 18505 = ((-1), 60) from by decide +kernel] at h0
    exact h0
  have b18506 : (-1) ≤ σ 18506 ∧ σ 18506 ≤ 60 := by
    have h0 := hb 18506
    rw [show sx_sr 18506 = ((-1), 60) from by decide +kernel] at h0
    exact h0
  have b18507 : (-1) ≤ σ 18507 ∧ σ 18507 ≤ 60 := by
    have h0 := hb 18507
    rw [show sx_sr 18507 = ((-1), 60) from by decide +kernel] at h0
    exact h0
  have b18508 : (-1) ≤ σ 18508 ∧ σ 18508 ≤ 60 := by
    have h0 := hb 18508
    rw [show sx_sr 18508 = ((-1), 60) from by decide +kernel] at h0
    exact h0
  obtain ⟨hs, ht, hf, hr, hm, hw⟩ := hW
  have e1 : τ 19001 = a1 := by rw [ht 19001 (by decide) (by decide)]; exact h1
  have e2 : τ 19002 = a2 := by rw [ht 19002 (by decide) (by decide)]; exact h2
  have s18501 : τ 18501 = σ 18501 := hs 18501 (by decide)
  have s18502 : τ 18502 = σ 18502 := hs 18502 (by decide)
  have s18503 : τ 18503 = σ 18503 := hs 18503 (by decide)
  have s18504 : τ 18504 = σ 18504 := hs 18504 (by decide)
  have s18505 : τ 18505 = σ 18505 := hs 18505 (by decide)
  have s18506 : τ 18506 = σ 18506 := hs 18506 (by decide)
  have s18507 : τ 18507 = σ 18507 := hs 18507 (by decide)
  have s18508 : τ 18508 = σ 18508 := hs 18508 (by decide)
  clear hs ht hb
  rw [hx] at hr
  obtain ⟨y, hy, hv⟩ := hr
  cases hy
  replace hv : x.toInt = 0 + 0 := hv
  have f0 : 0 ≤ 0 + (1 * τ 18505 + 0) := hf _ (List.Mem.head _)
  have f1 : 0 ≤ 0 + (1 * τ 19001 + 0) := hf _ (List.Mem.tail _ (List.Mem.head _))
  have f2 : 0 ≤ 0 + ((-1) * τ 19001 + 0) := hf _ (List.Mem.tail _ (List.Mem.tail _ (List.Mem.head _)))
  have f3 : 0 ≤ 0 + (1 * τ 19002 + 0) := hf _ (List.Mem.tail _ (List.Mem.tail _ (List.Mem.tail _ (List.Mem.head _))))
  have f4 : 0 ≤ 0 + ((-1) * τ 18505 + (1 * τ 19002 + 0)) := hf _ (List.Mem.tail _ (List.Mem.tail _ (List.Mem.tail _ (List.Mem.tail _ (List.Mem.head _)))))
  clear hf hm
  refine Or.inr ⟨by omega, fun h => ?_⟩
  rcases h with ⟨z1, z2, z3, z4⟩ | ⟨z1, z2, z3, z4⟩ | ⟨z1, z2, z3, z4⟩ | ⟨z1, z2, z3, z4⟩ <;> omega
theorem lw_wm_3 {as : List rv_A} {σ σ' : Nat → Int} {o : rv_O} {x : Int32} {a1 a2 : Int} {τ : Nat → Int} (hx : o.1 = some (.inl x)) (h1 : lw_av as 1 = a1) (h2 : lw_av as 2 = a2) (hb : ∀ s, (sx_sr s).1 ≤ σ s ∧ σ s ≤ (sx_sr s).2) (hW : lw_W ([], [((-1), [(18506, (-1))]), ((-1), [(19001, 1)]), (1, [(19001, (-1))])], [(12800, (2, []))], some (false, (0, []))) as σ σ' τ o) : lw_wm_C a1 a2 x.toInt σ σ' := by
  unfold lw_wm_C
  have b18501 : 0 ≤ σ 18501 ∧ σ 18501 ≤ 3 := by
    have h0 := hb 18501
    rw [show sx_sr 18501 = (0, 3) from by decide +kernel] at h0
    exact h0
  have b18502 : 0 ≤ σ 18502 ∧ σ 18502 ≤ 3 := by
    have h0 := hb 18502
    rw [show sx_sr 18502 = (0, 3) from by decide +kernel] at h0
    exact h0
  have b18503 : 0 ≤ σ 18503 ∧ σ 18503 ≤ 3 := by
    have h0 := hb 18503
    rw [show sx_sr 18503 = (0, 3) from by decide +kernel] at h0
    exact h0
  have b18504 : 0 ≤ σ 18504 ∧ σ 18504 ≤ 3 := by
    have h0 := hb 18504
    rw [show sx_sr 18504 = (0, 3) from by decide +kernel] at h0
    exact h0
  have b18505 : (-1) ≤ σ 18505 ∧ σ 18505 ≤ 60 := by
    have h0 := hb 18505
    rw [show sx_sr 18505 = ((-1), 60) from by decide +kernel] at h0
    exact h0
  have b18506 : (-1) ≤ σ 18506 ∧ σ 18506 ≤ 60 := by
    have h0 := hb 18506
    rw [show sx_sr 18506 = ((-1), 60) from by decide +kernel] at h0
    exact h0
  have b18507 : (-1) ≤ σ 18507 ∧ σ 18507 ≤ 60 := by
    have h0 := hb 18507
    rw [show sx_sr 18507 = ((-1), 60) from by decide +kernel] at h0
    exact h0
  have b18508 : (-1) ≤ σ 18508 ∧ σ 18508 ≤ 60 := by
    have h0 := hb 18508
    rw [show sx_sr 18508 = ((-1), 60) from by decide +kernel] at h0
    exact h0
  obtain ⟨hs, ht, hf, hr, hm, hw⟩ := hW
  have e1 : τ 19001 = a1 := by rw [ht 19001 (by decide) (by decide)]; exact h1
  have e2 : τ 19002 = a2 := by rw [ht 19002 (by decide) (by decide)]; exact h2
  have s18501 : τ 18501 = σ 18501 := hs 18501 (by decide)
  have s18502 : τ 18502 = σ 18502 := hs 18502 (by decide)
  have s18503 : τ 18503 = σ 18503 := hs 18503 (by decide)
  have s18504 : τ 18504 = σ 18504 := hs 18504 (by decide)
  have s18505 : τ 18505 = σ 18505 := hs 18505 (by decide)
  have s18506 : τ 18506 = σ 18506 := hs 18506 (by decide)
  have s18507 : τ 18507 = σ 18507 := hs 18507 (by decide)
  have s18508 : τ 18508 = σ 18508 := hs 18508 (by decide)
  clear hs ht hb
  rw [hx] at hr
  obtain ⟨y, hy, hv⟩ := hr
  cases hy
  replace hv : x.toInt = 0 + 0 := hv
  have f0 : 0 ≤ (-1) + ((-1) * τ 18506 + 0) := hf _ (List.Mem.head _)
  have f1 : 0 ≤ (-1) + (1 * τ 19001 + 0) := hf _ (List.Mem.tail _ (List.Mem.head _))
  have f2 : 0 ≤ 1 + ((-1) * τ 19001 + 0) := hf _ (List.Mem.tail _ (List.Mem.tail _ (List.Mem.head _)))
  clear hf hm
  refine Or.inr ⟨by omega, fun h => ?_⟩
  rcases h with ⟨z1, z2, z3, z4⟩ | ⟨z1, z2, z3, z4⟩ | ⟨z1, z2, z3, z4⟩ | ⟨z1, z2, z3, z4⟩ <;> omega
theorem lw_wm_4 {as : List rv_A} {σ σ' : Nat → Int} {o : rv_O} {x : Int32} {a1 a2 : Int} {τ : Nat → Int} (hx : o.1 = some (.inl x)) (h1 : lw_av as 1 = a1) (h2 : lw_av as 2 = a2) (hb : ∀ s, (sx_sr s).1 ≤ σ s ∧ σ s ≤ (sx_sr s).2) (hW : lw_W ([], [(0, [(18506, 1)]), ((-1), [(19001, 1)]), (1, [(19001, (-1))]), ((-1), [(19002, (-1))])], [(12800, (3, []))], some (false, (0, []))) as σ σ' τ o) : lw_wm_C a1 a2 x.toInt σ σ' := by
  unfold lw_wm_C
  have b18501 : 0 ≤ σ 18501 ∧ σ 18501 ≤ 3 := by
    have h0 := hb 18501
    rw [show sx_sr 18501 = (0, 3) from by decide +kernel] at h0
    exact h0
  have b18502 : 0 ≤ σ 18502 ∧ σ 18502 ≤ 3 := by
    have h0 := hb 18502
    rw [show sx_sr 18502 = (0, 3) from by decide +kernel] at h0
    exact h0
  have b18503 : 0 ≤ σ 18503 ∧ σ 18503 ≤ 3 := by
    have h0 := hb 18503
    rw [show sx_sr 18503 = (0, 3) from by decide +kernel] at h0
    exact h0
  have b18504 : 0 ≤ σ 18504 ∧ σ 18504 ≤ 3 := by
    have h0 := hb 18504
    rw [show sx_sr 18504 = (0, 3) from by decide +kernel] at h0
    exact h0
  have b18505 : (-1) ≤ σ 18505 ∧ σ 18505 ≤ 60 := by
    have h0 := hb 18505
    rw [show sx_sr 18505 = ((-1), 60) from by decide +kernel] at h0
    exact h0
  have b18506 : (-1) ≤ σ 18506 ∧ σ 18506 ≤ 60 := by
    have h0 := hb 18506
    rw [show sx_sr 18506 = ((-1), 60) from by decide +kernel] at h0
    exact h0
  have b18507 : (-1) ≤ σ 18507 ∧ σ 18507 ≤ 60 := by
    have h0 := hb 18507
    rw [show sx_sr 18507 = ((-1), 60) from by decide +kernel] at h0
    exact h0
  have b18508 : (-1) ≤ σ 18508 ∧ σ 18508 ≤ 60 := by
    have h0 := hb 18508
    rw [show sx_sr 18508 = ((-1), 60) from by decide +kernel] at h0
    exact h0
  obtain ⟨hs, ht, hf, hr, hm, hw⟩ := hW
  have e1 : τ 19001 = a1 := by rw [ht 19001 (by decide) (by decide)]; exact h1
  have e2 : τ 19002 = a2 := by rw [ht 19002 (by decide) (by decide)]; exact h2
  have s18501 : τ 18501 = σ 18501 := hs 18501 (by decide)
  have s18502 : τ 18502 = σ 18502 := hs 18502 (by decide)
  have s18503 : τ 18503 = σ 18503 := hs 18503 (by decide)
  have s18504 : τ 18504 = σ 18504 := hs 18504 (by decide)
  have s18505 : τ 18505 = σ 18505 := hs 18505 (by decide)
  have s18506 : τ 18506 = σ 18506 := hs 18506 (by decide)
  have s18507 : τ 18507 = σ 18507 := hs 18507 (by decide)
  have s18508 : τ 18508 = σ 18508 := hs 18508 (by decide)
  clear hs ht hb
  rw [hx] at hr
  obtain ⟨y, hy, hv⟩ := hr
  cases hy
  replace hv : x.toInt = 0 + 0 := hv
  have f0 : 0 ≤ 0 + (1 * τ 18506 + 0) := hf _ (List.Mem.head _)
  have f1 : 0 ≤ (-1) + (1 * τ 19001 + 0) := hf _ (List.Mem.tail _ (List.Mem.head _))
  have f2 : 0 ≤ 1 + ((-1) * τ 19001 + 0) := hf _ (List.Mem.tail _ (List.Mem.tail _ (List.Mem.head _)))
  have f3 : 0 ≤ (-1) + ((-1) * τ 19002 + 0) := hf _ (List.Mem.tail _ (List.Mem.tail _ (List.Mem.tail _ (List.Mem.head _))))
  clear hf hm
  refine Or.inr ⟨by omega, fun h => ?_⟩
  rcases h with ⟨z1, z2, z3, z4⟩ | ⟨z1, z2, z3, z4⟩ | ⟨z1, z2, z3, z4⟩ | ⟨z1, z2, z3, z4⟩ <;> omega
theorem lw_wm_5 {as : List rv_A} {σ σ' : Nat → Int} {o : rv_O} {x : Int32} {a1 a2 : Int} {τ : Nat → Int} (hx : o.1 = some (.inl x)) (h1 : lw_av as 1 = a1) (h2 : lw_av as 2 = a2) (hb : ∀ s, (sx_sr s).1 ≤ σ s ∧ σ s ≤ (sx_sr s).2) (hW : lw_W ([], [(0, [(18506, 1)]), ((-1), [(19001, 1)]), (1, [(19001, (-1))]), (0, [(19002, 1)]), (0, [(18506, (-1)), (19002, 1)])], [(12800, (3, []))], some (false, (0, []))) as σ σ' τ o) : lw_wm_C a1 a2 x.toInt σ σ' := by
  unfold lw_wm_C
  have b18501 : 0 ≤ σ 18501 ∧ σ 18501 ≤ 3 := by
    have h0 := hb 18501
    rw [show sx_sr 18501 = (0, 3) from by decide +kernel] at h0
    exact h0
  have b18502 : 0 ≤ σ 18502 ∧ σ 18502 ≤ 3 := by
    have h0 := hb 18502
    rw [show sx_sr 18502 = (0, 3) from by decide +kernel] at h0
    exact h0
  have b18503 : 0 ≤ σ 18503 ∧ σ 18503 ≤ 3 := by
    have h0 := hb 18503
    rw [show sx_sr 18503 = (0, 3) from by decide +kernel] at h0
    exact h0
  have b18504 : 0 ≤ σ 18504 ∧ σ 18504 ≤ 3 := by
    have h0 := hb 18504
    rw [show sx_sr 18504 = (0, 3) from by decide +kernel] at h0
    exact h0
  have b18505 : (-1) ≤ σ 18505 ∧ σ 18505 ≤ 60 := by
    have h0 := hb 18505
    rw [show sx_sr 18505 = ((-1), 60) from by decide +kernel] at h0
    exact h0
  have b18506 : (-1) ≤ σ 18506 ∧ σ 18506 ≤ 60 := by
    have h0 := hb 18506
    rw [show sx_sr 18506 = ((-1), 60) from by decide +kernel] at h0
    exact h0
  have b18507 : (-1) ≤ σ 18507 ∧ σ 18507 ≤ 60 := by
    have h0 := hb 18507
    rw [show sx_sr 18507 = ((-1), 60) from by decide +kernel] at h0
    exact h0
  have b18508 : (-1) ≤ σ 18508 ∧ σ 18508 ≤ 60 := by
    have h0 := hb 18508
    rw [show sx_sr 18508 = ((-1), 60) from by decide +kernel] at h0
    exact h0
  obtain ⟨hs, ht, hf, hr, hm, hw⟩ := hW
  have e1 : τ 19001 = a1 := by rw [ht 19001 (by decide) (by decide)]; exact h1
  have e2 : τ 19002 = a2 := by rw [ht 19002 (by decide) (by decide)]; exact h2
  have s18501 : τ 18501 = σ 18501 := hs 18501 (by decide)
  have s18502 : τ 18502 = σ 18502 := hs 18502 (by decide)
  have s18503 : τ 18503 = σ 18503 := hs 18503 (by decide)
  have s18504 : τ 18504 = σ 18504 := hs 18504 (by decide)
  have s18505 : τ 18505 = σ 18505 := hs 18505 (by decide)
  have s18506 : τ 18506 = σ 18506 := hs 18506 (by decide)
  have s18507 : τ 18507 = σ 18507 := hs 18507 (by decide)
  have s18508 : τ 18508 = σ 18508 := hs 18508 (by decide)
  clear hs ht hb
  rw [hx] at hr
  obtain ⟨y, hy, hv⟩ := hr
  cases hy
  replace hv : x.toInt = 0 + 0 := hv
  have f0 : 0 ≤ 0 + (1 * τ 18506 + 0) := hf _ (List.Mem.head _)
  have f1 : 0 ≤ (-1) + (1 * τ 19001 + 0) := hf _ (List.Mem.tail _ (List.Mem.head _))
  have f2 : 0 ≤ 1 + ((-1) * τ 19001 + 0) := hf _ (List.Mem.tail _ (List.Mem.tail _ (List.Mem.head _)))
  have f3 : 0 ≤ 0 + (1 * τ 19002 + 0) := hf _ (List.Mem.tail _ (List.Mem.tail _ (List.Mem.tail _ (List.Mem.head _))))
  have f4 : 0 ≤ 0 + ((-1) * τ 18506 + (1 * τ 19002 + 0)) := hf _ (List.Mem.tail _ (List.Mem.tail _ (List.Mem.tail _ (List.Mem.tail _ (List.Mem.head _)))))
  clear hf hm
  refine Or.inr ⟨by omega, fun h => ?_⟩
  rcases h with ⟨z1, z2, z3, z4⟩ | ⟨z1, z2, z3, z4⟩ | ⟨z1, z2, z3, z4⟩ | ⟨z1, z2, z3, z4⟩ <;> omega
theorem lw_wm_6 {as : List rv_A} {σ σ' : Nat → Int} {o : rv_O} {x : Int32} {a1 a2 : Int} {τ : Nat → Int} (hx : o.1 = some (.inl x)) (h1 : lw_av as 1 = a1) (h2 : lw_av as 2 = a2) (hb : ∀ s, (sx_sr s).1 ≤ σ s ∧ σ s ≤ (sx_sr s).2) (hW : lw_W ([], [((-1), [(18507, (-1))]), ((-2), [(19001, 1)]), (2, [(19001, (-1))])], [(12800, (2, []))], some (false, (0, []))) as σ σ' τ o) : lw_wm_C a1 a2 x.toInt σ σ' := by
  unfold lw_wm_C
  have b18501 : 0 ≤ σ 18501 ∧ σ 18501 ≤ 3 := by
    have h0 := hb 18501
    rw [show sx_sr 18501 = (0, 3) from by decide +kernel] at h0
    exact h0
  have b18502 : 0 ≤ σ 18502 ∧ σ 18502 ≤ 3 := by
    have h0 := hb 18502
    rw [show sx_sr 18502 = (0, 3) from by decide +kernel] at h0
    exact h0
  have b18503 : 0 ≤ σ 18503 ∧ σ 18503 ≤ 3 := by
    have h0 := hb 18503
    rw [show sx_sr 18503 = (0, 3) from by decide +kernel] at h0
    exact h0
  have b18504 : 0 ≤ σ 18504 ∧ σ 18504 ≤ 3 := by
    have h0 := hb 18504
    rw [show sx_sr 18504 = (0, 3) from by decide +kernel] at h0
    exact h0
  have b18505 : (-1) ≤ σ 18505 ∧ σ 18505 ≤ 60 := by
    have h0 := hb 18505
    rw [show sx_sr 18505 = ((-1), 60) from by decide +kernel] at h0
    exact h0
  have b18506 : (-1) ≤ σ 18506 ∧ σ 18506 ≤ 60 := by
    have h0 := hb 18506
    rw [show sx_sr 18506 = ((-1), 60) from by decide +kernel] at h0
    exact h0
  have b18507 : (-1) ≤ σ 18507 ∧ σ 18507 ≤ 60 := by
    have h0 := hb 18507
    rw [show sx_sr 18507 = ((-1), 60) from by decide +kernel] at h0
    exact h0
  have b18508 : (-1) ≤ σ 18508 ∧ σ 18508 ≤ 60 := by
    have h0 := hb 18508
    rw [show sx_sr 18508 = ((-1), 60) from by decide +kernel] at h0
    exact h0
  obtain ⟨hs, ht, hf, hr, hm, hw⟩ := hW
  have e1 : τ 19001 = a1 := by rw [ht 19001 (by decide) (by decide)]; exact h1
  have e2 : τ 19002 = a2 := by rw [ht 19002 (by decide) (by decide)]; exact h2
  have s18501 : τ 18501 = σ 18501 := hs 18501 (by decide)
  have s18502 : τ 18502 = σ 18502 := hs 18502 (by decide)
  have s18503 : τ 18503 = σ 18503 := hs 18503 (by decide)
  have s18504 : τ 18504 = σ 18504 := hs 18504 (by decide)
  have s18505 : τ 18505 = σ 18505 := hs 18505 (by decide)
  have s18506 : τ 18506 = σ 18506 := hs 18506 (by decide)
  have s18507 : τ 18507 = σ 18507 := hs 18507 (by decide)
  have s18508 : τ 18508 = σ 18508 := hs 18508 (by decide)
  clear hs ht hb
  rw [hx] at hr
  obtain ⟨y, hy, hv⟩ := hr
  cases hy
  replace hv : x.toInt = 0 + 0 := hv
  have f0 : 0 ≤ (-1) + ((-1) * τ 18507 + 0) := hf _ (List.Mem.head _)
  have f1 : 0 ≤ (-2) + (1 * τ 19001 + 0) := hf _ (List.Mem.tail _ (List.Mem.head _))
  have f2 : 0 ≤ 2 + ((-1) * τ 19001 + 0) := hf _ (List.Mem.tail _ (List.Mem.tail _ (List.Mem.head _)))
  clear hf hm
  refine Or.inr ⟨by omega, fun h => ?_⟩
  rcases h with ⟨z1, z2, z3, z4⟩ | ⟨z1, z2, z3, z4⟩ | ⟨z1, z2, z3, z4⟩ | ⟨z1, z2, z3, z4⟩ <;> omega
theorem lw_wm_7 {as : List rv_A} {σ σ' : Nat → Int} {o : rv_O} {x : Int32} {a1 a2 : Int} {τ : Nat → Int} (hx : o.1 = some (.inl x)) (h1 : lw_av as 1 = a1) (h2 : lw_av as 2 = a2) (hb : ∀ s, (sx_sr s).1 ≤ σ s ∧ σ s ≤ (sx_sr s).2) (hW : lw_W ([], [(0, [(18507, 1)]), ((-2), [(19001, 1)]), (2, [(19001, (-1))]), ((-1), [(19002, (-1))])], [(12800, (3, []))], some (false, (0, []))) as σ σ' τ o) : lw_wm_C a1 a2 x.toInt σ σ' := by
  unfold lw_wm_C
  have b18501 : 0 ≤ σ 18501 ∧ σ 18501 ≤ 3 := by
    have h0 := hb 18501
    rw [show sx_sr 18501 = (0, 3) from by decide +kernel] at h0
    exact h0
  have b18502 : 0 ≤ σ 18502 ∧ σ 18502 ≤ 3 := by
    have h0 := hb 18502
    rw [show sx_sr 18502 = (0, 3) from by decide +kernel] at h0
    exact h0
  have b18503 : 0 ≤ σ 18503 ∧ σ 18503 ≤ 3 := by
    have h0 := hb 18503
    rw [show sx_sr 18503 = (0, 3) from by decide +kernel] at h0
    exact h0
  have b18504 : 0 ≤ σ 18504 ∧ σ 18504 ≤ 3 := by
    have h0 := hb 18504
    rw [show sx_sr 18504 = (0, 3) from by decide +kernel] at h0
    exact h0
  have b18505 : (-1) ≤ σ 18505 ∧ σ 18505 ≤ 60 := by
    have h0 := hb 18505
    rw [show sx_sr 18505 = ((-1), 60) from by decide +kernel] at h0
    exact h0
  have b18506 : (-1) ≤ σ 18506 ∧ σ 18506 ≤ 60 := by
    have h0 := hb 18506
    rw [show sx_sr 18506 = ((-1), 60) from by decide +kernel] at h0
    exact h0
  have b18507 : (-1) ≤ σ 18507 ∧ σ 18507 ≤ 60 := by
    have h0 := hb 18507
    rw [show sx_sr 18507 = ((-1), 60) from by decide +kernel] at h0
    exact h0
  have b18508 : (-1) ≤ σ 18508 ∧ σ 18508 ≤ 60 := by
    have h0 := hb 18508
    rw [show sx_sr 18508 = ((-1), 60) from by decide +kernel] at h0
    exact h0
  obtain ⟨hs, ht, hf, hr, hm, hw⟩ := hW
  have e1 : τ 19001 = a1 := by rw [ht 19001 (by decide) (by decide)]; exact h1
  have e2 : τ 19002 = a2 := by rw [ht 19002 (by decide) (by decide)]; exact h2
  have s18501 : τ 18501 = σ 18501 := hs 18501 (by decide)
  have s18502 : τ 18502 = σ 18502 := hs 18502 (by decide)
  have s18503 : τ 18503 = σ 18503 := hs 18503 (by decide)
  have s18504 : τ 18504 = σ 18504 := hs 18504 (by decide)
  have s18505 : τ 18505 = σ 18505 := hs 18505 (by decide)
  have s18506 : τ 18506 = σ 18506 := hs 18506 (by decide)
  have s18507 : τ 18507 = σ 18507 := hs 18507 (by decide)
  have s18508 : τ 18508 = σ 18508 := hs 18508 (by decide)
  clear hs ht hb
  rw [hx] at hr
  obtain ⟨y, hy, hv⟩ := hr
  cases hy
  replace hv : x.toInt = 0 + 0 := hv
  have f0 : 0 ≤ 0 + (1 * τ 18507 + 0) := hf _ (List.Mem.head _)
  have f1 : 0 ≤ (-2) + (1 * τ 19001 + 0) := hf _ (List.Mem.tail _ (List.Mem.head _))
  have f2 : 0 ≤ 2 + ((-1) * τ 19001 + 0) := hf _ (List.Mem.tail _ (List.Mem.tail _ (List.Mem.head _)))
  have f3 : 0 ≤ (-1) + ((-1) * τ 19002 + 0) := hf _ (List.Mem.tail _ (List.Mem.tail _ (List.Mem.tail _ (List.Mem.head _))))
  clear hf hm
  refine Or.inr ⟨by omega, fun h => ?_⟩
  rcases h with ⟨z1, z2, z3, z4⟩ | ⟨z1, z2, z3, z4⟩ | ⟨z1, z2, z3, z4⟩ | ⟨z1, z2, z3, z4⟩ <;> omega
theorem lw_wm_8 {as : List rv_A} {σ σ' : Nat → Int} {o : rv_O} {x : Int32} {a1 a2 : Int} {τ : Nat → Int} (hx : o.1 = some (.inl x)) (h1 : lw_av as 1 = a1) (h2 : lw_av as 2 = a2) (hb : ∀ s, (sx_sr s).1 ≤ σ s ∧ σ s ≤ (sx_sr s).2) (hW : lw_W ([], [(0, [(18507, 1)]), ((-2), [(19001, 1)]), (2, [(19001, (-1))]), (0, [(19002, 1)]), (0, [(18507, (-1)), (19002, 1)])], [(12800, (3, []))], some (false, (0, []))) as σ σ' τ o) : lw_wm_C a1 a2 x.toInt σ σ' := by
  unfold lw_wm_C
  have b18501 : 0 ≤ σ 18501 ∧ σ 18501 ≤ 3 := by
    have h0 := hb 18501
    rw [show sx_sr 18501 = (0, 3) from by decide +kernel] at h0
    exact h0
  have b18502 : 0 ≤ σ 18502 ∧ σ 18502 ≤ 3 := by
    have h0 := hb 18502
    rw [show sx_sr 18502 = (0, 3) from by decide +kernel] at h0
    exact h0
  have b18503 : 0 ≤ σ 18503 ∧ σ 18503 ≤ 3 := by
    have h0 := hb 18503
    rw [show sx_sr 18503 = (0, 3) from by decide +kernel] at h0
    exact h0
  have b18504 : 0 ≤ σ 18504 ∧ σ 18504 ≤ 3 := by
    have h0 := hb 18504
    rw [show sx_sr 18504 = (0, 3) from by decide +kernel] at h0
    exact h0
  have b18505 : (-1) ≤ σ 18505 ∧ σ 18505 ≤ 60 := by
    have h0 := hb 18505
    rw [show sx_sr 18505 = ((-1), 60) from by decide +kernel] at h0
    exact h0
  have b18506 : (-1) ≤ σ 18506 ∧ σ 18506 ≤ 60 := by
    have h0 := hb 18506
    rw [show sx_sr 18506 = ((-1), 60) from by decide +kernel] at h0
    exact h0
  have b18507 : (-1) ≤ σ 18507 ∧ σ 18507 ≤ 60 := by
    have h0 := hb 18507
    rw [show sx_sr 18507 = ((-1), 60) from by decide +kernel] at h0
    exact h0
  have b18508 : (-1) ≤ σ 18508 ∧ σ 18508 ≤ 60 := by
    have h0 := hb 18508
    rw [show sx_sr 18508 = ((-1), 60) from by decide +kernel] at h0
    exact h0
  obtain ⟨hs, ht, hf, hr, hm, hw⟩ := hW
  have e1 : τ 19001 = a1 := by rw [ht 19001 (by decide) (by decide)]; exact h1
  have e2 : τ 19002 = a2 := by rw [ht 19002 (by decide) (by decide)]; exact h2
  have s18501 : τ 18501 = σ 18501 := hs 18501 (by decide)
  have s18502 : τ 18502 = σ 18502 := hs 18502 (by decide)
  have s18503 : τ 18503 = σ 18503 := hs 18503 (by decide)
  have s18504 : τ 18504 = σ 18504 := hs 18504 (by decide)
  have s18505 : τ 18505 = σ 18505 := hs 18505 (by decide)
  have s18506 : τ 18506 = σ 18506 := hs 18506 (by decide)
  have s18507 : τ 18507 = σ 18507 := hs 18507 (by decide)
  have s18508 : τ 18508 = σ 18508 := hs 18508 (by decide)
  clear hs ht hb
  rw [hx] at hr
  obtain ⟨y, hy, hv⟩ := hr
  cases hy
  replace hv : x.toInt = 0 + 0 := hv
  have f0 : 0 ≤ 0 + (1 * τ 18507 + 0) := hf _ (List.Mem.head _)
  have f1 : 0 ≤ (-2) + (1 * τ 19001 + 0) := hf _ (List.Mem.tail _ (List.Mem.head _))
  have f2 : 0 ≤ 2 + ((-1) * τ 19001 + 0) := hf _ (List.Mem.tail _ (List.Mem.tail _ (List.Mem.head _)))
  have f3 : 0 ≤ 0 + (1 * τ 19002 + 0) := hf _ (List.Mem.tail _ (List.Mem.tail _ (List.Mem.tail _ (List.Mem.head _))))
  have f4 : 0 ≤ 0 + ((-1) * τ 18507 + (1 * τ 19002 + 0)) := hf _ (List.Mem.tail _ (List.Mem.tail _ (List.Mem.tail _ (List.Mem.tail _ (List.Mem.head _)))))
  clear hf hm
  refine Or.inr ⟨by omega, fun h => ?_⟩
  rcases h with ⟨z1, z2, z3, z4⟩ | ⟨z1, z2, z3, z4⟩ | ⟨z1, z2, z3, z4⟩ | ⟨z1, z2, z3, z4⟩ <;> omega
theorem lw_wm_9 {as : List rv_A} {σ σ' : Nat → Int} {o : rv_O} {x : Int32} {a1 a2 : Int} {τ : Nat → Int} (hx : o.1 = some (.inl x)) (h1 : lw_av as 1 = a1) (h2 : lw_av as 2 = a2) (hb : ∀ s, (sx_sr s).1 ≤ σ s ∧ σ s ≤ (sx_sr s).2) (hW : lw_W ([], [((-1), [(18508, (-1))]), ((-3), [(19001, 1)]), (3, [(19001, (-1))])], [(12800, (2, []))], some (false, (0, []))) as σ σ' τ o) : lw_wm_C a1 a2 x.toInt σ σ' := by
  unfold lw_wm_C
  have b18501 : 0 ≤ σ 18501 ∧ σ 18501 ≤ 3 := by
    have h0 := hb 18501
    rw [show sx_sr 18501 = (0, 3) from by decide +kernel] at h0
    exact h0
  have b18502 : 0 ≤ σ 18502 ∧ σ 18502 ≤ 3 := by
    have h0 := hb 18502
    rw [show sx_sr 18502 = (0, 3) from by decide +kernel] at h0
    exact h0
  have b18503 : 0 ≤ σ 18503 ∧ σ 18503 ≤ 3 := by
    have h0 := hb 18503
    rw [show sx_sr 18503 = (0, 3) from by decide +kernel] at h0
    exact h0
  have b18504 : 0 ≤ σ 18504 ∧ σ 18504 ≤ 3 := by
    have h0 := hb 18504
    rw [show sx_sr 18504 = (0, 3) from by decide +kernel] at h0
    exact h0
  have b18505 : (-1) ≤ σ 18505 ∧ σ 18505 ≤ 60 := by
    have h0 := hb 18505
    rw [show sx_sr 18505 = ((-1), 60) from by decide +kernel] at h0
    exact h0
  have b18506 : (-1) ≤ σ 18506 ∧ σ 18506 ≤ 60 := by
    have h0 := hb 18506
    rw [show sx_sr 18506 = ((-1), 60) from by decide +kernel] at h0
    exact h0
  have b18507 : (-1) ≤ σ 18507 ∧ σ 18507 ≤ 60 := by
    have h0 := hb 18507
    rw [show sx_sr 18507 = ((-1), 60) from by decide +kernel] at h0
    exact h0
  have b18508 : (-1) ≤ σ 18508 ∧ σ 18508 ≤ 60 := by
    have h0 := hb 18508
    rw [show sx_sr 18508 = ((-1), 60) from by decide +kernel] at h0
    exact h0
  obtain ⟨hs, ht, hf, hr, hm, hw⟩ := hW
  have e1 : τ 19001 = a1 := by rw [ht 19001 (by decide) (by decide)]; exact h1
  have e2 : τ 19002 = a2 := by rw [ht 19002 (by decide) (by decide)]; exact h2
  have s18501 : τ 18501 = σ 18501 := hs 18501 (by decide)
  have s18502 : τ 18502 = σ 18502 := hs 18502 (by decide)
  have s18503 : τ 18503 = σ 18503 := hs 18503 (by decide)
  have s18504 : τ 18504 = σ 18504 := hs 18504 (by decide)
  have s18505 : τ 18505 = σ 18505 := hs 18505 (by decide)
  have s18506 : τ 18506 = σ 18506 := hs 18506 (by decide)
  have s18507 : τ 18507 = σ 18507 := hs 18507 (by decide)
  have s18508 : τ 18508 = σ 18508 := hs 18508 (by decide)
  clear hs ht hb
  rw [hx] at hr
  obtain ⟨y, hy, hv⟩ := hr
  cases hy
  replace hv : x.toInt = 0 + 0 := hv
  have f0 : 0 ≤ (-1) + ((-1) * τ 18508 + 0) := hf _ (List.Mem.head _)
  have f1 : 0 ≤ (-3) + (1 * τ 19001 + 0) := hf _ (List.Mem.tail _ (List.Mem.head _))
  have f2 : 0 ≤ 3 + ((-1) * τ 19001 + 0) := hf _ (List.Mem.tail _ (List.Mem.tail _ (List.Mem.head _)))
  clear hf hm
  refine Or.inr ⟨by omega, fun h => ?_⟩
  rcases h with ⟨z1, z2, z3, z4⟩ | ⟨z1, z2, z3, z4⟩ | ⟨z1, z2, z3, z4⟩ | ⟨z1, z2, z3, z4⟩ <;> omega
theorem lw_wm_10 {as : List rv_A} {σ σ' : Nat → Int} {o : rv_O} {x : Int32} {a1 a2 : Int} {τ : Nat → Int} (hx : o.1 = some (.inl x)) (h1 : lw_av as 1 = a1) (h2 : lw_av as 2 = a2) (hb : ∀ s, (sx_sr s).1 ≤ σ s ∧ σ s ≤ (sx_sr s).2) (hW : lw_W ([], [(0, [(18508, 1)]), ((-3), [(19001, 1)]), (3, [(19001, (-1))]), ((-1), [(19002, (-1))])], [(12800, (3, []))], some (false, (0, []))) as σ σ' τ o) : lw_wm_C a1 a2 x.toInt σ σ' := by
  unfold lw_wm_C
  have b18501 : 0 ≤ σ 18501 ∧ σ 18501 ≤ 3 := by
    have h0 := hb 18501
    rw [show sx_sr 18501 = (0, 3) from by decide +kernel] at h0
    exact h0
  have b18502 : 0 ≤ σ 18502 ∧ σ 18502 ≤ 3 := by
    have h0 := hb 18502
    rw [show sx_sr 18502 = (0, 3) from by decide +kernel] at h0
    exact h0
  have b18503 : 0 ≤ σ 18503 ∧ σ 18503 ≤ 3 := by
    have h0 := hb 18503
    rw [show sx_sr 18503 = (0, 3) from by decide +kernel] at h0
    exact h0
  have b18504 : 0 ≤ σ 18504 ∧ σ 18504 ≤ 3 := by
    have h0 := hb 18504
    rw [show sx_sr 18504 = (0, 3) from by decide +kernel] at h0
    exact h0
  have b18505 : (-1) ≤ σ 18505 ∧ σ 18505 ≤ 60 := by
    have h0 := hb 18505
    rw [show sx_sr 18505 = ((-1), 60) from by decide +kernel] at h0
    exact h0
  have b18506 : (-1) ≤ σ 18506 ∧ σ 18506 ≤ 60 := by
    have h0 := hb 18506
    rw [show sx_sr 18506 = ((-1), 60) from by decide +kernel] at h0
    exact h0
  have b18507 : (-1) ≤ σ 18507 ∧ σ 18507 ≤ 60 := by
    have h0 := hb 18507
    rw [show sx_sr 18507 = ((-1), 60) from by decide +kernel] at h0
    exact h0
  have b18508 : (-1) ≤ σ 18508 ∧ σ 18508 ≤ 60 := by
    have h0 := hb 18508
    rw [show sx_sr 18508 = ((-1), 60) from by decide +kernel] at h0
    exact h0
  obtain ⟨hs, ht, hf, hr, hm, hw⟩ := hW
  have e1 : τ 19001 = a1 := by rw [ht 19001 (by decide) (by decide)]; exact h1
  have e2 : τ 19002 = a2 := by rw [ht 19002 (by decide) (by decide)]; exact h2
  have s18501 : τ 18501 = σ 18501 := hs 18501 (by decide)
  have s18502 : τ 18502 = σ 18502 := hs 18502 (by decide)
  have s18503 : τ 18503 = σ 18503 := hs 18503 (by decide)
  have s18504 : τ 18504 = σ 18504 := hs 18504 (by decide)
  have s18505 : τ 18505 = σ 18505 := hs 18505 (by decide)
  have s18506 : τ 18506 = σ 18506 := hs 18506 (by decide)
  have s18507 : τ 18507 = σ 18507 := hs 18507 (by decide)
  have s18508 : τ 18508 = σ 18508 := hs 18508 (by decide)
  clear hs ht hb
  rw [hx] at hr
  obtain ⟨y, hy, hv⟩ := hr
  cases hy
  replace hv : x.toInt = 0 + 0 := hv
  have f0 : 0 ≤ 0 + (1 * τ 18508 + 0) := hf _ (List.Mem.head _)
  have f1 : 0 ≤ (-3) + (1 * τ 19001 + 0) := hf _ (List.Mem.tail _ (List.Mem.head _))
  have f2 : 0 ≤ 3 + ((-1) * τ 19001 + 0) := hf _ (List.Mem.tail _ (List.Mem.tail _ (List.Mem.head _)))
  have f3 : 0 ≤ (-1) + ((-1) * τ 19002 + 0) := hf _ (List.Mem.tail _ (List.Mem.tail _ (List.Mem.tail _ (List.Mem.head _))))
  clear hf hm
  refine Or.inr ⟨by omega, fun h => ?_⟩
  rcases h with ⟨z1, z2, z3, z4⟩ | ⟨z1, z2, z3, z4⟩ | ⟨z1, z2, z3, z4⟩ | ⟨z1, z2, z3, z4⟩ <;> omega
theorem lw_wm_11 {as : List rv_A} {σ σ' : Nat → Int} {o : rv_O} {x : Int32} {a1 a2 : Int} {τ : Nat → Int} (hx : o.1 = some (.inl x)) (h1 : lw_av as 1 = a1) (h2 : lw_av as 2 = a2) (hb : ∀ s, (sx_sr s).1 ≤ σ s ∧ σ s ≤ (sx_sr s).2) (hW : lw_W ([], [(0, [(18508, 1)]), ((-3), [(19001, 1)]), (3, [(19001, (-1))]), (0, [(19002, 1)]), (0, [(18508, (-1)), (19002, 1)])], [(12800, (3, []))], some (false, (0, []))) as σ σ' τ o) : lw_wm_C a1 a2 x.toInt σ σ' := by
  unfold lw_wm_C
  have b18501 : 0 ≤ σ 18501 ∧ σ 18501 ≤ 3 := by
    have h0 := hb 18501
    rw [show sx_sr 18501 = (0, 3) from by decide +kernel] at h0
    exact h0
  have b18502 : 0 ≤ σ 18502 ∧ σ 18502 ≤ 3 := by
    have h0 := hb 18502
    rw [show sx_sr 18502 = (0, 3) from by decide +kernel] at h0
    exact h0
  have b18503 : 0 ≤ σ 18503 ∧ σ 18503 ≤ 3 := by
    have h0 := hb 18503
    rw [show sx_sr 18503 = (0, 3) from by decide +kernel] at h0
    exact h0
  have b18504 : 0 ≤ σ 18504 ∧ σ 18504 ≤ 3 := by
    have h0 := hb 18504
    rw [show sx_sr 18504 = (0, 3) from by decide +kernel] at h0
    exact h0
  have b18505 : (-1) ≤ σ 18505 ∧ σ 18505 ≤ 60 := by
    have h0 := hb 18505
    rw [show sx_sr 18505 = ((-1), 60) from by decide +kernel] at h0
    exact h0
  have b18506 : (-1) ≤ σ 18506 ∧ σ 18506 ≤ 60 := by
    have h0 := hb 18506
    rw [show sx_sr 18506 = ((-1), 60) from by decide +kernel] at h0
    exact h0
  have b18507 : (-1) ≤ σ 18507 ∧ σ 18507 ≤ 60 := by
    have h0 := hb 18507
    rw [show sx_sr 18507 = ((-1), 60) from by decide +kernel] at h0
    exact h0
  have b18508 : (-1) ≤ σ 18508 ∧ σ 18508 ≤ 60 := by
    have h0 := hb 18508
    rw [show sx_sr 18508 = ((-1), 60) from by decide +kernel] at h0
    exact h0
  obtain ⟨hs, ht, hf, hr, hm, hw⟩ := hW
  have e1 : τ 19001 = a1 := by rw [ht 19001 (by decide) (by decide)]; exact h1
  have e2 : τ 19002 = a2 := by rw [ht 19002 (by decide) (by decide)]; exact h2
  have s18501 : τ 18501 = σ 18501 := hs 18501 (by decide)
  have s18502 : τ 18502 = σ 18502 := hs 18502 (by decide)
  have s18503 : τ 18503 = σ 18503 := hs 18503 (by decide)
  have s18504 : τ 18504 = σ 18504 := hs 18504 (by decide)
  have s18505 : τ 18505 = σ 18505 := hs 18505 (by decide)
  have s18506 : τ 18506 = σ 18506 := hs 18506 (by decide)
  have s18507 : τ 18507 = σ 18507 := hs 18507 (by decide)
  have s18508 : τ 18508 = σ 18508 := hs 18508 (by decide)
  clear hs ht hb
  rw [hx] at hr
  obtain ⟨y, hy, hv⟩ := hr
  cases hy
  replace hv : x.toInt = 0 + 0 := hv
  have f0 : 0 ≤ 0 + (1 * τ 18508 + 0) := hf _ (List.Mem.head _)
  have f1 : 0 ≤ (-3) + (1 * τ 19001 + 0) := hf _ (List.Mem.tail _ (List.Mem.head _))
  have f2 : 0 ≤ 3 + ((-1) * τ 19001 + 0) := hf _ (List.Mem.tail _ (List.Mem.tail _ (List.Mem.head _)))
  have f3 : 0 ≤ 0 + (1 * τ 19002 + 0) := hf _ (List.Mem.tail _ (List.Mem.tail _ (List.Mem.tail _ (List.Mem.head _))))
  have f4 : 0 ≤ 0 + ((-1) * τ 18508 + (1 * τ 19002 + 0)) := hf _ (List.Mem.tail _ (List.Mem.tail _ (List.Mem.tail _ (List.Mem.tail _ (List.Mem.head _)))))
  clear hf hm
  refine Or.inr ⟨by omega, fun h => ?_⟩
  rcases h with ⟨z1, z2, z3, z4⟩ | ⟨z1, z2, z3, z4⟩ | ⟨z1, z2, z3, z4⟩ | ⟨z1, z2, z3, z4⟩ <;> omega
theorem lw_wm_12 {as : List rv_A} {σ σ' : Nat → Int} {o : rv_O} {x : Int32} {a1 a2 : Int} {τ : Nat → Int} (hx : o.1 = some (.inl x)) (h1 : lw_av as 1 = a1) (h2 : lw_av as 2 = a2) (hb : ∀ s, (sx_sr s).1 ≤ σ s ∧ σ s ≤ (sx_sr s).2) (hW : lw_W ([], [((-1), [(19001, (-1))])], [(12800, (1, []))], some (false, (0, []))) as σ σ' τ o) : lw_wm_C a1 a2 x.toInt σ σ' := by
  unfold lw_wm_C
  have b18501 : 0 ≤ σ 18501 ∧ σ 18501 ≤ 3 := by
    have h0 := hb 18501
    rw [show sx_sr 18501 = (0, 3) from by decide +kernel] at h0
    exact h0
  have b18502 : 0 ≤ σ 18502 ∧ σ 18502 ≤ 3 := by
    have h0 := hb 18502
    rw [show sx_sr 18502 = (0, 3) from by decide +kernel] at h0
    exact h0
  have b18503 : 0 ≤ σ 18503 ∧ σ 18503 ≤ 3 := by
    have h0 := hb 18503
    rw [show sx_sr 18503 = (0, 3) from by decide +kernel] at h0
    exact h0
  have b18504 : 0 ≤ σ 18504 ∧ σ 18504 ≤ 3 := by
    have h0 := hb 18504
    rw [show sx_sr 18504 = (0, 3) from by decide +kernel] at h0
    exact h0
  have b18505 : (-1) ≤ σ 18505 ∧ σ 18505 ≤ 60 := by
    have h0 := hb 18505
    rw [show sx_sr 18505 = ((-1), 60) from by decide +kernel] at h0
    exact h0
  have b18506 : (-1) ≤ σ 18506 ∧ σ 18506 ≤ 60 := by
    have h0 := hb 18506
    rw [show sx_sr 18506 = ((-1), 60) from by decide +kernel] at h0
    exact h0
  have b18507 : (-1) ≤ σ 18507 ∧ σ 18507 ≤ 60 := by
    have h0 := hb 18507
    rw [show sx_sr 18507 = ((-1), 60) from by decide +kernel] at h0
    exact h0
  have b18508 : (-1) ≤ σ 18508 ∧ σ 18508 ≤ 60 := by
    have h0 := hb 18508
    rw [show sx_sr 18508 = ((-1), 60) from by decide +kernel] at h0
    exact h0
  obtain ⟨hs, ht, hf, hr, hm, hw⟩ := hW
  have e1 : τ 19001 = a1 := by rw [ht 19001 (by decide) (by decide)]; exact h1
  have e2 : τ 19002 = a2 := by rw [ht 19002 (by decide) (by decide)]; exact h2
  have s18501 : τ 18501 = σ 18501 := hs 18501 (by decide)
  have s18502 : τ 18502 = σ 18502 := hs 18502 (by decide)
  have s18503 : τ 18503 = σ 18503 := hs 18503 (by decide)
  have s18504 : τ 18504 = σ 18504 := hs 18504 (by decide)
  have s18505 : τ 18505 = σ 18505 := hs 18505 (by decide)
  have s18506 : τ 18506 = σ 18506 := hs 18506 (by decide)
  have s18507 : τ 18507 = σ 18507 := hs 18507 (by decide)
  have s18508 : τ 18508 = σ 18508 := hs 18508 (by decide)
  clear hs ht hb
  rw [hx] at hr
  obtain ⟨y, hy, hv⟩ := hr
  cases hy
  replace hv : x.toInt = 0 + 0 := hv
  have f0 : 0 ≤ (-1) + ((-1) * τ 19001 + 0) := hf _ (List.Mem.head _)
  clear hf hm
  refine Or.inr ⟨by omega, fun h => ?_⟩
  rcases h with ⟨z1, z2, z3, z4⟩ | ⟨z1, z2, z3, z4⟩ | ⟨z1, z2, z3, z4⟩ | ⟨z1, z2, z3, z4⟩ <;> omega
theorem lw_wm_13 {as : List rv_A} {σ σ' : Nat → Int} {o : rv_O} {x : Int32} {a1 a2 : Int} {τ : Nat → Int} (hx : o.1 = some (.inl x)) (h1 : lw_av as 1 = a1) (h2 : lw_av as 2 = a2) (hb : ∀ s, (sx_sr s).1 ≤ σ s ∧ σ s ≤ (sx_sr s).2) (hW : lw_W ([], [((-4), [(19001, 1)])], [(12800, (1, []))], some (false, (0, []))) as σ σ' τ o) : lw_wm_C a1 a2 x.toInt σ σ' := by
  unfold lw_wm_C
  have b18501 : 0 ≤ σ 18501 ∧ σ 18501 ≤ 3 := by
    have h0 := hb 18501
    rw [show sx_sr 18501 = (0, 3) from by decide +kernel] at h0
    exact h0
  have b18502 : 0 ≤ σ 18502 ∧ σ 18502 ≤ 3 := by
    have h0 := hb 18502
    rw [show sx_sr 18502 = (0, 3) from by decide +kernel] at h0
    exact h0
  have b18503 : 0 ≤ σ 18503 ∧ σ 18503 ≤ 3 := by
    have h0 := hb 18503
    rw [show sx_sr 18503 = (0, 3) from by decide +kernel] at h0
    exact h0
  have b18504 : 0 ≤ σ 18504 ∧ σ 18504 ≤ 3 := by
    have h0 := hb 18504
    rw [show sx_sr 18504 = (0, 3) from by decide +kernel] at h0
    exact h0
  have b18505 : (-1) ≤ σ 18505 ∧ σ 18505 ≤ 60 := by
    have h0 := hb 18505
    rw [show sx_sr 18505 = ((-1), 60) from by decide +kernel] at h0
    exact h0
  have b18506 : (-1) ≤ σ 18506 ∧ σ 18506 ≤ 60 := by
    have h0 := hb 18506
    rw [show sx_sr 18506 = ((-1), 60) from by decide +kernel] at h0
    exact h0
  have b18507 : (-1) ≤ σ 18507 ∧ σ 18507 ≤ 60 := by
    have h0 := hb 18507
    rw [show sx_sr 18507 = ((-1), 60) from by decide +kernel] at h0
    exact h0
  have b18508 : (-1) ≤ σ 18508 ∧ σ 18508 ≤ 60 := by
    have h0 := hb 18508
    rw [show sx_sr 18508 = ((-1), 60) from by decide +kernel] at h0
    exact h0
  obtain ⟨hs, ht, hf, hr, hm, hw⟩ := hW
  have e1 : τ 19001 = a1 := by rw [ht 19001 (by decide) (by decide)]; exact h1
  have e2 : τ 19002 = a2 := by rw [ht 19002 (by decide) (by decide)]; exact h2
  have s18501 : τ 18501 = σ 18501 := hs 18501 (by decide)
  have s18502 : τ 18502 = σ 18502 := hs 18502 (by decide)
  have s18503 : τ 18503 = σ 18503 := hs 18503 (by decide)
  have s18504 : τ 18504 = σ 18504 := hs 18504 (by decide)
  have s18505 : τ 18505 = σ 18505 := hs 18505 (by decide)
  have s18506 : τ 18506 = σ 18506 := hs 18506 (by decide)
  have s18507 : τ 18507 = σ 18507 := hs 18507 (by decide)
  have s18508 : τ 18508 = σ 18508 := hs 18508 (by decide)
  clear hs ht hb
  rw [hx] at hr
  obtain ⟨y, hy, hv⟩ := hr
  cases hy
  replace hv : x.toInt = 0 + 0 := hv
  have f0 : 0 ≤ (-4) + (1 * τ 19001 + 0) := hf _ (List.Mem.head _)
  clear hf hm
  refine Or.inr ⟨by omega, fun h => ?_⟩
  rcases h with ⟨z1, z2, z3, z4⟩ | ⟨z1, z2, z3, z4⟩ | ⟨z1, z2, z3, z4⟩ | ⟨z1, z2, z3, z4⟩ <;> omega
theorem lw_wm_14 {as : List rv_A} {σ σ' : Nat → Int} {o : rv_O} {x : Int32} {a1 a2 : Int} {τ : Nat → Int} (hx : o.1 = some (.inl x)) (h1 : lw_av as 1 = a1) (h2 : lw_av as 2 = a2) (hb : ∀ s, (sx_sr s).1 ≤ σ s ∧ σ s ≤ (sx_sr s).2) (hW : lw_W ([], [(0, [(18501, (-1))]), ((-1), [(18505, 1)]), (0, [(19001, 1)]), (0, [(19001, (-1))]), (0, [(19002, 1)]), (59, [(19002, (-1))]), ((-1), [(18505, 1), (19002, (-1))])], [(12800, (0, []))], some (false, (1, []))) as σ σ' τ o) : lw_wm_C a1 a2 x.toInt σ σ' := by
  unfold lw_wm_C
  have b18501 : 0 ≤ σ 18501 ∧ σ 18501 ≤ 3 := by
    have h0 := hb 18501
    rw [show sx_sr 18501 = (0, 3) from by decide +kernel] at h0
    exact h0
  have b18502 : 0 ≤ σ 18502 ∧ σ 18502 ≤ 3 := by
    have h0 := hb 18502
    rw [show sx_sr 18502 = (0, 3) from by decide +kernel] at h0
    exact h0
  have b18503 : 0 ≤ σ 18503 ∧ σ 18503 ≤ 3 := by
    have h0 := hb 18503
    rw [show sx_sr 18503 = (0, 3) from by decide +kernel] at h0
    exact h0
  have b18504 : 0 ≤ σ 18504 ∧ σ 18504 ≤ 3 := by
    have h0 := hb 18504
    rw [show sx_sr 18504 = (0, 3) from by decide +kernel] at h0
    exact h0
  have b18505 : (-1) ≤ σ 18505 ∧ σ 18505 ≤ 60 := by
    have h0 := hb 18505
    rw [show sx_sr 18505 = ((-1), 60) from by decide +kernel] at h0
    exact h0
  have b18506 : (-1) ≤ σ 18506 ∧ σ 18506 ≤ 60 := by
    have h0 := hb 18506
    rw [show sx_sr 18506 = ((-1), 60) from by decide +kernel] at h0
    exact h0
  have b18507 : (-1) ≤ σ 18507 ∧ σ 18507 ≤ 60 := by
    have h0 := hb 18507
    rw [show sx_sr 18507 = ((-1), 60) from by decide +kernel] at h0
    exact h0
  have b18508 : (-1) ≤ σ 18508 ∧ σ 18508 ≤ 60 := by
    have h0 := hb 18508
    rw [show sx_sr 18508 = ((-1), 60) from by decide +kernel] at h0
    exact h0
  obtain ⟨hs, ht, hf, hr, hm, hw⟩ := hW
  have e1 : τ 19001 = a1 := by rw [ht 19001 (by decide) (by decide)]; exact h1
  have e2 : τ 19002 = a2 := by rw [ht 19002 (by decide) (by decide)]; exact h2
  have s18501 : τ 18501 = σ 18501 := hs 18501 (by decide)
  have s18502 : τ 18502 = σ 18502 := hs 18502 (by decide)
  have s18503 : τ 18503 = σ 18503 := hs 18503 (by decide)
  have s18504 : τ 18504 = σ 18504 := hs 18504 (by decide)
  have s18505 : τ 18505 = σ 18505 := hs 18505 (by decide)
  have s18506 : τ 18506 = σ 18506 := hs 18506 (by decide)
  have s18507 : τ 18507 = σ 18507 := hs 18507 (by decide)
  have s18508 : τ 18508 = σ 18508 := hs 18508 (by decide)
  clear hs ht hb
  rw [hx] at hr
  obtain ⟨y, hy, hv⟩ := hr
  cases hy
  replace hv : x.toInt = 1 + 0 := hv
  have f0 : 0 ≤ 0 + ((-1) * τ 18501 + 0) := hf _ (List.Mem.head _)
  have f1 : 0 ≤ (-1) + (1 * τ 18505 + 0) := hf _ (List.Mem.tail _ (List.Mem.head _))
  have f2 : 0 ≤ 0 + (1 * τ 19001 + 0) := hf _ (List.Mem.tail _ (List.Mem.tail _ (List.Mem.head _)))
  have f3 : 0 ≤ 0 + ((-1) * τ 19001 + 0) := hf _ (List.Mem.tail _ (List.Mem.tail _ (List.Mem.tail _ (List.Mem.head _))))
  have f4 : 0 ≤ 0 + (1 * τ 19002 + 0) := hf _ (List.Mem.tail _ (List.Mem.tail _ (List.Mem.tail _ (List.Mem.tail _ (List.Mem.head _)))))
  have f5 : 0 ≤ 59 + ((-1) * τ 19002 + 0) := hf _ (List.Mem.tail _ (List.Mem.tail _ (List.Mem.tail _ (List.Mem.tail _ (List.Mem.tail _ (List.Mem.head _))))))
  have f6 : 0 ≤ (-1) + (1 * τ 18505 + ((-1) * τ 19002 + 0)) := hf _ (List.Mem.tail _ (List.Mem.tail _ (List.Mem.tail _ (List.Mem.tail _ (List.Mem.tail _ (List.Mem.tail _ (List.Mem.head _)))))))
  clear hf hm
  exact Or.inl ⟨by omega, Or.inl ⟨by omega, by omega, by omega, by omega⟩⟩
theorem lw_wm_15 {as : List rv_A} {σ σ' : Nat → Int} {o : rv_O} {x : Int32} {a1 a2 : Int} {τ : Nat → Int} (hx : o.1 = some (.inl x)) (h1 : lw_av as 1 = a1) (h2 : lw_av as 2 = a2) (hb : ∀ s, (sx_sr s).1 ≤ σ s ∧ σ s ≤ (sx_sr s).2) (hW : lw_W ([], [((-1), [(18501, 1)]), (1, [(18501, (-1))]), ((-1), [(18505, 1)]), (0, [(19001, 1)]), (0, [(19001, (-1))]), (0, [(19002, 1)]), (59, [(19002, (-1))]), ((-1), [(18505, 1), (19002, (-1))])], [(12800, (0, []))], some (false, (1, []))) as σ σ' τ o) : lw_wm_C a1 a2 x.toInt σ σ' := by
  unfold lw_wm_C
  have b18501 : 0 ≤ σ 18501 ∧ σ 18501 ≤ 3 := by
    have h0 := hb 18501
    rw [show sx_sr 18501 = (0, 3) from by decide +kernel] at h0
    exact h0
  have b18502 : 0 ≤ σ 18502 ∧ σ 18502 ≤ 3 := by
    have h0 := hb 18502
    rw [show sx_sr 18502 = (0, 3) from by decide +kernel] at h0
    exact h0
  have b18503 : 0 ≤ σ 18503 ∧ σ 18503 ≤ 3 := by
    have h0 := hb 18503
    rw [show sx_sr 18503 = (0, 3) from by decide +kernel] at h0
    exact h0
  have b18504 : 0 ≤ σ 18504 ∧ σ 18504 ≤ 3 := by
    have h0 := hb 18504
    rw [show sx_sr 18504 = (0, 3) from by decide +kernel] at h0
    exact h0
  have b18505 : (-1) ≤ σ 18505 ∧ σ 18505 ≤ 60 := by
    have h0 := hb 18505
    rw [show sx_sr 18505 = ((-1), 60) from by decide +kernel] at h0
    exact h0
  have b18506 : (-1) ≤ σ 18506 ∧ σ 18506 ≤ 60 := by
    have h0 := hb 18506
    rw [show sx_sr 18506 = ((-1), 60) from by decide +kernel] at h0
    exact h0
  have b18507 : (-1) ≤ σ 18507 ∧ σ 18507 ≤ 60 := by
    have h0 := hb 18507
    rw [show sx_sr 18507 = ((-1), 60) from by decide +kernel] at h0
    exact h0
  have b18508 : (-1) ≤ σ 18508 ∧ σ 18508 ≤ 60 := by
    have h0 := hb 18508
    rw [show sx_sr 18508 = ((-1), 60) from by decide +kernel] at h0
    exact h0
  obtain ⟨hs, ht, hf, hr, hm, hw⟩ := hW
  have e1 : τ 19001 = a1 := by rw [ht 19001 (by decide) (by decide)]; exact h1
  have e2 : τ 19002 = a2 := by rw [ht 19002 (by decide) (by decide)]; exact h2
  have s18501 : τ 18501 = σ 18501 := hs 18501 (by decide)
  have s18502 : τ 18502 = σ 18502 := hs 18502 (by decide)
  have s18503 : τ 18503 = σ 18503 := hs 18503 (by decide)
  have s18504 : τ 18504 = σ 18504 := hs 18504 (by decide)
  have s18505 : τ 18505 = σ 18505 := hs 18505 (by decide)
  have s18506 : τ 18506 = σ 18506 := hs 18506 (by decide)
  have s18507 : τ 18507 = σ 18507 := hs 18507 (by decide)
  have s18508 : τ 18508 = σ 18508 := hs 18508 (by decide)
  clear hs ht hb
  rw [hx] at hr
  obtain ⟨y, hy, hv⟩ := hr
  cases hy
  replace hv : x.toInt = 1 + 0 := hv
  have f0 : 0 ≤ (-1) + (1 * τ 18501 + 0) := hf _ (List.Mem.head _)
  have f1 : 0 ≤ 1 + ((-1) * τ 18501 + 0) := hf _ (List.Mem.tail _ (List.Mem.head _))
  have f2 : 0 ≤ (-1) + (1 * τ 18505 + 0) := hf _ (List.Mem.tail _ (List.Mem.tail _ (List.Mem.head _)))
  have f3 : 0 ≤ 0 + (1 * τ 19001 + 0) := hf _ (List.Mem.tail _ (List.Mem.tail _ (List.Mem.tail _ (List.Mem.head _))))
  have f4 : 0 ≤ 0 + ((-1) * τ 19001 + 0) := hf _ (List.Mem.tail _ (List.Mem.tail _ (List.Mem.tail _ (List.Mem.tail _ (List.Mem.head _)))))
  have f5 : 0 ≤ 0 + (1 * τ 19002 + 0) := hf _ (List.Mem.tail _ (List.Mem.tail _ (List.Mem.tail _ (List.Mem.tail _ (List.Mem.tail _ (List.Mem.head _))))))
  have f6 : 0 ≤ 59 + ((-1) * τ 19002 + 0) := hf _ (List.Mem.tail _ (List.Mem.tail _ (List.Mem.tail _ (List.Mem.tail _ (List.Mem.tail _ (List.Mem.tail _ (List.Mem.head _)))))))
  have f7 : 0 ≤ (-1) + (1 * τ 18505 + ((-1) * τ 19002 + 0)) := hf _ (List.Mem.tail _ (List.Mem.tail _ (List.Mem.tail _ (List.Mem.tail _ (List.Mem.tail _ (List.Mem.tail _ (List.Mem.tail _ (List.Mem.head _))))))))
  clear hf hm
  exact Or.inl ⟨by omega, Or.inl ⟨by omega, by omega, by omega, by omega⟩⟩
theorem lw_wm_16 {as : List rv_A} {σ σ' : Nat → Int} {o : rv_O} {x : Int32} {a1 a2 : Int} {τ : Nat → Int} (hx : o.1 = some (.inl x)) (h1 : lw_av as 1 = a1) (h2 : lw_av as 2 = a2) (hb : ∀ s, (sx_sr s).1 ≤ σ s ∧ σ s ≤ (sx_sr s).2) (hW : lw_W ([], [((-2), [(18501, 1)]), (2, [(18501, (-1))]), ((-1), [(18505, 1)]), (0, [(19001, 1)]), (0, [(19001, (-1))]), (0, [(19002, 1)]), (59, [(19002, (-1))]), ((-1), [(18505, 1), (19002, (-1))])], [(12800, (0, []))], some (false, (1, []))) as σ σ' τ o) : lw_wm_C a1 a2 x.toInt σ σ' := by
  unfold lw_wm_C
  have b18501 : 0 ≤ σ 18501 ∧ σ 18501 ≤ 3 := by
    have h0 := hb 18501
    rw [show sx_sr 18501 = (0, 3) from by decide +kernel] at h0
    exact h0
  have b18502 : 0 ≤ σ 18502 ∧ σ 18502 ≤ 3 := by
    have h0 := hb 18502
    rw [show sx_sr 18502 = (0, 3) from by decide +kernel] at h0
    exact h0
  have b18503 : 0 ≤ σ 18503 ∧ σ 18503 ≤ 3 := by
    have h0 := hb 18503
    rw [show sx_sr 18503 = (0, 3) from by decide +kernel] at h0
    exact h0
  have b18504 : 0 ≤ σ 18504 ∧ σ 18504 ≤ 3 := by
    have h0 := hb 18504
    rw [show sx_sr 18504 = (0, 3) from by decide +kernel] at h0
    exact h0
  have b18505 : (-1) ≤ σ 18505 ∧ σ 18505 ≤ 60 := by
    have h0 := hb 18505
    rw [show sx_sr 18505 = ((-1), 60) from by decide +kernel] at h0
    exact h0
  have b18506 : (-1) ≤ σ 18506 ∧ σ 18506 ≤ 60 := by
    have h0 := hb 18506
    rw [show sx_sr 18506 = ((-1), 60) from by decide +kernel] at h0
    exact h0
  have b18507 : (-1) ≤ σ 18507 ∧ σ 18507 ≤ 60 := by
    have h0 := hb 18507
    rw [show sx_sr 18507 = ((-1), 60) from by decide +kernel] at h0
    exact h0
  have b18508 : (-1) ≤ σ 18508 ∧ σ 18508 ≤ 60 := by
    have h0 := hb 18508
    rw [show sx_sr 18508 = ((-1), 60) from by decide +kernel] at h0
    exact h0
  obtain ⟨hs, ht, hf, hr, hm, hw⟩ := hW
  have e1 : τ 19001 = a1 := by rw [ht 19001 (by decide) (by decide)]; exact h1
  have e2 : τ 19002 = a2 := by rw [ht 19002 (by decide) (by decide)]; exact h2
  have s18501 : τ 18501 = σ 18501 := hs 18501 (by decide)
  have s18502 : τ 18502 = σ 18502 := hs 18502 (by decide)
  have s18503 : τ 18503 = σ 18503 := hs 18503 (by decide)
  have s18504 : τ 18504 = σ 18504 := hs 18504 (by decide)
  have s18505 : τ 18505 = σ 18505 := hs 18505 (by decide)
  have s18506 : τ 18506 = σ 18506 := hs 18506 (by decide)
  have s18507 : τ 18507 = σ 18507 := hs 18507 (by decide)
  have s18508 : τ 18508 = σ 18508 := hs 18508 (by decide)
  clear hs ht hb
  rw [hx] at hr
  obtain ⟨y, hy, hv⟩ := hr
  cases hy
  replace hv : x.toInt = 1 + 0 := hv
  have f0 : 0 ≤ (-2) + (1 * τ 18501 + 0) := hf _ (List.Mem.head _)
  have f1 : 0 ≤ 2 + ((-1) * τ 18501 + 0) := hf _ (List.Mem.tail _ (List.Mem.head _))
  have f2 : 0 ≤ (-1) + (1 * τ 18505 + 0) := hf _ (List.Mem.tail _ (List.Mem.tail _ (List.Mem.head _)))
  have f3 : 0 ≤ 0 + (1 * τ 19001 + 0) := hf _ (List.Mem.tail _ (List.Mem.tail _ (List.Mem.tail _ (List.Mem.head _))))
  have f4 : 0 ≤ 0 + ((-1) * τ 19001 + 0) := hf _ (List.Mem.tail _ (List.Mem.tail _ (List.Mem.tail _ (List.Mem.tail _ (List.Mem.head _)))))
  have f5 : 0 ≤ 0 + (1 * τ 19002 + 0) := hf _ (List.Mem.tail _ (List.Mem.tail _ (List.Mem.tail _ (List.Mem.tail _ (List.Mem.tail _ (List.Mem.head _))))))
  have f6 : 0 ≤ 59 + ((-1) * τ 19002 + 0) := hf _ (List.Mem.tail _ (List.Mem.tail _ (List.Mem.tail _ (List.Mem.tail _ (List.Mem.tail _ (List.Mem.tail _ (List.Mem.head _)))))))
  have f7 : 0 ≤ (-1) + (1 * τ 18505 + ((-1) * τ 19002 + 0)) := hf _ (List.Mem.tail _ (List.Mem.tail _ (List.Mem.tail _ (List.Mem.tail _ (List.Mem.tail _ (List.Mem.tail _ (List.Mem.tail _ (List.Mem.head _))))))))
  clear hf hm
  exact Or.inl ⟨by omega, Or.inl ⟨by omega, by omega, by omega, by omega⟩⟩
theorem lw_wm_17 {as : List rv_A} {σ σ' : Nat → Int} {o : rv_O} {x : Int32} {a1 a2 : Int} {τ : Nat → Int} (hx : o.1 = some (.inl x)) (h1 : lw_av as 1 = a1) (h2 : lw_av as 2 = a2) (hb : ∀ s, (sx_sr s).1 ≤ σ s ∧ σ s ≤ (sx_sr s).2) (hW : lw_W ([], [((-3), [(18501, 1)]), ((-1), [(18505, 1)]), (0, [(19001, 1)]), (0, [(19001, (-1))]), (0, [(19002, 1)]), (59, [(19002, (-1))]), ((-1), [(18505, 1), (19002, (-1))])], [(12800, (0, []))], some (false, (1, []))) as σ σ' τ o) : lw_wm_C a1 a2 x.toInt σ σ' := by
  unfold lw_wm_C
  have b18501 : 0 ≤ σ 18501 ∧ σ 18501 ≤ 3 := by
    have h0 := hb 18501
    rw [show sx_sr 18501 = (0, 3) from by decide +kernel] at h0
    exact h0
  have b18502 : 0 ≤ σ 18502 ∧ σ 18502 ≤ 3 := by
    have h0 := hb 18502
    rw [show sx_sr 18502 = (0, 3) from by decide +kernel] at h0
    exact h0
  have b18503 : 0 ≤ σ 18503 ∧ σ 18503 ≤ 3 := by
    have h0 := hb 18503
    rw [show sx_sr 18503 = (0, 3) from by decide +kernel] at h0
    exact h0
  have b18504 : 0 ≤ σ 18504 ∧ σ 18504 ≤ 3 := by
    have h0 := hb 18504
    rw [show sx_sr 18504 = (0, 3) from by decide +kernel] at h0
    exact h0
  have b18505 : (-1) ≤ σ 18505 ∧ σ 18505 ≤ 60 := by
    have h0 := hb 18505
    rw [show sx_sr 18505 = ((-1), 60) from by decide +kernel] at h0
    exact h0
  have b18506 : (-1) ≤ σ 18506 ∧ σ 18506 ≤ 60 := by
    have h0 := hb 18506
    rw [show sx_sr 18506 = ((-1), 60) from by decide +kernel] at h0
    exact h0
  have b18507 : (-1) ≤ σ 18507 ∧ σ 18507 ≤ 60 := by
    have h0 := hb 18507
    rw [show sx_sr 18507 = ((-1), 60) from by decide +kernel] at h0
    exact h0
  have b18508 : (-1) ≤ σ 18508 ∧ σ 18508 ≤ 60 := by
    have h0 := hb 18508
    rw [show sx_sr 18508 = ((-1), 60) from by decide +kernel] at h0
    exact h0
  obtain ⟨hs, ht, hf, hr, hm, hw⟩ := hW
  have e1 : τ 19001 = a1 := by rw [ht 19001 (by decide) (by decide)]; exact h1
  have e2 : τ 19002 = a2 := by rw [ht 19002 (by decide) (by decide)]; exact h2
  have s18501 : τ 18501 = σ 18501 := hs 18501 (by decide)
  have s18502 : τ 18502 = σ 18502 := hs 18502 (by decide)
  have s18503 : τ 18503 = σ 18503 := hs 18503 (by decide)
  have s18504 : τ 18504 = σ 18504 := hs 18504 (by decide)
  have s18505 : τ 18505 = σ 18505 := hs 18505 (by decide)
  have s18506 : τ 18506 = σ 18506 := hs 18506 (by decide)
  have s18507 : τ 18507 = σ 18507 := hs 18507 (by decide)
  have s18508 : τ 18508 = σ 18508 := hs 18508 (by decide)
  clear hs ht hb
  rw [hx] at hr
  obtain ⟨y, hy, hv⟩ := hr
  cases hy
  replace hv : x.toInt = 1 + 0 := hv
  have f0 : 0 ≤ (-3) + (1 * τ 18501 + 0) := hf _ (List.Mem.head _)
  have f1 : 0 ≤ (-1) + (1 * τ 18505 + 0) := hf _ (List.Mem.tail _ (List.Mem.head _))
  have f2 : 0 ≤ 0 + (1 * τ 19001 + 0) := hf _ (List.Mem.tail _ (List.Mem.tail _ (List.Mem.head _)))
  have f3 : 0 ≤ 0 + ((-1) * τ 19001 + 0) := hf _ (List.Mem.tail _ (List.Mem.tail _ (List.Mem.tail _ (List.Mem.head _))))
  have f4 : 0 ≤ 0 + (1 * τ 19002 + 0) := hf _ (List.Mem.tail _ (List.Mem.tail _ (List.Mem.tail _ (List.Mem.tail _ (List.Mem.head _)))))
  have f5 : 0 ≤ 59 + ((-1) * τ 19002 + 0) := hf _ (List.Mem.tail _ (List.Mem.tail _ (List.Mem.tail _ (List.Mem.tail _ (List.Mem.tail _ (List.Mem.head _))))))
  have f6 : 0 ≤ (-1) + (1 * τ 18505 + ((-1) * τ 19002 + 0)) := hf _ (List.Mem.tail _ (List.Mem.tail _ (List.Mem.tail _ (List.Mem.tail _ (List.Mem.tail _ (List.Mem.tail _ (List.Mem.head _)))))))
  clear hf hm
  exact Or.inl ⟨by omega, Or.inl ⟨by omega, by omega, by omega, by omega⟩⟩
theorem lw_wm_18 {as : List rv_A} {σ σ' : Nat → Int} {o : rv_O} {x : Int32} {a1 a2 : Int} {τ : Nat → Int} (hx : o.1 = some (.inl x)) (h1 : lw_av as 1 = a1) (h2 : lw_av as 2 = a2) (hb : ∀ s, (sx_sr s).1 ≤ σ s ∧ σ s ≤ (sx_sr s).2) (hW : lw_W ([], [(0, [(18502, (-1))]), ((-1), [(18506, 1)]), ((-1), [(19001, 1)]), (1, [(19001, (-1))]), (0, [(19002, 1)]), (59, [(19002, (-1))]), ((-1), [(18506, 1), (19002, (-1))])], [(12800, (0, []))], some (false, (1, []))) as σ σ' τ o) : lw_wm_C a1 a2 x.toInt σ σ' := by
  unfold lw_wm_C
  have b18501 : 0 ≤ σ 18501 ∧ σ 18501 ≤ 3 := by
    have h0 := hb 18501
    rw [show sx_sr 18501 = (0, 3) from by decide +kernel] at h0
    exact h0
  have b18502 : 0 ≤ σ 18502 ∧ σ 18502 ≤ 3 := by
    have h0 := hb 18502
    rw [show sx_sr 18502 = (0, 3) from by decide +kernel] at h0
    exact h0
  have b18503 : 0 ≤ σ 18503 ∧ σ 18503 ≤ 3 := by
    have h0 := hb 18503
    rw [show sx_sr 18503 = (0, 3) from by decide +kernel] at h0
    exact h0
  have b18504 : 0 ≤ σ 18504 ∧ σ 18504 ≤ 3 := by
    have h0 := hb 18504
    rw [show sx_sr 18504 = (0, 3) from by decide +kernel] at h0
    exact h0
  have b18505 : (-1) ≤ σ 18505 ∧ σ 18505 ≤ 60 := by
    have h0 := hb 18505
    rw [show sx_sr 18505 = ((-1), 60) from by decide +kernel] at h0
    exact h0
  have b18506 : (-1) ≤ σ 18506 ∧ σ 18506 ≤ 60 := by
    have h0 := hb 18506
    rw [show sx_sr 18506 = ((-1), 60) from by decide +kernel] at h0
    exact h0
  have b18507 : (-1) ≤ σ 18507 ∧ σ 18507 ≤ 60 := by
    have h0 := hb 18507
    rw [show sx_sr 18507 = ((-1), 60) from by decide +kernel] at h0
    exact h0
  have b18508 : (-1) ≤ σ 18508 ∧ σ 18508 ≤ 60 := by
    have h0 := hb 18508
    rw [show sx_sr 18508 = ((-1), 60) from by decide +kernel] at h0
    exact h0
  obtain ⟨hs, ht, hf, hr, hm, hw⟩ := hW
  have e1 : τ 19001 = a1 := by rw [ht 19001 (by decide) (by decide)]; exact h1
  have e2 : τ 19002 = a2 := by rw [ht 19002 (by decide) (by decide)]; exact h2
  have s18501 : τ 18501 = σ 18501 := hs 18501 (by decide)
  have s18502 : τ 18502 = σ 18502 := hs 18502 (by decide)
  have s18503 : τ 18503 = σ 18503 := hs 18503 (by decide)
  have s18504 : τ 18504 = σ 18504 := hs 18504 (by decide)
  have s18505 : τ 18505 = σ 18505 := hs 18505 (by decide)
  have s18506 : τ 18506 = σ 18506 := hs 18506 (by decide)
  have s18507 : τ 18507 = σ 18507 := hs 18507 (by decide)
  have s18508 : τ 18508 = σ 18508 := hs 18508 (by decide)
  clear hs ht hb
  rw [hx] at hr
  obtain ⟨y, hy, hv⟩ := hr
  cases hy
  replace hv : x.toInt = 1 + 0 := hv
  have f0 : 0 ≤ 0 + ((-1) * τ 18502 + 0) := hf _ (List.Mem.head _)
  have f1 : 0 ≤ (-1) + (1 * τ 18506 + 0) := hf _ (List.Mem.tail _ (List.Mem.head _))
  have f2 : 0 ≤ (-1) + (1 * τ 19001 + 0) := hf _ (List.Mem.tail _ (List.Mem.tail _ (List.Mem.head _)))
  have f3 : 0 ≤ 1 + ((-1) * τ 19001 + 0) := hf _ (List.Mem.tail _ (List.Mem.tail _ (List.Mem.tail _ (List.Mem.head _))))
  have f4 : 0 ≤ 0 + (1 * τ 19002 + 0) := hf _ (List.Mem.tail _ (List.Mem.tail _ (List.Mem.tail _ (List.Mem.tail _ (List.Mem.head _)))))
  have f5 : 0 ≤ 59 + ((-1) * τ 19002 + 0) := hf _ (List.Mem.tail _ (List.Mem.tail _ (List.Mem.tail _ (List.Mem.tail _ (List.Mem.tail _ (List.Mem.head _))))))
  have f6 : 0 ≤ (-1) + (1 * τ 18506 + ((-1) * τ 19002 + 0)) := hf _ (List.Mem.tail _ (List.Mem.tail _ (List.Mem.tail _ (List.Mem.tail _ (List.Mem.tail _ (List.Mem.tail _ (List.Mem.head _)))))))
  clear hf hm
  exact Or.inl ⟨by omega, Or.inr (Or.inl ⟨by omega, by omega, by omega, by omega⟩)⟩
theorem lw_wm_19 {as : List rv_A} {σ σ' : Nat → Int} {o : rv_O} {x : Int32} {a1 a2 : Int} {τ : Nat → Int} (hx : o.1 = some (.inl x)) (h1 : lw_av as 1 = a1) (h2 : lw_av as 2 = a2) (hb : ∀ s, (sx_sr s).1 ≤ σ s ∧ σ s ≤ (sx_sr s).2) (hW : lw_W ([], [((-1), [(18502, 1)]), (1, [(18502, (-1))]), ((-1), [(18506, 1)]), ((-1), [(19001, 1)]), (1, [(19001, (-1))]), (0, [(19002, 1)]), (59, [(19002, (-1))]), ((-1), [(18506, 1), (19002, (-1))])], [(12800, (0, []))], some (false, (1, []))) as σ σ' τ o) : lw_wm_C a1 a2 x.toInt σ σ' := by
  unfold lw_wm_C
  have b18501 : 0 ≤ σ 18501 ∧ σ 18501 ≤ 3 := by
    have h0 := hb 18501
    rw [show sx_sr 18501 = (0, 3) from by decide +kernel] at h0
    exact h0
  have b18502 : 0 ≤ σ 18502 ∧ σ 18502 ≤ 3 := by
    have h0 := hb 18502
    rw [show sx_sr 18502 = (0, 3) from by decide +kernel] at h0
    exact h0
  have b18503 : 0 ≤ σ 18503 ∧ σ 18503 ≤ 3 := by
    have h0 := hb 18503
    rw [show sx_sr 18503 = (0, 3) from by decide +kernel] at h0
    exact h0
  have b18504 : 0 ≤ σ 18504 ∧ σ 18504 ≤ 3 := by
    have h0 := hb 18504
    rw [show sx_sr 18504 = (0, 3) from by decide +kernel] at h0
    exact h0
  have b18505 : (-1) ≤ σ 18505 ∧ σ 18505 ≤ 60 := by
    have h0 := hb 18505
    rw [show sx_sr 18505 = ((-1), 60) from by decide +kernel] at h0
    exact h0
  have b18506 : (-1) ≤ σ 18506 ∧ σ 18506 ≤ 60 := by
    have h0 := hb 18506
    rw [show sx_sr 18506 = ((-1), 60) from by decide +kernel] at h0
    exact h0
  have b18507 : (-1) ≤ σ 18507 ∧ σ 18507 ≤ 60 := by
    have h0 := hb 18507
    rw [show sx_sr 18507 = ((-1), 60) from by decide +kernel] at h0
    exact h0
  have b18508 : (-1) ≤ σ 18508 ∧ σ 18508 ≤ 60 := by
    have h0 := hb 18508
    rw [show sx_sr 18508 = ((-1), 60) from by decide +kernel] at h0
    exact h0
  obtain ⟨hs, ht, hf, hr, hm, hw⟩ := hW
  have e1 : τ 19001 = a1 := by rw [ht 19001 (by decide) (by decide)]; exact h1
  have e2 : τ 19002 = a2 := by rw [ht 19002 (by decide) (by decide)]; exact h2
  have s18501 : τ 18501 = σ 18501 := hs 18501 (by decide)
  have s18502 : τ 18502 = σ 18502 := hs 18502 (by decide)
  have s18503 : τ 18503 = σ 18503 := hs 18503 (by decide)
  have s18504 : τ 18504 = σ 18504 := hs 18504 (by decide)
  have s18505 : τ 18505 = σ 18505 := hs 18505 (by decide)
  have s18506 : τ 18506 = σ 18506 := hs 18506 (by decide)
  have s18507 : τ 18507 = σ 18507 := hs 18507 (by decide)
  have s18508 : τ 18508 = σ 18508 := hs 18508 (by decide)
  clear hs ht hb
  rw [hx] at hr
  obtain ⟨y, hy, hv⟩ := hr
  cases hy
  replace hv : x.toInt = 1 + 0 := hv
  have f0 : 0 ≤ (-1) + (1 * τ 18502 + 0) := hf _ (List.Mem.head _)
  have f1 : 0 ≤ 1 + ((-1) * τ 18502 + 0) := hf _ (List.Mem.tail _ (List.Mem.head _))
  have f2 : 0 ≤ (-1) + (1 * τ 18506 + 0) := hf _ (List.Mem.tail _ (List.Mem.tail _ (List.Mem.head _)))
  have f3 : 0 ≤ (-1) + (1 * τ 19001 + 0) := hf _ (List.Mem.tail _ (List.Mem.tail _ (List.Mem.tail _ (List.Mem.head _))))
  have f4 : 0 ≤ 1 + ((-1) * τ 19001 + 0) := hf _ (List.Mem.tail _ (List.Mem.tail _ (List.Mem.tail _ (List.Mem.tail _ (List.Mem.head _)))))
  have f5 : 0 ≤ 0 + (1 * τ 19002 + 0) := hf _ (List.Mem.tail _ (List.Mem.tail _ (List.Mem.tail _ (List.Mem.tail _ (List.Mem.tail _ (List.Mem.head _))))))
  have f6 : 0 ≤ 59 + ((-1) * τ 19002 + 0) := hf _ (List.Mem.tail _ (List.Mem.tail _ (List.Mem.tail _ (List.Mem.tail _ (List.Mem.tail _ (List.Mem.tail _ (List.Mem.head _)))))))
  have f7 : 0 ≤ (-1) + (1 * τ 18506 + ((-1) * τ 19002 + 0)) := hf _ (List.Mem.tail _ (List.Mem.tail _ (List.Mem.tail _ (List.Mem.tail _ (List.Mem.tail _ (List.Mem.tail _ (List.Mem.tail _ (List.Mem.head _))))))))
  clear hf hm
  exact Or.inl ⟨by omega, Or.inr (Or.inl ⟨by omega, by omega, by omega, by omega⟩)⟩
theorem lw_wm_20 {as : List rv_A} {σ σ' : Nat → Int} {o : rv_O} {x : Int32} {a1 a2 : Int} {τ : Nat → Int} (hx : o.1 = some (.inl x)) (h1 : lw_av as 1 = a1) (h2 : lw_av as 2 = a2) (hb : ∀ s, (sx_sr s).1 ≤ σ s ∧ σ s ≤ (sx_sr s).2) (hW : lw_W ([], [((-2), [(18502, 1)]), (2, [(18502, (-1))]), ((-1), [(18506, 1)]), ((-1), [(19001, 1)]), (1, [(19001, (-1))]), (0, [(19002, 1)]), (59, [(19002, (-1))]), ((-1), [(18506, 1), (19002, (-1))])], [(12800, (0, []))], some (false, (1, []))) as σ σ' τ o) : lw_wm_C a1 a2 x.toInt σ σ' := by
  unfold lw_wm_C
  have b18501 : 0 ≤ σ 18501 ∧ σ 18501 ≤ 3 := by
    have h0 := hb 18501
    rw [show sx_sr 18501 = (0, 3) from by decide +kernel] at h0
    exact h0
  have b18502 : 0 ≤ σ 18502 ∧ σ 18502 ≤ 3 := by
    have h0 := hb 18502
    rw [show sx_sr 18502 = (0, 3) from by decide +kernel] at h0
    exact h0
  have b18503 : 0 ≤ σ 18503 ∧ σ 18503 ≤ 3 := by
    have h0 := hb 18503
    rw [show sx_sr 18503 = (0, 3) from by decide +kernel] at h0
    exact h0
  have b18504 : 0 ≤ σ 18504 ∧ σ 18504 ≤ 3 := by
    have h0 := hb 18504
    rw [show sx_sr 18504 = (0, 3) from by decide +kernel] at h0
    exact h0
  have b18505 : (-1) ≤ σ 18505 ∧ σ 18505 ≤ 60 := by
    have h0 := hb 18505
    rw [show sx_sr 18505 = ((-1), 60) from by decide +kernel] at h0
    exact h0
  have b18506 : (-1) ≤ σ 18506 ∧ σ 18506 ≤ 60 := by
    have h0 := hb 18506
    rw [show sx_sr 18506 = ((-1), 60) from by decide +kernel] at h0
    exact h0
  have b18507 : (-1) ≤ σ 18507 ∧ σ 18507 ≤ 60 := by
    have h0 := hb 18507
    rw [show sx_sr 18507 = ((-1), 60) from by decide +kernel] at h0
    exact h0
  have b18508 : (-1) ≤ σ 18508 ∧ σ 18508 ≤ 60 := by
    have h0 := hb 18508
    rw [show sx_sr 18508 = ((-1), 60) from by decide +kernel] at h0
    exact h0
  obtain ⟨hs, ht, hf, hr, hm, hw⟩ := hW
  have e1 : τ 19001 = a1 := by rw [ht 19001 (by decide) (by decide)]; exact h1
  have e2 : τ 19002 = a2 := by rw [ht 19002 (by decide) (by decide)]; exact h2
  have s18501 : τ 18501 = σ 18501 := hs 18501 (by decide)
  have s18502 : τ 18502 = σ 18502 := hs 18502 (by decide)
  have s18503 : τ 18503 = σ 18503 := hs 18503 (by decide)
  have s18504 : τ 18504 = σ 18504 := hs 18504 (by decide)
  have s18505 : τ 18505 = σ 18505 := hs 18505 (by decide)
  have s18506 : τ 18506 = σ 18506 := hs 18506 (by decide)
  have s18507 : τ 18507 = σ 18507 := hs 18507 (by decide)
  have s18508 : τ 18508 = σ 18508 := hs 18508 (by decide)
  clear hs ht hb
  rw [hx] at hr
  obtain ⟨y, hy, hv⟩ := hr
  cases hy
  replace hv : x.toInt = 1 + 0 := hv
  have f0 : 0 ≤ (-2) + (1 * τ 18502 + 0) := hf _ (List.Mem.head _)
  have f1 : 0 ≤ 2 + ((-1) * τ 18502 + 0) := hf _ (List.Mem.tail _ (List.Mem.head _))
  have f2 : 0 ≤ (-1) + (1 * τ 18506 + 0) := hf _ (List.Mem.tail _ (List.Mem.tail _ (List.Mem.head _)))
  have f3 : 0 ≤ (-1) + (1 * τ 19001 + 0) := hf _ (List.Mem.tail _ (List.Mem.tail _ (List.Mem.tail _ (List.Mem.head _))))
  have f4 : 0 ≤ 1 + ((-1) * τ 19001 + 0) := hf _ (List.Mem.tail _ (List.Mem.tail _ (List.Mem.tail _ (List.Mem.tail _ (List.Mem.head _)))))
  have f5 : 0 ≤ 0 + (1 * τ 19002 + 0) := hf _ (List.Mem.tail _ (List.Mem.tail _ (List.Mem.tail _ (List.Mem.tail _ (List.Mem.tail _ (List.Mem.head _))))))
  have f6 : 0 ≤ 59 + ((-1) * τ 19002 + 0) := hf _ (List.Mem.tail _ (List.Mem.tail _ (List.Mem.tail _ (List.Mem.tail _ (List.Mem.tail _ (List.Mem.tail _ (List.Mem.head _)))))))
  have f7 : 0 ≤ (-1) + (1 * τ 18506 + ((-1) * τ 19002 + 0)) := hf _ (List.Mem.tail _ (List.Mem.tail _ (List.Mem.tail _ (List.Mem.tail _ (List.Mem.tail _ (List.Mem.tail _ (List.Mem.tail _ (List.Mem.head _))))))))
  clear hf hm
  exact Or.inl ⟨by omega, Or.inr (Or.inl ⟨by omega, by omega, by omega, by omega⟩)⟩
theorem lw_wm_21 {as : List rv_A} {σ σ' : Nat → Int} {o : rv_O} {x : Int32} {a1 a2 : Int} {τ : Nat → Int} (hx : o.1 = some (.inl x)) (h1 : lw_av as 1 = a1) (h2 : lw_av as 2 = a2) (hb : ∀ s, (sx_sr s).1 ≤ σ s ∧ σ s ≤ (sx_sr s).2) (hW : lw_W ([], [((-3), [(18502, 1)]), ((-1), [(18506, 1)]), ((-1), [(19001, 1)]), (1, [(19001, (-1))]), (0, [(19002, 1)]), (59, [(19002, (-1))]), ((-1), [(18506, 1), (19002, (-1))])], [(12800, (0, []))], some (false, (1, []))) as σ σ' τ o) : lw_wm_C a1 a2 x.toInt σ σ' := by
  unfold lw_wm_C
  have b18501 : 0 ≤ σ 18501 ∧ σ 18501 ≤ 3 := by
    have h0 := hb 18501
    rw [show sx_sr 18501 = (0, 3) from by decide +kernel] at h0
    exact h0
  have b18502 : 0 ≤ σ 18502 ∧ σ 18502 ≤ 3 := by
    have h0 := hb 18502
    rw [show sx_sr 18502 = (0, 3) from by decide +kernel] at h0
    exact h0
  have b18503 : 0 ≤ σ 18503 ∧ σ 18503 ≤ 3 := by
    have h0 := hb 18503
    rw [show sx_sr 18503 = (0, 3) from by decide +kernel] at h0
    exact h0
  have b18504 : 0 ≤ σ 18504 ∧ σ 18504 ≤ 3 := by
    have h0 := hb 18504
    rw [show sx_sr 18504 = (0, 3) from by decide +kernel] at h0
    exact h0
  have b18505 : (-1) ≤ σ 18505 ∧ σ 18505 ≤ 60 := by
    have h0 := hb 18505
    rw [show sx_sr 18505 = ((-1), 60) from by decide +kernel] at h0
    exact h0
  have b18506 : (-1) ≤ σ 18506 ∧ σ 18506 ≤ 60 := by
    have h0 := hb 18506
    rw [show sx_sr 18506 = ((-1), 60) from by decide +kernel] at h0
    exact h0
  have b18507 : (-1) ≤ σ 18507 ∧ σ 18507 ≤ 60 := by
    have h0 := hb 18507
    rw [show sx_sr 18507 = ((-1), 60) from by decide +kernel] at h0
    exact h0
  have b18508 : (-1) ≤ σ 18508 ∧ σ 18508 ≤ 60 := by
    have h0 := hb 18508
    rw [show sx_sr 18508 = ((-1), 60) from by decide +kernel] at h0
    exact h0
  obtain ⟨hs, ht, hf, hr, hm, hw⟩ := hW
  have e1 : τ 19001 = a1 := by rw [ht 19001 (by decide) (by decide)]; exact h1
  have e2 : τ 19002 = a2 := by rw [ht 19002 (by decide) (by decide)]; exact h2
  have s18501 : τ 18501 = σ 18501 := hs 18501 (by decide)
  have s18502 : τ 18502 = σ 18502 := hs 18502 (by decide)
  have s18503 : τ 18503 = σ 18503 := hs 18503 (by decide)
  have s18504 : τ 18504 = σ 18504 := hs 18504 (by decide)
  have s18505 : τ 18505 = σ 18505 := hs 18505 (by decide)
  have s18506 : τ 18506 = σ 18506 := hs 18506 (by decide)
  have s18507 : τ 18507 = σ 18507 := hs 18507 (by decide)
  have s18508 : τ 18508 = σ 18508 := hs 18508 (by decide)
  clear hs ht hb
  rw [hx] at hr
  obtain ⟨y, hy, hv⟩ := hr
  cases hy
  replace hv : x.toInt = 1 + 0 := hv
  have f0 : 0 ≤ (-3) + (1 * τ 18502 + 0) := hf _ (List.Mem.head _)
  have f1 : 0 ≤ (-1) + (1 * τ 18506 + 0) := hf _ (List.Mem.tail _ (List.Mem.head _))
  have f2 : 0 ≤ (-1) + (1 * τ 19001 + 0) := hf _ (List.Mem.tail _ (List.Mem.tail _ (List.Mem.head _)))
  have f3 : 0 ≤ 1 + ((-1) * τ 19001 + 0) := hf _ (List.Mem.tail _ (List.Mem.tail _ (List.Mem.tail _ (List.Mem.head _))))
  have f4 : 0 ≤ 0 + (1 * τ 19002 + 0) := hf _ (List.Mem.tail _ (List.Mem.tail _ (List.Mem.tail _ (List.Mem.tail _ (List.Mem.head _)))))
  have f5 : 0 ≤ 59 + ((-1) * τ 19002 + 0) := hf _ (List.Mem.tail _ (List.Mem.tail _ (List.Mem.tail _ (List.Mem.tail _ (List.Mem.tail _ (List.Mem.head _))))))
  have f6 : 0 ≤ (-1) + (1 * τ 18506 + ((-1) * τ 19002 + 0)) := hf _ (List.Mem.tail _ (List.Mem.tail _ (List.Mem.tail _ (List.Mem.tail _ (List.Mem.tail _ (List.Mem.tail _ (List.Mem.head _)))))))
  clear hf hm
  exact Or.inl ⟨by omega, Or.inr (Or.inl ⟨by omega, by omega, by omega, by omega⟩)⟩
theorem lw_wm_22 {as : List rv_A} {σ σ' : Nat → Int} {o : rv_O} {x : Int32} {a1 a2 : Int} {τ : Nat → Int} (hx : o.1 = some (.inl x)) (h1 : lw_av as 1 = a1) (h2 : lw_av as 2 = a2) (hb : ∀ s, (sx_sr s).1 ≤ σ s ∧ σ s ≤ (sx_sr s).2) (hW : lw_W ([], [(0, [(18503, (-1))]), ((-1), [(18507, 1)]), ((-2), [(19001, 1)]), (2, [(19001, (-1))]), (0, [(19002, 1)]), (59, [(19002, (-1))]), ((-1), [(18507, 1), (19002, (-1))])], [(12800, (0, []))], some (false, (1, []))) as σ σ' τ o) : lw_wm_C a1 a2 x.toInt σ σ' := by
  unfold lw_wm_C
  have b18501 : 0 ≤ σ 18501 ∧ σ 18501 ≤ 3 := by
    have h0 := hb 18501
    rw [show sx_sr 18501 = (0, 3) from by decide +kernel] at h0
    exact h0
  have b18502 : 0 ≤ σ 18502 ∧ σ 18502 ≤ 3 := by
    have h0 := hb 18502
    rw [show sx_sr 18502 = (0, 3) from by decide +kernel] at h0
    exact h0
  have b18503 : 0 ≤ σ 18503 ∧ σ 18503 ≤ 3 := by
    have h0 := hb 18503
    rw [show sx_sr 18503 = (0, 3) from by decide +kernel] at h0
    exact h0
  have b18504 : 0 ≤ σ 18504 ∧ σ 18504 ≤ 3 := by
    have h0 := hb 18504
    rw [show sx_sr 18504 = (0, 3) from by decide +kernel] at h0
    exact h0
  have b18505 : (-1) ≤ σ 18505 ∧ σ 18505 ≤ 60 := by
    have h0 := hb 18505
    rw [show sx_sr 18505 = ((-1), 60) from by decide +kernel] at h0
    exact h0
  have b18506 : (-1) ≤ σ 18506 ∧ σ 18506 ≤ 60 := by
    have h0 := hb 18506
    rw [show sx_sr 18506 = ((-1), 60) from by decide +kernel] at h0
    exact h0
  have b18507 : (-1) ≤ σ 18507 ∧ σ 18507 ≤ 60 := by
    have h0 := hb 18507
    rw [show sx_sr 18507 = ((-1), 60) from by decide +kernel] at h0
    exact h0
  have b18508 : (-1) ≤ σ 18508 ∧ σ 18508 ≤ 60 := by
    have h0 := hb 18508
    rw [show sx_sr 18508 = ((-1), 60) from by decide +kernel] at h0
    exact h0
  obtain ⟨hs, ht, hf, hr, hm, hw⟩ := hW
  have e1 : τ 19001 = a1 := by rw [ht 19001 (by decide) (by decide)]; exact h1
  have e2 : τ 19002 = a2 := by rw [ht 19002 (by decide) (by decide)]; exact h2
  have s18501 : τ 18501 = σ 18501 := hs 18501 (by decide)
  have s18502 : τ 18502 = σ 18502 := hs 18502 (by decide)
  have s18503 : τ 18503 = σ 18503 := hs 18503 (by decide)
  have s18504 : τ 18504 = σ 18504 := hs 18504 (by decide)
  have s18505 : τ 18505 = σ 18505 := hs 18505 (by decide)
  have s18506 : τ 18506 = σ 18506 := hs 18506 (by decide)
  have s18507 : τ 18507 = σ 18507 := hs 18507 (by decide)
  have s18508 : τ 18508 = σ 18508 := hs 18508 (by decide)
  clear hs ht hb
  rw [hx] at hr
  obtain ⟨y, hy, hv⟩ := hr
  cases hy
  replace hv : x.toInt = 1 + 0 := hv
  have f0 : 0 ≤ 0 + ((-1) * τ 18503 + 0) := hf _ (List.Mem.head _)
  have f1 : 0 ≤ (-1) + (1 * τ 18507 + 0) := hf _ (List.Mem.tail _ (List.Mem.head _))
  have f2 : 0 ≤ (-2) + (1 * τ 19001 + 0) := hf _ (List.Mem.tail _ (List.Mem.tail _ (List.Mem.head _)))
  have f3 : 0 ≤ 2 + ((-1) * τ 19001 + 0) := hf _ (List.Mem.tail _ (List.Mem.tail _ (List.Mem.tail _ (List.Mem.head _))))
  have f4 : 0 ≤ 0 + (1 * τ 19002 + 0) := hf _ (List.Mem.tail _ (List.Mem.tail _ (List.Mem.tail _ (List.Mem.tail _ (List.Mem.head _)))))
  have f5 : 0 ≤ 59 + ((-1) * τ 19002 + 0) := hf _ (List.Mem.tail _ (List.Mem.tail _ (List.Mem.tail _ (List.Mem.tail _ (List.Mem.tail _ (List.Mem.head _))))))
  have f6 : 0 ≤ (-1) + (1 * τ 18507 + ((-1) * τ 19002 + 0)) := hf _ (List.Mem.tail _ (List.Mem.tail _ (List.Mem.tail _ (List.Mem.tail _ (List.Mem.tail _ (List.Mem.tail _ (List.Mem.head _)))))))
  clear hf hm
  exact Or.inl ⟨by omega, Or.inr (Or.inr (Or.inl ⟨by omega, by omega, by omega, by omega⟩))⟩
theorem lw_wm_23 {as : List rv_A} {σ σ' : Nat → Int} {o : rv_O} {x : Int32} {a1 a2 : Int} {τ : Nat → Int} (hx : o.1 = some (.inl x)) (h1 : lw_av as 1 = a1) (h2 : lw_av as 2 = a2) (hb : ∀ s, (sx_sr s).1 ≤ σ s ∧ σ s ≤ (sx_sr s).2) (hW : lw_W ([], [((-1), [(18503, 1)]), (1, [(18503, (-1))]), ((-1), [(18507, 1)]), ((-2), [(19001, 1)]), (2, [(19001, (-1))]), (0, [(19002, 1)]), (59, [(19002, (-1))]), ((-1), [(18507, 1), (19002, (-1))])], [(12800, (0, []))], some (false, (1, []))) as σ σ' τ o) : lw_wm_C a1 a2 x.toInt σ σ' := by
  unfold lw_wm_C
  have b18501 : 0 ≤ σ 18501 ∧ σ 18501 ≤ 3 := by
    have h0 := hb 18501
    rw [show sx_sr 18501 = (0, 3) from by decide +kernel] at h0
    exact h0
  have b18502 : 0 ≤ σ 18502 ∧ σ 18502 ≤ 3 := by
    have h0 := hb 18502
    rw [show sx_sr 18502 = (0, 3) from by decide +kernel] at h0
    exact h0
  have b18503 : 0 ≤ σ 18503 ∧ σ 18503 ≤ 3 := by
    have h0 := hb 18503
    rw [show sx_sr 18503 = (0, 3) from by decide +kernel] at h0
    exact h0
  have b18504 : 0 ≤ σ 18504 ∧ σ 18504 ≤ 3 := by
    have h0 := hb 18504
    rw [show sx_sr 18504 = (0, 3) from by decide +kernel] at h0
    exact h0
  have b18505 : (-1) ≤ σ 18505 ∧ σ 18505 ≤ 60 := by
    have h0 := hb 18505
    rw [show sx_sr 18505 = ((-1), 60) from by decide +kernel] at h0
    exact h0
  have b18506 : (-1) ≤ σ 18506 ∧ σ 18506 ≤ 60 := by
    have h0 := hb 18506
    rw [show sx_sr 18506 = ((-1), 60) from by decide +kernel] at h0
    exact h0
  have b18507 : (-1) ≤ σ 18507 ∧ σ 18507 ≤ 60 := by
    have h0 := hb 18507
    rw [show sx_sr 18507 = ((-1), 60) from by decide +kernel] at h0
    exact h0
  have b18508 : (-1) ≤ σ 18508 ∧ σ 18508 ≤ 60 := by
    have h0 := hb 18508
    rw [show sx_sr 18508 = ((-1), 60) from by decide +kernel] at h0
    exact h0
  obtain ⟨hs, ht, hf, hr, hm, hw⟩ := hW
  have e1 : τ 19001 = a1 := by rw [ht 19001 (by decide) (by decide)]; exact h1
  have e2 : τ 19002 = a2 := by rw [ht 19002 (by decide) (by decide)]; exact h2
  have s18501 : τ 18501 = σ 18501 := hs 18501 (by decide)
  have s18502 : τ 18502 = σ 18502 := hs 18502 (by decide)
  have s18503 : τ 18503 = σ 18503 := hs 18503 (by decide)
  have s18504 : τ 18504 = σ 18504 := hs 18504 (by decide)
  have s18505 : τ 18505 = σ 18505 := hs 18505 (by decide)
  have s18506 : τ 18506 = σ 18506 := hs 18506 (by decide)
  have s18507 : τ 18507 = σ 18507 := hs 18507 (by decide)
  have s18508 : τ 18508 = σ 18508 := hs 18508 (by decide)
  clear hs ht hb
  rw [hx] at hr
  obtain ⟨y, hy, hv⟩ := hr
  cases hy
  replace hv : x.toInt = 1 + 0 := hv
  have f0 : 0 ≤ (-1) + (1 * τ 18503 + 0) := hf _ (List.Mem.head _)
  have f1 : 0 ≤ 1 + ((-1) * τ 18503 + 0) := hf _ (List.Mem.tail _ (List.Mem.head _))
  have f2 : 0 ≤ (-1) + (1 * τ 18507 + 0) := hf _ (List.Mem.tail _ (List.Mem.tail _ (List.Mem.head _)))
  have f3 : 0 ≤ (-2) + (1 * τ 19001 + 0) := hf _ (List.Mem.tail _ (List.Mem.tail _ (List.Mem.tail _ (List.Mem.head _))))
  have f4 : 0 ≤ 2 + ((-1) * τ 19001 + 0) := hf _ (List.Mem.tail _ (List.Mem.tail _ (List.Mem.tail _ (List.Mem.tail _ (List.Mem.head _)))))
  have f5 : 0 ≤ 0 + (1 * τ 19002 + 0) := hf _ (List.Mem.tail _ (List.Mem.tail _ (List.Mem.tail _ (List.Mem.tail _ (List.Mem.tail _ (List.Mem.head _))))))
  have f6 : 0 ≤ 59 + ((-1) * τ 19002 + 0) := hf _ (List.Mem.tail _ (List.Mem.tail _ (List.Mem.tail _ (List.Mem.tail _ (List.Mem.tail _ (List.Mem.tail _ (List.Mem.head _)))))))
  have f7 : 0 ≤ (-1) + (1 * τ 18507 + ((-1) * τ 19002 + 0)) := hf _ (List.Mem.tail _ (List.Mem.tail _ (List.Mem.tail _ (List.Mem.tail _ (List.Mem.tail _ (List.Mem.tail _ (List.Mem.tail _ (List.Mem.head _))))))))
  clear hf hm
  exact Or.inl ⟨by omega, Or.inr (Or.inr (Or.inl ⟨by omega, by omega, by omega, by omega⟩))⟩
theorem lw_wm_24 {as : List rv_A} {σ σ' : Nat → Int} {o : rv_O} {x : Int32} {a1 a2 : Int} {τ : Nat → Int} (hx : o.1 = some (.inl x)) (h1 : lw_av as 1 = a1) (h2 : lw_av as 2 = a2) (hb : ∀ s, (sx_sr s).1 ≤ σ s ∧ σ s ≤ (sx_sr s).2) (hW : lw_W ([], [((-2), [(18503, 1)]), (2, [(18503, (-1))]), ((-1), [(18507, 1)]), ((-2), [(19001, 1)]), (2, [(19001, (-1))]), (0, [(19002, 1)]), (59, [(19002, (-1))]), ((-1), [(18507, 1), (19002, (-1))])], [(12800, (0, []))], some (false, (1, []))) as σ σ' τ o) : lw_wm_C a1 a2 x.toInt σ σ' := by
  unfold lw_wm_C
  have b18501 : 0 ≤ σ 18501 ∧ σ 18501 ≤ 3 := by
    have h0 := hb 18501
    rw [show sx_sr 18501 = (0, 3) from by decide +kernel] at h0
    exact h0
  have b18502 : 0 ≤ σ 18502 ∧ σ 18502 ≤ 3 := by
    have h0 := hb 18502
    rw [show sx_sr 18502 = (0, 3) from by decide +kernel] at h0
    exact h0
  have b18503 : 0 ≤ σ 18503 ∧ σ 18503 ≤ 3 := by
    have h0 := hb 18503
    rw [show sx_sr 18503 = (0, 3) from by decide +kernel] at h0
    exact h0
  have b18504 : 0 ≤ σ 18504 ∧ σ 18504 ≤ 3 := by
    have h0 := hb 18504
    rw [show sx_sr 18504 = (0, 3) from by decide +kernel] at h0
    exact h0
  have b18505 : (-1) ≤ σ 18505 ∧ σ 18505 ≤ 60 := by
    have h0 := hb 18505
    rw [show sx_sr 18505 = ((-1), 60) from by decide +kernel] at h0
    exact h0
  have b18506 : (-1) ≤ σ 18506 ∧ σ 18506 ≤ 60 := by
    have h0 := hb 18506
    rw [show sx_sr 18506 = ((-1), 60) from by decide +kernel] at h0
    exact h0
  have b18507 : (-1) ≤ σ 18507 ∧ σ 18507 ≤ 60 := by
    have h0 := hb 18507
    rw [show sx_sr 18507 = ((-1), 60) from by decide +kernel] at h0
    exact h0
  have b18508 : (-1) ≤ σ 18508 ∧ σ 18508 ≤ 60 := by
    have h0 := hb 18508
    rw [show sx_sr 18508 = ((-1), 60) from by decide +kernel] at h0
    exact h0
  obtain ⟨hs, ht, hf, hr, hm, hw⟩ := hW
  have e1 : τ 19001 = a1 := by rw [ht 19001 (by decide) (by decide)]; exact h1
  have e2 : τ 19002 = a2 := by rw [ht 19002 (by decide) (by decide)]; exact h2
  have s18501 : τ 18501 = σ 18501 := hs 18501 (by decide)
  have s18502 : τ 18502 = σ 18502 := hs 18502 (by decide)
  have s18503 : τ 18503 = σ 18503 := hs 18503 (by decide)
  have s18504 : τ 18504 = σ 18504 := hs 18504 (by decide)
  have s18505 : τ 18505 = σ 18505 := hs 18505 (by decide)
  have s18506 : τ 18506 = σ 18506 := hs 18506 (by decide)
  have s18507 : τ 18507 = σ 18507 := hs 18507 (by decide)
  have s18508 : τ 18508 = σ 18508 := hs 18508 (by decide)
  clear hs ht hb
  rw [hx] at hr
  obtain ⟨y, hy, hv⟩ := hr
  cases hy
  replace hv : x.toInt = 1 + 0 := hv
  have f0 : 0 ≤ (-2) + (1 * τ 18503 + 0) := hf _ (List.Mem.head _)
  have f1 : 0 ≤ 2 + ((-1) * τ 18503 + 0) := hf _ (List.Mem.tail _ (List.Mem.head _))
  have f2 : 0 ≤ (-1) + (1 * τ 18507 + 0) := hf _ (List.Mem.tail _ (List.Mem.tail _ (List.Mem.head _)))
  have f3 : 0 ≤ (-2) + (1 * τ 19001 + 0) := hf _ (List.Mem.tail _ (List.Mem.tail _ (List.Mem.tail _ (List.Mem.head _))))
  have f4 : 0 ≤ 2 + ((-1) * τ 19001 + 0) := hf _ (List.Mem.tail _ (List.Mem.tail _ (List.Mem.tail _ (List.Mem.tail _ (List.Mem.head _)))))
  have f5 : 0 ≤ 0 + (1 * τ 19002 + 0) := hf _ (List.Mem.tail _ (List.Mem.tail _ (List.Mem.tail _ (List.Mem.tail _ (List.Mem.tail _ (List.Mem.head _))))))
  have f6 : 0 ≤ 59 + ((-1) * τ 19002 + 0) := hf _ (List.Mem.tail _ (List.Mem.tail _ (List.Mem.tail _ (List.Mem.tail _ (List.Mem.tail _ (List.Mem.tail _ (List.Mem.head _)))))))
  have f7 : 0 ≤ (-1) + (1 * τ 18507 + ((-1) * τ 19002 + 0)) := hf _ (List.Mem.tail _ (List.Mem.tail _ (List.Mem.tail _ (List.Mem.tail _ (List.Mem.tail _ (List.Mem.tail _ (List.Mem.tail _ (List.Mem.head _))))))))
  clear hf hm
  exact Or.inl ⟨by omega, Or.inr (Or.inr (Or.inl ⟨by omega, by omega, by omega, by omega⟩))⟩
theorem lw_wm_25 {as : List rv_A} {σ σ' : Nat → Int} {o : rv_O} {x : Int32} {a1 a2 : Int} {τ : Nat → Int} (hx : o.1 = some (.inl x)) (h1 : lw_av as 1 = a1) (h2 : lw_av as 2 = a2) (hb : ∀ s, (sx_sr s).1 ≤ σ s ∧ σ s ≤ (sx_sr s).2) (hW : lw_W ([], [((-3), [(18503, 1)]), ((-1), [(18507, 1)]), ((-2), [(19001, 1)]), (2, [(19001, (-1))]), (0, [(19002, 1)]), (59, [(19002, (-1))]), ((-1), [(18507, 1), (19002, (-1))])], [(12800, (0, []))], some (false, (1, []))) as σ σ' τ o) : lw_wm_C a1 a2 x.toInt σ σ' := by
  unfold lw_wm_C
  have b18501 : 0 ≤ σ 18501 ∧ σ 18501 ≤ 3 := by
    have h0 := hb 18501
    rw [show sx_sr 18501 = (0, 3) from by decide +kernel] at h0
    exact h0
  have b18502 : 0 ≤ σ 18502 ∧ σ 18502 ≤ 3 := by
    have h0 := hb 18502
    rw [show sx_sr 18502 = (0, 3) from by decide +kernel] at h0
    exact h0
  have b18503 : 0 ≤ σ 18503 ∧ σ 18503 ≤ 3 := by
    have h0 := hb 18503
    rw [show sx_sr 18503 = (0, 3) from by decide +kernel] at h0
    exact h0
  have b18504 : 0 ≤ σ 18504 ∧ σ 18504 ≤ 3 := by
    have h0 := hb 18504
    rw [show sx_sr 18504 = (0, 3) from by decide +kernel] at h0
    exact h0
  have b18505 : (-1) ≤ σ 18505 ∧ σ 18505 ≤ 60 := by
    have h0 := hb 18505
    rw [show sx_sr 18505 = ((-1), 60) from by decide +kernel] at h0
    exact h0
  have b18506 : (-1) ≤ σ 18506 ∧ σ 18506 ≤ 60 := by
    have h0 := hb 18506
    rw [show sx_sr 18506 = ((-1), 60) from by decide +kernel] at h0
    exact h0
  have b18507 : (-1) ≤ σ 18507 ∧ σ 18507 ≤ 60 := by
    have h0 := hb 18507
    rw [show sx_sr 18507 = ((-1), 60) from by decide +kernel] at h0
    exact h0
  have b18508 : (-1) ≤ σ 18508 ∧ σ 18508 ≤ 60 := by
    have h0 := hb 18508
    rw [show sx_sr 18508 = ((-1), 60) from by decide +kernel] at h0
    exact h0
  obtain ⟨hs, ht, hf, hr, hm, hw⟩ := hW
  have e1 : τ 19001 = a1 := by rw [ht 19001 (by decide) (by decide)]; exact h1
  have e2 : τ 19002 = a2 := by rw [ht 19002 (by decide) (by decide)]; exact h2
  have s18501 : τ 18501 = σ 18501 := hs 18501 (by decide)
  have s18502 : τ 18502 = σ 18502 := hs 18502 (by decide)
  have s18503 : τ 18503 = σ 18503 := hs 18503 (by decide)
  have s18504 : τ 18504 = σ 18504 := hs 18504 (by decide)
  have s18505 : τ 18505 = σ 18505 := hs 18505 (by decide)
  have s18506 : τ 18506 = σ 18506 := hs 18506 (by decide)
  have s18507 : τ 18507 = σ 18507 := hs 18507 (by decide)
  have s18508 : τ 18508 = σ 18508 := hs 18508 (by decide)
  clear hs ht hb
  rw [hx] at hr
  obtain ⟨y, hy, hv⟩ := hr
  cases hy
  replace hv : x.toInt = 1 + 0 := hv
  have f0 : 0 ≤ (-3) + (1 * τ 18503 + 0) := hf _ (List.Mem.head _)
  have f1 : 0 ≤ (-1) + (1 * τ 18507 + 0) := hf _ (List.Mem.tail _ (List.Mem.head _))
  have f2 : 0 ≤ (-2) + (1 * τ 19001 + 0) := hf _ (List.Mem.tail _ (List.Mem.tail _ (List.Mem.head _)))
  have f3 : 0 ≤ 2 + ((-1) * τ 19001 + 0) := hf _ (List.Mem.tail _ (List.Mem.tail _ (List.Mem.tail _ (List.Mem.head _))))
  have f4 : 0 ≤ 0 + (1 * τ 19002 + 0) := hf _ (List.Mem.tail _ (List.Mem.tail _ (List.Mem.tail _ (List.Mem.tail _ (List.Mem.head _)))))
  have f5 : 0 ≤ 59 + ((-1) * τ 19002 + 0) := hf _ (List.Mem.tail _ (List.Mem.tail _ (List.Mem.tail _ (List.Mem.tail _ (List.Mem.tail _ (List.Mem.head _))))))
  have f6 : 0 ≤ (-1) + (1 * τ 18507 + ((-1) * τ 19002 + 0)) := hf _ (List.Mem.tail _ (List.Mem.tail _ (List.Mem.tail _ (List.Mem.tail _ (List.Mem.tail _ (List.Mem.tail _ (List.Mem.head _)))))))
  clear hf hm
  exact Or.inl ⟨by omega, Or.inr (Or.inr (Or.inl ⟨by omega, by omega, by omega, by omega⟩))⟩
theorem lw_wm_26 {as : List rv_A} {σ σ' : Nat → Int} {o : rv_O} {x : Int32} {a1 a2 : Int} {τ : Nat → Int} (hx : o.1 = some (.inl x)) (h1 : lw_av as 1 = a1) (h2 : lw_av as 2 = a2) (hb : ∀ s, (sx_sr s).1 ≤ σ s ∧ σ s ≤ (sx_sr s).2) (hW : lw_W ([], [(0, [(18504, (-1))]), ((-1), [(18508, 1)]), ((-3), [(19001, 1)]), (3, [(19001, (-1))]), (0, [(19002, 1)]), (59, [(19002, (-1))]), ((-1), [(18508, 1), (19002, (-1))])], [(12800, (0, []))], some (false, (1, []))) as σ σ' τ o) : lw_wm_C a1 a2 x.toInt σ σ' := by
  unfold lw_wm_C
  have b18501 : 0 ≤ σ 18501 ∧ σ 18501 ≤ 3 := by
    have h0 := hb 18501
    rw [show sx_sr 18501 = (0, 3) from by decide +kernel] at h0
    exact h0
  have b18502 : 0 ≤ σ 18502 ∧ σ 18502 ≤ 3 := by
    have h0 := hb 18502
    rw [show sx_sr 18502 = (0, 3) from by decide +kernel] at h0
    exact h0
  have b18503 : 0 ≤ σ 18503 ∧ σ 18503 ≤ 3 := by
    have h0 := hb 18503
    rw [show sx_sr 18503 = (0, 3) from by decide +kernel] at h0
    exact h0
  have b18504 : 0 ≤ σ 18504 ∧ σ 18504 ≤ 3 := by
    have h0 := hb 18504
    rw [show sx_sr 18504 = (0, 3) from by decide +kernel] at h0
    exact h0
  have b18505 : (-1) ≤ σ 18505 ∧ σ 18505 ≤ 60 := by
    have h0 := hb 18505
    rw [show sx_sr 18505 = ((-1), 60) from by decide +kernel] at h0
    exact h0
  have b18506 : (-1) ≤ σ 18506 ∧ σ 18506 ≤ 60 := by
    have h0 := hb 18506
    rw [show sx_sr 18506 = ((-1), 60) from by decide +kernel] at h0
    exact h0
  have b18507 : (-1) ≤ σ 18507 ∧ σ 18507 ≤ 60 := by
    have h0 := hb 18507
    rw [show sx_sr 18507 = ((-1), 60) from by decide +kernel] at h0
    exact h0
  have b18508 : (-1) ≤ σ 18508 ∧ σ 18508 ≤ 60 := by
    have h0 := hb 18508
    rw [show sx_sr 18508 = ((-1), 60) from by decide +kernel] at h0
    exact h0
  obtain ⟨hs, ht, hf, hr, hm, hw⟩ := hW
  have e1 : τ 19001 = a1 := by rw [ht 19001 (by decide) (by decide)]; exact h1
  have e2 : τ 19002 = a2 := by rw [ht 19002 (by decide) (by decide)]; exact h2
  have s18501 : τ 18501 = σ 18501 := hs 18501 (by decide)
  have s18502 : τ 18502 = σ 18502 := hs 18502 (by decide)
  have s18503 : τ 18503 = σ 18503 := hs 18503 (by decide)
  have s18504 : τ 18504 = σ 18504 := hs 18504 (by decide)
  have s18505 : τ 18505 = σ 18505 := hs 18505 (by decide)
  have s18506 : τ 18506 = σ 18506 := hs 18506 (by decide)
  have s18507 : τ 18507 = σ 18507 := hs 18507 (by decide)
  have s18508 : τ 18508 = σ 18508 := hs 18508 (by decide)
  clear hs ht hb
  rw [hx] at hr
  obtain ⟨y, hy, hv⟩ := hr
  cases hy
  replace hv : x.toInt = 1 + 0 := hv
  have f0 : 0 ≤ 0 + ((-1) * τ 18504 + 0) := hf _ (List.Mem.head _)
  have f1 : 0 ≤ (-1) + (1 * τ 18508 + 0) := hf _ (List.Mem.tail _ (List.Mem.head _))
  have f2 : 0 ≤ (-3) + (1 * τ 19001 + 0) := hf _ (List.Mem.tail _ (List.Mem.tail _ (List.Mem.head _)))
  have f3 : 0 ≤ 3 + ((-1) * τ 19001 + 0) := hf _ (List.Mem.tail _ (List.Mem.tail _ (List.Mem.tail _ (List.Mem.head _))))
  have f4 : 0 ≤ 0 + (1 * τ 19002 + 0) := hf _ (List.Mem.tail _ (List.Mem.tail _ (List.Mem.tail _ (List.Mem.tail _ (List.Mem.head _)))))
  have f5 : 0 ≤ 59 + ((-1) * τ 19002 + 0) := hf _ (List.Mem.tail _ (List.Mem.tail _ (List.Mem.tail _ (List.Mem.tail _ (List.Mem.tail _ (List.Mem.head _))))))
  have f6 : 0 ≤ (-1) + (1 * τ 18508 + ((-1) * τ 19002 + 0)) := hf _ (List.Mem.tail _ (List.Mem.tail _ (List.Mem.tail _ (List.Mem.tail _ (List.Mem.tail _ (List.Mem.tail _ (List.Mem.head _)))))))
  clear hf hm
  exact Or.inl ⟨by omega, Or.inr (Or.inr (Or.inr ⟨by omega, by omega, by omega, by omega⟩))⟩
theorem lw_wm_27 {as : List rv_A} {σ σ' : Nat → Int} {o : rv_O} {x : Int32} {a1 a2 : Int} {τ : Nat → Int} (hx : o.1 = some (.inl x)) (h1 : lw_av as 1 = a1) (h2 : lw_av as 2 = a2) (hb : ∀ s, (sx_sr s).1 ≤ σ s ∧ σ s ≤ (sx_sr s).2) (hW : lw_W ([], [((-1), [(18504, 1)]), (1, [(18504, (-1))]), ((-1), [(18508, 1)]), ((-3), [(19001, 1)]), (3, [(19001, (-1))]), (0, [(19002, 1)]), (59, [(19002, (-1))]), ((-1), [(18508, 1), (19002, (-1))])], [(12800, (0, []))], some (false, (1, []))) as σ σ' τ o) : lw_wm_C a1 a2 x.toInt σ σ' := by
  unfold lw_wm_C
  have b18501 : 0 ≤ σ 18501 ∧ σ 18501 ≤ 3 := by
    have h0 := hb 18501
    rw [show sx_sr 18501 = (0, 3) from by decide +kernel] at h0
    exact h0
  have b18502 : 0 ≤ σ 18502 ∧ σ 18502 ≤ 3 := by
    have h0 := hb 18502
    rw [show sx_sr 18502 = (0, 3) from by decide +kernel] at h0
    exact h0
  have b18503 : 0 ≤ σ 18503 ∧ σ 18503 ≤ 3 := by
    have h0 := hb 18503
    rw [show sx_sr 18503 = (0, 3) from by decide +kernel] at h0
    exact h0
  have b18504 : 0 ≤ σ 18504 ∧ σ 18504 ≤ 3 := by
    have h0 := hb 18504
    rw [show sx_sr 18504 = (0, 3) from by decide +kernel] at h0
    exact h0
  have b18505 : (-1) ≤ σ 18505 ∧ σ 18505 ≤ 60 := by
    have h0 := hb 18505
    rw [show sx_sr 18505 = ((-1), 60) from by decide +kernel] at h0
    exact h0
  have b18506 : (-1) ≤ σ 18506 ∧ σ 18506 ≤ 60 := by
    have h0 := hb 18506
    rw [show sx_sr 18506 = ((-1), 60) from by decide +kernel] at h0
    exact h0
  have b18507 : (-1) ≤ σ 18507 ∧ σ 18507 ≤ 60 := by
    have h0 := hb 18507
    rw [show sx_sr 18507 = ((-1), 60) from by decide +kernel] at h0
    exact h0
  have b18508 : (-1) ≤ σ 18508 ∧ σ 18508 ≤ 60 := by
    have h0 := hb 18508
    rw [show sx_sr 18508 = ((-1), 60) from by decide +kernel] at h0
    exact h0
  obtain ⟨hs, ht, hf, hr, hm, hw⟩ := hW
  have e1 : τ 19001 = a1 := by rw [ht 19001 (by decide) (by decide)]; exact h1
  have e2 : τ 19002 = a2 := by rw [ht 19002 (by decide) (by decide)]; exact h2
  have s18501 : τ 18501 = σ 18501 := hs 18501 (by decide)
  have s18502 : τ 18502 = σ 18502 := hs 18502 (by decide)
  have s18503 : τ 18503 = σ 18503 := hs 18503 (by decide)
  have s18504 : τ 18504 = σ 18504 := hs 18504 (by decide)
  have s18505 : τ 18505 = σ 18505 := hs 18505 (by decide)
  have s18506 : τ 18506 = σ 18506 := hs 18506 (by decide)
  have s18507 : τ 18507 = σ 18507 := hs 18507 (by decide)
  have s18508 : τ 18508 = σ 18508 := hs 18508 (by decide)
  clear hs ht hb
  rw [hx] at hr
  obtain ⟨y, hy, hv⟩ := hr
  cases hy
  replace hv : x.toInt = 1 + 0 := hv
  have f0 : 0 ≤ (-1) + (1 * τ 18504 + 0) := hf _ (List.Mem.head _)
  have f1 : 0 ≤ 1 + ((-1) * τ 18504 + 0) := hf _ (List.Mem.tail _ (List.Mem.head _))
  have f2 : 0 ≤ (-1) + (1 * τ 18508 + 0) := hf _ (List.Mem.tail _ (List.Mem.tail _ (List.Mem.head _)))
  have f3 : 0 ≤ (-3) + (1 * τ 19001 + 0) := hf _ (List.Mem.tail _ (List.Mem.tail _ (List.Mem.tail _ (List.Mem.head _))))
  have f4 : 0 ≤ 3 + ((-1) * τ 19001 + 0) := hf _ (List.Mem.tail _ (List.Mem.tail _ (List.Mem.tail _ (List.Mem.tail _ (List.Mem.head _)))))
  have f5 : 0 ≤ 0 + (1 * τ 19002 + 0) := hf _ (List.Mem.tail _ (List.Mem.tail _ (List.Mem.tail _ (List.Mem.tail _ (List.Mem.tail _ (List.Mem.head _))))))
  have f6 : 0 ≤ 59 + ((-1) * τ 19002 + 0) := hf _ (List.Mem.tail _ (List.Mem.tail _ (List.Mem.tail _ (List.Mem.tail _ (List.Mem.tail _ (List.Mem.tail _ (List.Mem.head _)))))))
  have f7 : 0 ≤ (-1) + (1 * τ 18508 + ((-1) * τ 19002 + 0)) := hf _ (List.Mem.tail _ (List.Mem.tail _ (List.Mem.tail _ (List.Mem.tail _ (List.Mem.tail _ (List.Mem.tail _ (List.Mem.tail _ (List.Mem.head _))))))))
  clear hf hm
  exact Or.inl ⟨by omega, Or.inr (Or.inr (Or.inr ⟨by omega, by omega, by omega, by omega⟩))⟩
theorem lw_wm_28 {as : List rv_A} {σ σ' : Nat → Int} {o : rv_O} {x : Int32} {a1 a2 : Int} {τ : Nat → Int} (hx : o.1 = some (.inl x)) (h1 : lw_av as 1 = a1) (h2 : lw_av as 2 = a2) (hb : ∀ s, (sx_sr s).1 ≤ σ s ∧ σ s ≤ (sx_sr s).2) (hW : lw_W ([], [((-2), [(18504, 1)]), (2, [(18504, (-1))]), ((-1), [(18508, 1)]), ((-3), [(19001, 1)]), (3, [(19001, (-1))]), (0, [(19002, 1)]), (59, [(19002, (-1))]), ((-1), [(18508, 1), (19002, (-1))])], [(12800, (0, []))], some (false, (1, []))) as σ σ' τ o) : lw_wm_C a1 a2 x.toInt σ σ' := by
  unfold lw_wm_C
  have b18501 : 0 ≤ σ 18501 ∧ σ 18501 ≤ 3 := by
    have h0 := hb 18501
    rw [show sx_sr 18501 = (0, 3) from by decide +kernel] at h0
    exact h0
  have b18502 : 0 ≤ σ 18502 ∧ σ 18502 ≤ 3 := by
    have h0 := hb 18502
    rw [show sx_sr 18502 = (0, 3) from by decide +kernel] at h0
    exact h0
  have b18503 : 0 ≤ σ 18503 ∧ σ 18503 ≤ 3 := by
    have h0 := hb 18503
    rw [show sx_sr 18503 = (0, 3) from by decide +kernel] at h0
    exact h0
  have b18504 : 0 ≤ σ 18504 ∧ σ 18504 ≤ 3 := by
    have h0 := hb 18504
    rw [show sx_sr 18504 = (0, 3) from by decide +kernel] at h0
    exact h0
  have b18505 : (-1) ≤ σ 18505 ∧ σ 18505 ≤ 60 := by
    have h0 := hb 18505
    rw [show sx_sr 18505 = ((-1), 60) from by decide +kernel] at h0
    exact h0
  have b18506 : (-1) ≤ σ 18506 ∧ σ 18506 ≤ 60 := by
    have h0 := hb 18506
    rw [show sx_sr 18506 = ((-1), 60) from by decide +kernel] at h0
    exact h0
  have b18507 : (-1) ≤ σ 18507 ∧ σ 18507 ≤ 60 := by
    have h0 := hb 18507
    rw [show sx_sr 18507 = ((-1), 60) from by decide +kernel] at h0
    exact h0
  have b18508 : (-1) ≤ σ 18508 ∧ σ 18508 ≤ 60 := by
    have h0 := hb 18508
    rw [show sx_sr 18508 = ((-1), 60) from by decide +kernel] at h0
    exact h0
  obtain ⟨hs, ht, hf, hr, hm, hw⟩ := hW
  have e1 : τ 19001 = a1 := by rw [ht 19001 (by decide) (by decide)]; exact h1
  have e2 : τ 19002 = a2 := by rw [ht 19002 (by decide) (by decide)]; exact h2
  have s18501 : τ 18501 = σ 18501 := hs 18501 (by decide)
  have s18502 : τ 18502 = σ 18502 := hs 18502 (by decide)
  have s18503 : τ 18503 = σ 18503 := hs 18503 (by decide)
  have s18504 : τ 18504 = σ 18504 := hs 18504 (by decide)
  have s18505 : τ 18505 = σ 18505 := hs 18505 (by decide)
  have s18506 : τ 18506 = σ 18506 := hs 18506 (by decide)
  have s18507 : τ 18507 = σ 18507 := hs 18507 (by decide)
  have s18508 : τ 18508 = σ 18508 := hs 18508 (by decide)
  clear hs ht hb
  rw [hx] at hr
  obtain ⟨y, hy, hv⟩ := hr
  cases hy
  replace hv : x.toInt = 1 + 0 := hv
  have f0 : 0 ≤ (-2) + (1 * τ 18504 + 0) := hf _ (List.Mem.head _)
  have f1 : 0 ≤ 2 + ((-1) * τ 18504 + 0) := hf _ (List.Mem.tail _ (List.Mem.head _))
  have f2 : 0 ≤ (-1) + (1 * τ 18508 + 0) := hf _ (List.Mem.tail _ (List.Mem.tail _ (List.Mem.head _)))
  have f3 : 0 ≤ (-3) + (1 * τ 19001 + 0) := hf _ (List.Mem.tail _ (List.Mem.tail _ (List.Mem.tail _ (List.Mem.head _))))
  have f4 : 0 ≤ 3 + ((-1) * τ 19001 + 0) := hf _ (List.Mem.tail _ (List.Mem.tail _ (List.Mem.tail _ (List.Mem.tail _ (List.Mem.head _)))))
  have f5 : 0 ≤ 0 + (1 * τ 19002 + 0) := hf _ (List.Mem.tail _ (List.Mem.tail _ (List.Mem.tail _ (List.Mem.tail _ (List.Mem.tail _ (List.Mem.head _))))))
  have f6 : 0 ≤ 59 + ((-1) * τ 19002 + 0) := hf _ (List.Mem.tail _ (List.Mem.tail _ (List.Mem.tail _ (List.Mem.tail _ (List.Mem.tail _ (List.Mem.tail _ (List.Mem.head _)))))))
  have f7 : 0 ≤ (-1) + (1 * τ 18508 + ((-1) * τ 19002 + 0)) := hf _ (List.Mem.tail _ (List.Mem.tail _ (List.Mem.tail _ (List.Mem.tail _ (List.Mem.tail _ (List.Mem.tail _ (List.Mem.tail _ (List.Mem.head _))))))))
  clear hf hm
  exact Or.inl ⟨by omega, Or.inr (Or.inr (Or.inr ⟨by omega, by omega, by omega, by omega⟩))⟩
theorem lw_wm_29 {as : List rv_A} {σ σ' : Nat → Int} {o : rv_O} {x : Int32} {a1 a2 : Int} {τ : Nat → Int} (hx : o.1 = some (.inl x)) (h1 : lw_av as 1 = a1) (h2 : lw_av as 2 = a2) (hb : ∀ s, (sx_sr s).1 ≤ σ s ∧ σ s ≤ (sx_sr s).2) (hW : lw_W ([], [((-3), [(18504, 1)]), ((-1), [(18508, 1)]), ((-3), [(19001, 1)]), (3, [(19001, (-1))]), (0, [(19002, 1)]), (59, [(19002, (-1))]), ((-1), [(18508, 1), (19002, (-1))])], [(12800, (0, []))], some (false, (1, []))) as σ σ' τ o) : lw_wm_C a1 a2 x.toInt σ σ' := by
  unfold lw_wm_C
  have b18501 : 0 ≤ σ 18501 ∧ σ 18501 ≤ 3 := by
    have h0 := hb 18501
    rw [show sx_sr 18501 = (0, 3) from by decide +kernel] at h0
    exact h0
  have b18502 : 0 ≤ σ 18502 ∧ σ 18502 ≤ 3 := by
    have h0 := hb 18502
    rw [show sx_sr 18502 = (0, 3) from by decide +kernel] at h0
    exact h0
  have b18503 : 0 ≤ σ 18503 ∧ σ 18503 ≤ 3 := by
    have h0 := hb 18503
    rw [show sx_sr 18503 = (0, 3) from by decide +kernel] at h0
    exact h0
  have b18504 : 0 ≤ σ 18504 ∧ σ 18504 ≤ 3 := by
    have h0 := hb 18504
    rw [show sx_sr 18504 = (0, 3) from by decide +kernel] at h0
    exact h0
  have b18505 : (-1) ≤ σ 18505 ∧ σ 18505 ≤ 60 := by
    have h0 := hb 18505
    rw [show sx_sr 18505 = ((-1), 60) from by decide +kernel] at h0
    exact h0
  have b18506 : (-1) ≤ σ 18506 ∧ σ 18506 ≤ 60 := by
    have h0 := hb 18506
    rw [show sx_sr 18506 = ((-1), 60) from by decide +kernel] at h0
    exact h0
  have b18507 : (-1) ≤ σ 18507 ∧ σ 18507 ≤ 60 := by
    have h0 := hb 18507
    rw [show sx_sr 18507 = ((-1), 60) from by decide +kernel] at h0
    exact h0
  have b18508 : (-1) ≤ σ 18508 ∧ σ 18508 ≤ 60 := by
    have h0 := hb 18508
    rw [show sx_sr 18508 = ((-1), 60) from by decide +kernel] at h0
    exact h0
  obtain ⟨hs, ht, hf, hr, hm, hw⟩ := hW
  have e1 : τ 19001 = a1 := by rw [ht 19001 (by decide) (by decide)]; exact h1
  have e2 : τ 19002 = a2 := by rw [ht 19002 (by decide) (by decide)]; exact h2
  have s18501 : τ 18501 = σ 18501 := hs 18501 (by decide)
  have s18502 : τ 18502 = σ 18502 := hs 18502 (by decide)
  have s18503 : τ 18503 = σ 18503 := hs 18503 (by decide)
  have s18504 : τ 18504 = σ 18504 := hs 18504 (by decide)
  have s18505 : τ 18505 = σ 18505 := hs 18505 (by decide)
  have s18506 : τ 18506 = σ 18506 := hs 18506 (by decide)
  have s18507 : τ 18507 = σ 18507 := hs 18507 (by decide)
  have s18508 : τ 18508 = σ 18508 := hs 18508 (by decide)
  clear hs ht hb
  rw [hx] at hr
  obtain ⟨y, hy, hv⟩ := hr
  cases hy
  replace hv : x.toInt = 1 + 0 := hv
  have f0 : 0 ≤ (-3) + (1 * τ 18504 + 0) := hf _ (List.Mem.head _)
  have f1 : 0 ≤ (-1) + (1 * τ 18508 + 0) := hf _ (List.Mem.tail _ (List.Mem.head _))
  have f2 : 0 ≤ (-3) + (1 * τ 19001 + 0) := hf _ (List.Mem.tail _ (List.Mem.tail _ (List.Mem.head _)))
  have f3 : 0 ≤ 3 + ((-1) * τ 19001 + 0) := hf _ (List.Mem.tail _ (List.Mem.tail _ (List.Mem.tail _ (List.Mem.head _))))
  have f4 : 0 ≤ 0 + (1 * τ 19002 + 0) := hf _ (List.Mem.tail _ (List.Mem.tail _ (List.Mem.tail _ (List.Mem.tail _ (List.Mem.head _)))))
  have f5 : 0 ≤ 59 + ((-1) * τ 19002 + 0) := hf _ (List.Mem.tail _ (List.Mem.tail _ (List.Mem.tail _ (List.Mem.tail _ (List.Mem.tail _ (List.Mem.head _))))))
  have f6 : 0 ≤ (-1) + (1 * τ 18508 + ((-1) * τ 19002 + 0)) := hf _ (List.Mem.tail _ (List.Mem.tail _ (List.Mem.tail _ (List.Mem.tail _ (List.Mem.tail _ (List.Mem.tail _ (List.Mem.head _)))))))
  clear hf hm
  exact Or.inl ⟨by omega, Or.inr (Or.inr (Or.inr ⟨by omega, by omega, by omega, by omega⟩))⟩
set_option maxHeartbeats 4000000 in
theorem lw_wm {as : List rv_A} {σ σ' : Nat → Int} {o : rv_O} {x : Int32} {a1 a2 : Int} (hx : o.1 = some (.inl x)) (h1 : lw_av as 1 = a1) (h2 : lw_av as 2 = a2) (hb : ∀ s, (sx_sr s).1 ≤ σ s ∧ σ s ≤ (sx_sr s).2) (h : lw_Qc sx_c347 as σ σ' o) : lw_wm_C a1 a2 x.toInt σ σ' := by
  obtain ⟨g, hg, τ, hW⟩ := h
  simp only [sx_c347, List.mem_cons, List.not_mem_nil, or_false] at hg
  rcases hg with rfl | rfl | rfl | rfl | rfl | rfl | rfl | rfl | rfl | rfl | rfl | rfl | rfl | rfl | rfl | rfl | rfl | rfl | rfl | rfl | rfl | rfl | rfl | rfl | rfl | rfl | rfl | rfl | rfl | rfl
  · exact lw_wm_0 hx h1 h2 hb hW
  · exact lw_wm_1 hx h1 h2 hb hW
  · exact lw_wm_2 hx h1 h2 hb hW
  · exact lw_wm_3 hx h1 h2 hb hW
  · exact lw_wm_4 hx h1 h2 hb hW
  · exact lw_wm_5 hx h1 h2 hb hW
  · exact lw_wm_6 hx h1 h2 hb hW
  · exact lw_wm_7 hx h1 h2 hb hW
  · exact lw_wm_8 hx h1 h2 hb hW
  · exact lw_wm_9 hx h1 h2 hb hW
  · exact lw_wm_10 hx h1 h2 hb hW
  · exact lw_wm_11 hx h1 h2 hb hW
  · exact lw_wm_12 hx h1 h2 hb hW
  · exact lw_wm_13 hx h1 h2 hb hW
  · exact lw_wm_14 hx h1 h2 hb hW
  · exact lw_wm_15 hx h1 h2 hb hW
  · exact lw_wm_16 hx h1 h2 hb hW
  · exact lw_wm_17 hx h1 h2 hb hW
  · exact lw_wm_18 hx h1 h2 hb hW
  · exact lw_wm_19 hx h1 h2 hb hW
  · exact lw_wm_20 hx h1 h2 hb hW
  · exact lw_wm_21 hx h1 h2 hb hW
  · exact lw_wm_22 hx h1 h2 hb hW
  · exact lw_wm_23 hx h1 h2 hb hW
  · exact lw_wm_24 hx h1 h2 hb hW
  · exact lw_wm_25 hx h1 h2 hb hW
  · exact lw_wm_26 hx h1 h2 hb hW
  · exact lw_wm_27 hx h1 h2 hb hW
  · exact lw_wm_28 hx h1 h2 hb hW
  · exact lw_wm_29 hx h1 h2 hb hW
set_option maxHeartbeats 4000000 in
theorem lw_same2 {y1 y2 : Int32} {y3 : Int64} {o1 o2 : rv_O} {h0 : List rv_C} {σ σ1 σ2 : Nat → Int} {z1 z2 : Int32} (hz1 : o1.1 = some (.inl z1)) (hz2 : o2.1 = some (.inl z2)) (h1 : lw_Qc sx_c246 [rv_ref 0, .inl y1, .inl y2, rv_lng y3] σ σ1 o1) (h2 : lw_Qc sx_c347 [rv_ref 100, .inl y1, .inl y2, rv_lng y3] σ1 σ2 o2) (hR : lw_R σ) (hJ : lw_Js σ h0) (hJ1 : lw_Js σ1 o1.2) (hJ2 : lw_Js σ2 o2.2) : z1 = z2 := by
  have hk := lw_kp (by decide +kernel) h1
  have k18505 : σ1 18505 = σ 18505 := hk 18505 (by decide)
  have k18506 : σ1 18506 = σ 18506 := hk 18506 (by decide)
  have k18507 : σ1 18507 = σ 18507 := hk 18507 (by decide)
  have k18508 : σ1 18508 = σ 18508 := hk 18508 (by decide)
  have g1 := lw_wx (a1 := y1.toInt) (a2 := y2.toInt) hz1 rfl rfl hJ.2.1 h1
  have g2 := lw_wm (a1 := y1.toInt) (a2 := y2.toInt) hz2 rfl rfl hJ1.2.1 h2
  unfold lw_wx_C at g1
  unfold lw_wm_C at g2
  clear h1 h2 hJ hJ1 hJ2 hk hz1 hz2
  obtain ⟨r0, r1, r2, r3⟩ := hR
  apply Int32.toInt_inj.mp
  rcases g1 with ⟨b1, b2⟩ | ⟨b1, b2⟩
  · rcases g2 with ⟨b3, b4⟩ | ⟨b3, b4⟩
    · omega
    · exfalso
      rcases b2 with ⟨z1, z2, z3, z4⟩ | ⟨z1, z2, z3, z4⟩ | ⟨z1, z2, z3, z4⟩ | ⟨z1, z2, z3, z4⟩
      · exact b4 (by
          rcases r0 with ⟨q1, q2⟩ | ⟨q1, q2, q3, q4⟩
          · omega
          · exact Or.inl ⟨by omega, by omega, by omega, by omega⟩)
      · exact b4 (by
          rcases r1 with ⟨q1, q2⟩ | ⟨q1, q2, q3, q4⟩
          · omega
          · exact Or.inr (Or.inl ⟨by omega, by omega, by omega, by omega⟩))
      · exact b4 (by
          rcases r2 with ⟨q1, q2⟩ | ⟨q1, q2, q3, q4⟩
          · omega
          · exact Or.inr (Or.inr (Or.inl ⟨by omega, by omega, by omega, by omega⟩)))
      · exact b4 (by
          rcases r3 with ⟨q1, q2⟩ | ⟨q1, q2, q3, q4⟩
          · omega
          · exact Or.inr (Or.inr (Or.inr ⟨by omega, by omega, by omega, by omega⟩)))
  · rcases g2 with ⟨b3, b4⟩ | ⟨b3, b4⟩
    · exfalso
      rcases b4 with ⟨z1, z2, z3, z4⟩ | ⟨z1, z2, z3, z4⟩ | ⟨z1, z2, z3, z4⟩ | ⟨z1, z2, z3, z4⟩
      · exact b2 (by
          rcases r0 with ⟨q1, q2⟩ | ⟨q1, q2, q3, q4⟩
          · omega
          · exact Or.inl ⟨by omega, by omega, by omega, by omega⟩)
      · exact b2 (by
          rcases r1 with ⟨q1, q2⟩ | ⟨q1, q2, q3, q4⟩
          · omega
          · exact Or.inr (Or.inl ⟨by omega, by omega, by omega, by omega⟩))
      · exact b2 (by
          rcases r2 with ⟨q1, q2⟩ | ⟨q1, q2, q3, q4⟩
          · omega
          · exact Or.inr (Or.inr (Or.inl ⟨by omega, by omega, by omega, by omega⟩)))
      · exact b2 (by
          rcases r3 with ⟨q1, q2⟩ | ⟨q1, q2, q3, q4⟩
          · omega
          · exact Or.inr (Or.inr (Or.inr ⟨by omega, by omega, by omega, by omega⟩)))
    · omega
