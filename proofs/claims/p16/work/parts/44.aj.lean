theorem lw_mwx_169 {as : List rv_A} {σ σ' : Nat → Int} {o : rv_O} {x : Int32} {a1 a2 : Int} {τ : Nat → Int} (hx : o.1 = some (.inl x)) (h1 : lw_av as 1 = a1) (h2 : lw_av as 2 = a2) (hb : ∀ s, (sx_sr s).1 ≤ σ s ∧ σ s ≤ (sx_sr s).2) (hW : lw_W ([(18546, 64, 255), (18550, 4, 255), (18590, 4, 255), (18593, 64, 255)], [(0, [(18546, (-1)), (1000000, 1)]), (0, [(18550, (-1)), (1000001, 1)]), ((-1), [(133, 1)]), (11, [(134, (-1))]), ((-6), [(19001, 1)]), (6, [(19001, (-1))]), ((-2), [(19002, 1)]), (2, [(19002, (-1))]), ((-1), [(19003, 1)]), (0, [(1000000, 1), (1000003, (-1))]), (0, [(1000000, (-1)), (1000003, 1)]), (0, [(1000001, 1), (1000002, (-1))]), (0, [(1000001, (-1)), (1000002, 1)]), ((-1), [(19001, (-1)), (19002, 1)]), ((-1), [(133, 1), (19002, (-1))]), ((-1), [(133, 1), (19001, (-1))])], [(9, (0, [])), (134, (1, [(134, 1)])), (7048, ((-2), [])), (7049, ((-2), [])), (8069, (0, [])), (11396, ((-2), [])), (18546, (0, [(1000000, 1)])), (18550, (0, [(1000001, 1)])), (18588, (0, [(18550, 1)])), (18589, (4, [])), (18590, (0, [(1000002, 1)])), (18591, (0, [(18546, 1)])), (18592, (64, [])), (18593, (0, [(1000003, 1)])), (18594, (2, []))], some (false, (1, []))) as σ σ' τ o) : lw_mwx_C a1 a2 x.toInt σ σ' := by
  unfold lw_mwx_C
  have b133 : 0 ≤ σ 133 ∧ σ 133 ≤ 8 := by
    have h0 := hb 133
    rw [show sx_sr 133 = (0, 8) from by decide +kernel] at h0
    exact h0
  have b134 : 0 ≤ σ 134 ∧ σ 134 ≤ 12 := by
    have h0 := hb 134
    rw [show sx_sr 134 = (0, 12) from by decide +kernel] at h0
    exact h0
  obtain ⟨hs, ht, hf, hr, hm, hw⟩ := hW
  have e1 : τ 19001 = a1 := by rw [ht 19001 (by decide) (by decide)]; exact h1
  have e2 : τ 19002 = a2 := by rw [ht 19002 (by decide) (by decide)]; exact h2
  have s133 : τ 133 = σ 133 := hs 133 (by decide)
  have s134 : τ 134 = σ 134 := hs 134 (by decide)
  clear hs ht hb
  rw [hx] at hr
  obtain ⟨y, hy, hv⟩ := hr
  cases hy
  replace hv : x.toInt = 1 + 0 := hv
  have f0 : 0 ≤ 0 + ((-1) * τ 18546 + (1 * τ 1000000 + 0)) := hf _ (List.Mem.head _)
  have f1 : 0 ≤ 0 + ((-1) * τ 18550 + (1 * τ 1000001 + 0)) := hf _ (List.Mem.tail _ (List.Mem.head _))
  have f2 : 0 ≤ (-1) + (1 * τ 133 + 0) := hf _ (List.Mem.tail _ (List.Mem.tail _ (List.Mem.head _)))
  have f3 : 0 ≤ 11 + ((-1) * τ 134 + 0) := hf _ (List.Mem.tail _ (List.Mem.tail _ (List.Mem.tail _ (List.Mem.head _))))
  have f4 : 0 ≤ (-6) + (1 * τ 19001 + 0) := hf _ (List.Mem.tail _ (List.Mem.tail _ (List.Mem.tail _ (List.Mem.tail _ (List.Mem.head _)))))
  have f5 : 0 ≤ 6 + ((-1) * τ 19001 + 0) := hf _ (List.Mem.tail _ (List.Mem.tail _ (List.Mem.tail _ (List.Mem.tail _ (List.Mem.tail _ (List.Mem.head _))))))
  have f6 : 0 ≤ (-2) + (1 * τ 19002 + 0) := hf _ (List.Mem.tail _ (List.Mem.tail _ (List.Mem.tail _ (List.Mem.tail _ (List.Mem.tail _ (List.Mem.tail _ (List.Mem.head _)))))))
  have f7 : 0 ≤ 2 + ((-1) * τ 19002 + 0) := hf _ (List.Mem.tail _ (List.Mem.tail _ (List.Mem.tail _ (List.Mem.tail _ (List.Mem.tail _ (List.Mem.tail _ (List.Mem.tail _ (List.Mem.head _))))))))
  have f8 : 0 ≤ (-1) + (1 * τ 19003 + 0) := hf _ (List.Mem.tail _ (List.Mem.tail _ (List.Mem.tail _ (List.Mem.tail _ (List.Mem.tail _ (List.Mem.tail _ (List.Mem.tail _ (List.Mem.tail _ (List.Mem.head _)))))))))
  have f9 : 0 ≤ 0 + (1 * τ 1000000 + ((-1) * τ 1000003 + 0)) := hf _ (List.Mem.tail _ (List.Mem.tail _ (List.Mem.tail _ (List.Mem.tail _ (List.Mem.tail _ (List.Mem.tail _ (List.Mem.tail _ (List.Mem.tail _ (List.Mem.tail _ (List.Mem.head _))))))))))
  have f10 : 0 ≤ 0 + ((-1) * τ 1000000 + (1 * τ 1000003 + 0)) := hf _ (List.Mem.tail _ (List.Mem.tail _ (List.Mem.tail _ (List.Mem.tail _ (List.Mem.tail _ (List.Mem.tail _ (List.Mem.tail _ (List.Mem.tail _ (List.Mem.tail _ (List.Mem.tail _ (List.Mem.head _)))))))))))
  have f11 : 0 ≤ 0 + (1 * τ 1000001 + ((-1) * τ 1000002 + 0)) := hf _ (List.Mem.tail _ (List.Mem.tail _ (List.Mem.tail _ (List.Mem.tail _ (List.Mem.tail _ (List.Mem.tail _ (List.Mem.tail _ (List.Mem.tail _ (List.Mem.tail _ (List.Mem.tail _ (List.Mem.tail _ (List.Mem.head _))))))))))))
  have f12 : 0 ≤ 0 + ((-1) * τ 1000001 + (1 * τ 1000002 + 0)) := hf _ (List.Mem.tail _ (List.Mem.tail _ (List.Mem.tail _ (List.Mem.tail _ (List.Mem.tail _ (List.Mem.tail _ (List.Mem.tail _ (List.Mem.tail _ (List.Mem.tail _ (List.Mem.tail _ (List.Mem.tail _ (List.Mem.tail _ (List.Mem.head _)))))))))))))
  have f13 : 0 ≤ (-1) + ((-1) * τ 19001 + (1 * τ 19002 + 0)) := hf _ (List.Mem.tail _ (List.Mem.tail _ (List.Mem.tail _ (List.Mem.tail _ (List.Mem.tail _ (List.Mem.tail _ (List.Mem.tail _ (List.Mem.tail _ (List.Mem.tail _ (List.Mem.tail _ (List.Mem.tail _ (List.Mem.tail _ (List.Mem.tail _ (List.Mem.head _))))))))))))))
  have f14 : 0 ≤ (-1) + (1 * τ 133 + ((-1) * τ 19002 + 0)) := hf _ (List.Mem.tail _ (List.Mem.tail _ (List.Mem.tail _ (List.Mem.tail _ (List.Mem.tail _ (List.Mem.tail _ (List.Mem.tail _ (List.Mem.tail _ (List.Mem.tail _ (List.Mem.tail _ (List.Mem.tail _ (List.Mem.tail _ (List.Mem.tail _ (List.Mem.tail _ (List.Mem.head _)))))))))))))))
  have f15 : 0 ≤ (-1) + (1 * τ 133 + ((-1) * τ 19001 + 0)) := hf _ (List.Mem.tail _ (List.Mem.tail _ (List.Mem.tail _ (List.Mem.tail _ (List.Mem.tail _ (List.Mem.tail _ (List.Mem.tail _ (List.Mem.tail _ (List.Mem.tail _ (List.Mem.tail _ (List.Mem.tail _ (List.Mem.tail _ (List.Mem.tail _ (List.Mem.tail _ (List.Mem.tail _ (List.Mem.head _))))))))))))))))
  have m134 : σ' 134 = 1 + (1 * τ 134 + 0) := hm 134 (by decide)
  clear hf hm
  exact Or.inl ⟨by omega, ⟨by omega, by omega, by omega, by omega, by omega, by omega⟩, by omega⟩
theorem lw_mwx_170 {as : List rv_A} {σ σ' : Nat → Int} {o : rv_O} {x : Int32} {a1 a2 : Int} {τ : Nat → Int} (hx : o.1 = some (.inl x)) (h1 : lw_av as 1 = a1) (h2 : lw_av as 2 = a2) (hb : ∀ s, (sx_sr s).1 ≤ σ s ∧ σ s ≤ (sx_sr s).2) (hW : lw_W ([(18546, 64, 255), (18550, 4, 255), (18590, 4, 255), (18593, 64, 255)], [(0, [(18546, (-1)), (1000000, 1)]), (0, [(18550, (-1)), (1000001, 1)]), ((-1), [(133, 1)]), (11, [(134, (-1))]), ((-6), [(19001, 1)]), (6, [(19001, (-1))]), ((-2), [(19002, 1)]), (2, [(19002, (-1))]), ((-1), [(19003, 1)]), (0, [(1000000, 1), (1000003, (-1))]), (0, [(1000000, (-1)), (1000003, 1)]), (0, [(1000001, 1), (1000002, (-1))]), (0, [(1000001, (-1)), (1000002, 1)]), ((-1), [(19001, 1), (19002, (-1))]), ((-1), [(133, 1), (19002, (-1))]), ((-1), [(133, 1), (19001, (-1))])], [(9, (0, [])), (134, (1, [(134, 1)])), (7048, ((-2), [])), (7049, ((-2), [])), (8069, (0, [])), (11396, ((-2), [])), (18546, (0, [(1000000, 1)])), (18550, (0, [(1000001, 1)])), (18588, (0, [(18550, 1)])), (18589, (4, [])), (18590, (0, [(1000002, 1)])), (18591, (0, [(18546, 1)])), (18592, (64, [])), (18593, (0, [(1000003, 1)])), (18594, (2, []))], some (false, (1, []))) as σ σ' τ o) : lw_mwx_C a1 a2 x.toInt σ σ' := by
  unfold lw_mwx_C
  have b133 : 0 ≤ σ 133 ∧ σ 133 ≤ 8 := by
    have h0 := hb 133
    rw [show sx_sr 133 = (0, 8) from by decide +kernel] at h0
    exact h0
  have b134 : 0 ≤ σ 134 ∧ σ 134 ≤ 12 := by
    have h0 := hb 134
    rw [show sx_sr 134 = (0, 12) from by decide +kernel] at h0
    exact h0
  obtain ⟨hs, ht, hf, hr, hm, hw⟩ := hW
  have e1 : τ 19001 = a1 := by rw [ht 19001 (by decide) (by decide)]; exact h1
  have e2 : τ 19002 = a2 := by rw [ht 19002 (by decide) (by decide)]; exact h2
  have s133 : τ 133 = σ 133 := hs 133 (by decide)
  have s134 : τ 134 = σ 134 := hs 134 (by decide)
  clear hs ht hb
  rw [hx] at hr
  obtain ⟨y, hy, hv⟩ := hr
  cases hy
  replace hv : x.toInt = 1 + 0 := hv
  have f0 : 0 ≤ 0 + ((-1) * τ 18546 + (1 * τ 1000000 + 0)) := hf _ (List.Mem.head _)
  have f1 : 0 ≤ 0 + ((-1) * τ 18550 + (1 * τ 1000001 + 0)) := hf _ (List.Mem.tail _ (List.Mem.head _))
  have f2 : 0 ≤ (-1) + (1 * τ 133 + 0) := hf _ (List.Mem.tail _ (List.Mem.tail _ (List.Mem.head _)))
  have f3 : 0 ≤ 11 + ((-1) * τ 134 + 0) := hf _ (List.Mem.tail _ (List.Mem.tail _ (List.Mem.tail _ (List.Mem.head _))))
  have f4 : 0 ≤ (-6) + (1 * τ 19001 + 0) := hf _ (List.Mem.tail _ (List.Mem.tail _ (List.Mem.tail _ (List.Mem.tail _ (List.Mem.head _)))))
  have f5 : 0 ≤ 6 + ((-1) * τ 19001 + 0) := hf _ (List.Mem.tail _ (List.Mem.tail _ (List.Mem.tail _ (List.Mem.tail _ (List.Mem.tail _ (List.Mem.head _))))))
  have f6 : 0 ≤ (-2) + (1 * τ 19002 + 0) := hf _ (List.Mem.tail _ (List.Mem.tail _ (List.Mem.tail _ (List.Mem.tail _ (List.Mem.tail _ (List.Mem.tail _ (List.Mem.head _)))))))
  have f7 : 0 ≤ 2 + ((-1) * τ 19002 + 0) := hf _ (List.Mem.tail _ (List.Mem.tail _ (List.Mem.tail _ (List.Mem.tail _ (List.Mem.tail _ (List.Mem.tail _ (List.Mem.tail _ (List.Mem.head _))))))))
  have f8 : 0 ≤ (-1) + (1 * τ 19003 + 0) := hf _ (List.Mem.tail _ (List.Mem.tail _ (List.Mem.tail _ (List.Mem.tail _ (List.Mem.tail _ (List.Mem.tail _ (List.Mem.tail _ (List.Mem.tail _ (List.Mem.head _)))))))))
  have f9 : 0 ≤ 0 + (1 * τ 1000000 + ((-1) * τ 1000003 + 0)) := hf _ (List.Mem.tail _ (List.Mem.tail _ (List.Mem.tail _ (List.Mem.tail _ (List.Mem.tail _ (List.Mem.tail _ (List.Mem.tail _ (List.Mem.tail _ (List.Mem.tail _ (List.Mem.head _))))))))))
  have f10 : 0 ≤ 0 + ((-1) * τ 1000000 + (1 * τ 1000003 + 0)) := hf _ (List.Mem.tail _ (List.Mem.tail _ (List.Mem.tail _ (List.Mem.tail _ (List.Mem.tail _ (List.Mem.tail _ (List.Mem.tail _ (List.Mem.tail _ (List.Mem.tail _ (List.Mem.tail _ (List.Mem.head _)))))))))))
  have f11 : 0 ≤ 0 + (1 * τ 1000001 + ((-1) * τ 1000002 + 0)) := hf _ (List.Mem.tail _ (List.Mem.tail _ (List.Mem.tail _ (List.Mem.tail _ (List.Mem.tail _ (List.Mem.tail _ (List.Mem.tail _ (List.Mem.tail _ (List.Mem.tail _ (List.Mem.tail _ (List.Mem.tail _ (List.Mem.head _))))))))))))
  have f12 : 0 ≤ 0 + ((-1) * τ 1000001 + (1 * τ 1000002 + 0)) := hf _ (List.Mem.tail _ (List.Mem.tail _ (List.Mem.tail _ (List.Mem.tail _ (List.Mem.tail _ (List.Mem.tail _ (List.Mem.tail _ (List.Mem.tail _ (List.Mem.tail _ (List.Mem.tail _ (List.Mem.tail _ (List.Mem.tail _ (List.Mem.head _)))))))))))))
  have f13 : 0 ≤ (-1) + (1 * τ 19001 + ((-1) * τ 19002 + 0)) := hf _ (List.Mem.tail _ (List.Mem.tail _ (List.Mem.tail _ (List.Mem.tail _ (List.Mem.tail _ (List.Mem.tail _ (List.Mem.tail _ (List.Mem.tail _ (List.Mem.tail _ (List.Mem.tail _ (List.Mem.tail _ (List.Mem.tail _ (List.Mem.tail _ (List.Mem.head _))))))))))))))
  have f14 : 0 ≤ (-1) + (1 * τ 133 + ((-1) * τ 19002 + 0)) := hf _ (List.Mem.tail _ (List.Mem.tail _ (List.Mem.tail _ (List.Mem.tail _ (List.Mem.tail _ (List.Mem.tail _ (List.Mem.tail _ (List.Mem.tail _ (List.Mem.tail _ (List.Mem.tail _ (List.Mem.tail _ (List.Mem.tail _ (List.Mem.tail _ (List.Mem.tail _ (List.Mem.head _)))))))))))))))
  have f15 : 0 ≤ (-1) + (1 * τ 133 + ((-1) * τ 19001 + 0)) := hf _ (List.Mem.tail _ (List.Mem.tail _ (List.Mem.tail _ (List.Mem.tail _ (List.Mem.tail _ (List.Mem.tail _ (List.Mem.tail _ (List.Mem.tail _ (List.Mem.tail _ (List.Mem.tail _ (List.Mem.tail _ (List.Mem.tail _ (List.Mem.tail _ (List.Mem.tail _ (List.Mem.tail _ (List.Mem.head _))))))))))))))))
  have m134 : σ' 134 = 1 + (1 * τ 134 + 0) := hm 134 (by decide)
  clear hf hm
  exact Or.inl ⟨by omega, ⟨by omega, by omega, by omega, by omega, by omega, by omega⟩, by omega⟩
theorem lw_mwx_171 {as : List rv_A} {σ σ' : Nat → Int} {o : rv_O} {x : Int32} {a1 a2 : Int} {τ : Nat → Int} (hx : o.1 = some (.inl x)) (h1 : lw_av as 1 = a1) (h2 : lw_av as 2 = a2) (hb : ∀ s, (sx_sr s).1 ≤ σ s ∧ σ s ≤ (sx_sr s).2) (hW : lw_W ([(18539, 64, 255), (18542, 8, 255), (18590, 8, 255), (18593, 64, 255)], [(0, [(18539, (-1)), (1000000, 1)]), (0, [(18542, (-1)), (1000001, 1)]), ((-1), [(133, 1)]), (11, [(134, (-1))]), ((-6), [(19001, 1)]), (6, [(19001, (-1))]), ((-3), [(19002, 1)]), (3, [(19002, (-1))]), (0, [(19003, (-1))]), (0, [(1000000, 1), (1000003, (-1))]), (0, [(1000000, (-1)), (1000003, 1)]), (0, [(1000001, 1), (1000002, (-1))]), (0, [(1000001, (-1)), (1000002, 1)]), ((-1), [(19001, (-1)), (19002, 1)]), ((-1), [(133, 1), (19002, (-1))]), ((-1), [(133, 1), (19001, (-1))])], [(9, (0, [])), (134, (1, [(134, 1)])), (7048, ((-2), [])), (7049, ((-2), [])), (8069, (0, [])), (11396, ((-2), [])), (18539, (0, [(1000000, 1)])), (18542, (0, [(1000001, 1)])), (18588, (0, [(18542, 1)])), (18589, (8, [])), (18590, (0, [(1000002, 1)])), (18591, (0, [(18539, 1)])), (18592, (64, [])), (18593, (0, [(1000003, 1)])), (18594, (2, []))], some (false, (1, []))) as σ σ' τ o) : lw_mwx_C a1 a2 x.toInt σ σ' := by
  unfold lw_mwx_C
  have b133 : 0 ≤ σ 133 ∧ σ 133 ≤ 8 := by
    have h0 := hb 133
    rw [show sx_sr 133 = (0, 8) from by decide +kernel] at h0
    exact h0
  have b134 : 0 ≤ σ 134 ∧ σ 134 ≤ 12 := by
    have h0 := hb 134
    rw [show sx_sr 134 = (0, 12) from by decide +kernel] at h0
    exact h0
  obtain ⟨hs, ht, hf, hr, hm, hw⟩ := hW
  have e1 : τ 19001 = a1 := by rw [ht 19001 (by decide) (by decide)]; exact h1
  have e2 : τ 19002 = a2 := by rw [ht 19002 (by decide) (by decide)]; exact h2
  have s133 : τ 133 = σ 133 := hs 133 (by decide)
  have s134 : τ 134 = σ 134 := hs 134 (by decide)
  clear hs ht hb
  rw [hx] at hr
  obtain ⟨y, hy, hv⟩ := hr
  cases hy
  replace hv : x.toInt = 1 + 0 := hv
  have f0 : 0 ≤ 0 + ((-1) * τ 18539 + (1 * τ 1000000 + 0)) := hf _ (List.Mem.head _)
  have f1 : 0 ≤ 0 + ((-1) * τ 18542 + (1 * τ 1000001 + 0)) := hf _ (List.Mem.tail _ (List.Mem.head _))
  have f2 : 0 ≤ (-1) + (1 * τ 133 + 0) := hf _ (List.Mem.tail _ (List.Mem.tail _ (List.Mem.head _)))
  have f3 : 0 ≤ 11 + ((-1) * τ 134 + 0) := hf _ (List.Mem.tail _ (List.Mem.tail _ (List.Mem.tail _ (List.Mem.head _))))
  have f4 : 0 ≤ (-6) + (1 * τ 19001 + 0) := hf _ (List.Mem.tail _ (List.Mem.tail _ (List.Mem.tail _ (List.Mem.tail _ (List.Mem.head _)))))
  have f5 : 0 ≤ 6 + ((-1) * τ 19001 + 0) := hf _ (List.Mem.tail _ (List.Mem.tail _ (List.Mem.tail _ (List.Mem.tail _ (List.Mem.tail _ (List.Mem.head _))))))
  have f6 : 0 ≤ (-3) + (1 * τ 19002 + 0) := hf _ (List.Mem.tail _ (List.Mem.tail _ (List.Mem.tail _ (List.Mem.tail _ (List.Mem.tail _ (List.Mem.tail _ (List.Mem.head _)))))))
  have f7 : 0 ≤ 3 + ((-1) * τ 19002 + 0) := hf _ (List.Mem.tail _ (List.Mem.tail _ (List.Mem.tail _ (List.Mem.tail _ (List.Mem.tail _ (List.Mem.tail _ (List.Mem.tail _ (List.Mem.head _))))))))
  have f8 : 0 ≤ 0 + ((-1) * τ 19003 + 0) := hf _ (List.Mem.tail _ (List.Mem.tail _ (List.Mem.tail _ (List.Mem.tail _ (List.Mem.tail _ (List.Mem.tail _ (List.Mem.tail _ (List.Mem.tail _ (List.Mem.head _)))))))))
  have f9 : 0 ≤ 0 + (1 * τ 1000000 + ((-1) * τ 1000003 + 0)) := hf _ (List.Mem.tail _ (List.Mem.tail _ (List.Mem.tail _ (List.Mem.tail _ (List.Mem.tail _ (List.Mem.tail _ (List.Mem.tail _ (List.Mem.tail _ (List.Mem.tail _ (List.Mem.head _))))))))))
  have f10 : 0 ≤ 0 + ((-1) * τ 1000000 + (1 * τ 1000003 + 0)) := hf _ (List.Mem.tail _ (List.Mem.tail _ (List.Mem.tail _ (List.Mem.tail _ (List.Mem.tail _ (List.Mem.tail _ (List.Mem.tail _ (List.Mem.tail _ (List.Mem.tail _ (List.Mem.tail _ (List.Mem.head _)))))))))))
  have f11 : 0 ≤ 0 + (1 * τ 1000001 + ((-1) * τ 1000002 + 0)) := hf _ (List.Mem.tail _ (List.Mem.tail _ (List.Mem.tail _ (List.Mem.tail _ (List.Mem.tail _ (List.Mem.tail _ (List.Mem.tail _ (List.Mem.tail _ (List.Mem.tail _ (List.Mem.tail _ (List.Mem.tail _ (List.Mem.head _))))))))))))
  have f12 : 0 ≤ 0 + ((-1) * τ 1000001 + (1 * τ 1000002 + 0)) := hf _ (List.Mem.tail _ (List.Mem.tail _ (List.Mem.tail _ (List.Mem.tail _ (List.Mem.tail _ (List.Mem.tail _ (List.Mem.tail _ (List.Mem.tail _ (List.Mem.tail _ (List.Mem.tail _ (List.Mem.tail _ (List.Mem.tail _ (List.Mem.head _)))))))))))))
  have f13 : 0 ≤ (-1) + ((-1) * τ 19001 + (1 * τ 19002 + 0)) := hf _ (List.Mem.tail _ (List.Mem.tail _ (List.Mem.tail _ (List.Mem.tail _ (List.Mem.tail _ (List.Mem.tail _ (List.Mem.tail _ (List.Mem.tail _ (List.Mem.tail _ (List.Mem.tail _ (List.Mem.tail _ (List.Mem.tail _ (List.Mem.tail _ (List.Mem.head _))))))))))))))
  have f14 : 0 ≤ (-1) + (1 * τ 133 + ((-1) * τ 19002 + 0)) := hf _ (List.Mem.tail _ (List.Mem.tail _ (List.Mem.tail _ (List.Mem.tail _ (List.Mem.tail _ (List.Mem.tail _ (List.Mem.tail _ (List.Mem.tail _ (List.Mem.tail _ (List.Mem.tail _ (List.Mem.tail _ (List.Mem.tail _ (List.Mem.tail _ (List.Mem.tail _ (List.Mem.head _)))))))))))))))
  have f15 : 0 ≤ (-1) + (1 * τ 133 + ((-1) * τ 19001 + 0)) := hf _ (List.Mem.tail _ (List.Mem.tail _ (List.Mem.tail _ (List.Mem.tail _ (List.Mem.tail _ (List.Mem.tail _ (List.Mem.tail _ (List.Mem.tail _ (List.Mem.tail _ (List.Mem.tail _ (List.Mem.tail _ (List.Mem.tail _ (List.Mem.tail _ (List.Mem.tail _ (List.Mem.tail _ (List.Mem.head _))))))))))))))))
  have m134 : σ' 134 = 1 + (1 * τ 134 + 0) := hm 134 (by decide)
  clear hf hm
  exact Or.inl ⟨by omega, ⟨by omega, by omega, by omega, by omega, by omega, by omega⟩, by omega⟩
theorem lw_mwx_172 {as : List rv_A} {σ σ' : Nat → Int} {o : rv_O} {x : Int32} {a1 a2 : Int} {τ : Nat → Int} (hx : o.1 = some (.inl x)) (h1 : lw_av as 1 = a1) (h2 : lw_av as 2 = a2) (hb : ∀ s, (sx_sr s).1 ≤ σ s ∧ σ s ≤ (sx_sr s).2) (hW : lw_W ([(18539, 64, 255), (18542, 8, 255), (18590, 8, 255), (18593, 64, 255)], [(0, [(18539, (-1)), (1000000, 1)]), (0, [(18542, (-1)), (1000001, 1)]), ((-1), [(133, 1)]), (11, [(134, (-1))]), ((-6), [(19001, 1)]), (6, [(19001, (-1))]), ((-3), [(19002, 1)]), (3, [(19002, (-1))]), (0, [(19003, (-1))]), (0, [(1000000, 1), (1000003, (-1))]), (0, [(1000000, (-1)), (1000003, 1)]), (0, [(1000001, 1), (1000002, (-1))]), (0, [(1000001, (-1)), (1000002, 1)]), ((-1), [(19001, 1), (19002, (-1))]), ((-1), [(133, 1), (19002, (-1))]), ((-1), [(133, 1), (19001, (-1))])], [(9, (0, [])), (134, (1, [(134, 1)])), (7048, ((-2), [])), (7049, ((-2), [])), (8069, (0, [])), (11396, ((-2), [])), (18539, (0, [(1000000, 1)])), (18542, (0, [(1000001, 1)])), (18588, (0, [(18542, 1)])), (18589, (8, [])), (18590, (0, [(1000002, 1)])), (18591, (0, [(18539, 1)])), (18592, (64, [])), (18593, (0, [(1000003, 1)])), (18594, (2, []))], some (false, (1, []))) as σ σ' τ o) : lw_mwx_C a1 a2 x.toInt σ σ' := by
  unfold lw_mwx_C
  have b133 : 0 ≤ σ 133 ∧ σ 133 ≤ 8 := by
    have h0 := hb 133
    rw [show sx_sr 133 = (0, 8) from by decide +kernel] at h0
    exact h0
  have b134 : 0 ≤ σ 134 ∧ σ 134 ≤ 12 := by
    have h0 := hb 134
    rw [show sx_sr 134 = (0, 12) from by decide +kernel] at h0
    exact h0
  obtain ⟨hs, ht, hf, hr, hm, hw⟩ := hW
  have e1 : τ 19001 = a1 := by rw [ht 19001 (by decide) (by decide)]; exact h1
  have e2 : τ 19002 = a2 := by rw [ht 19002 (by decide) (by decide)]; exact h2
  have s133 : τ 133 = σ 133 := hs 133 (by decide)
  have s134 : τ 134 = σ 134 := hs 134 (by decide)
  clear hs ht hb
  rw [hx] at hr
  obtain ⟨y, hy, hv⟩ := hr
  cases hy
  replace hv : x.toInt = 1 + 0 := hv
  have f0 : 0 ≤ 0 + ((-1) * τ 18539 + (1 * τ 1000000 + 0)) := hf _ (List.Mem.head _)
  have f1 : 0 ≤ 0 + ((-1) * τ 18542 + (1 * τ 1000001 + 0)) := hf _ (List.Mem.tail _ (List.Mem.head _))
  have f2 : 0 ≤ (-1) + (1 * τ 133 + 0) := hf _ (List.Mem.tail _ (List.Mem.tail _ (List.Mem.head _)))
  have f3 : 0 ≤ 11 + ((-1) * τ 134 + 0) := hf _ (List.Mem.tail _ (List.Mem.tail _ (List.Mem.tail _ (List.Mem.head _))))
  have f4 : 0 ≤ (-6) + (1 * τ 19001 + 0) := hf _ (List.Mem.tail _ (List.Mem.tail _ (List.Mem.tail _ (List.Mem.tail _ (List.Mem.head _)))))
  have f5 : 0 ≤ 6 + ((-1) * τ 19001 + 0) := hf _ (List.Mem.tail _ (List.Mem.tail _ (List.Mem.tail _ (List.Mem.tail _ (List.Mem.tail _ (List.Mem.head _))))))
  have f6 : 0 ≤ (-3) + (1 * τ 19002 + 0) := hf _ (List.Mem.tail _ (List.Mem.tail _ (List.Mem.tail _ (List.Mem.tail _ (List.Mem.tail _ (List.Mem.tail _ (List.Mem.head _)))))))
  have f7 : 0 ≤ 3 + ((-1) * τ 19002 + 0) := hf _ (List.Mem.tail _ (List.Mem.tail _ (List.Mem.tail _ (List.Mem.tail _ (List.Mem.tail _ (List.Mem.tail _ (List.Mem.tail _ (List.Mem.head _))))))))
  have f8 : 0 ≤ 0 + ((-1) * τ 19003 + 0) := hf _ (List.Mem.tail _ (List.Mem.tail _ (List.Mem.tail _ (List.Mem.tail _ (List.Mem.tail _ (List.Mem.tail _ (List.Mem.tail _ (List.Mem.tail _ (List.Mem.head _)))))))))
  have f9 : 0 ≤ 0 + (1 * τ 1000000 + ((-1) * τ 1000003 + 0)) := hf _ (List.Mem.tail _ (List.Mem.tail _ (List.Mem.tail _ (List.Mem.tail _ (List.Mem.tail _ (List.Mem.tail _ (List.Mem.tail _ (List.Mem.tail _ (List.Mem.tail _ (List.Mem.head _))))))))))
  have f10 : 0 ≤ 0 + ((-1) * τ 1000000 + (1 * τ 1000003 + 0)) := hf _ (List.Mem.tail _ (List.Mem.tail _ (List.Mem.tail _ (List.Mem.tail _ (List.Mem.tail _ (List.Mem.tail _ (List.Mem.tail _ (List.Mem.tail _ (List.Mem.tail _ (List.Mem.tail _ (List.Mem.head _)))))))))))
  have f11 : 0 ≤ 0 + (1 * τ 1000001 + ((-1) * τ 1000002 + 0)) := hf _ (List.Mem.tail _ (List.Mem.tail _ (List.Mem.tail _ (List.Mem.tail _ (List.Mem.tail _ (List.Mem.tail _ (List.Mem.tail _ (List.Mem.tail _ (List.Mem.tail _ (List.Mem.tail _ (List.Mem.tail _ (List.Mem.head _))))))))))))
  have f12 : 0 ≤ 0 + ((-1) * τ 1000001 + (1 * τ 1000002 + 0)) := hf _ (List.Mem.tail _ (List.Mem.tail _ (List.Mem.tail _ (List.Mem.tail _ (List.Mem.tail _ (List.Mem.tail _ (List.Mem.tail _ (List.Mem.tail _ (List.Mem.tail _ (List.Mem.tail _ (List.Mem.tail _ (List.Mem.tail _ (List.Mem.head _)))))))))))))
  have f13 : 0 ≤ (-1) + (1 * τ 19001 + ((-1) * τ 19002 + 0)) := hf _ (List.Mem.tail _ (List.Mem.tail _ (List.Mem.tail _ (List.Mem.tail _ (List.Mem.tail _ (List.Mem.tail _ (List.Mem.tail _ (List.Mem.tail _ (List.Mem.tail _ (List.Mem.tail _ (List.Mem.tail _ (List.Mem.tail _ (List.Mem.tail _ (List.Mem.head _))))))))))))))
  have f14 : 0 ≤ (-1) + (1 * τ 133 + ((-1) * τ 19002 + 0)) := hf _ (List.Mem.tail _ (List.Mem.tail _ (List.Mem.tail _ (List.Mem.tail _ (List.Mem.tail _ (List.Mem.tail _ (List.Mem.tail _ (List.Mem.tail _ (List.Mem.tail _ (List.Mem.tail _ (List.Mem.tail _ (List.Mem.tail _ (List.Mem.tail _ (List.Mem.tail _ (List.Mem.head _)))))))))))))))
  have f15 : 0 ≤ (-1) + (1 * τ 133 + ((-1) * τ 19001 + 0)) := hf _ (List.Mem.tail _ (List.Mem.tail _ (List.Mem.tail _ (List.Mem.tail _ (List.Mem.tail _ (List.Mem.tail _ (List.Mem.tail _ (List.Mem.tail _ (List.Mem.tail _ (List.Mem.tail _ (List.Mem.tail _ (List.Mem.tail _ (List.Mem.tail _ (List.Mem.tail _ (List.Mem.tail _ (List.Mem.head _))))))))))))))))
  have m134 : σ' 134 = 1 + (1 * τ 134 + 0) := hm 134 (by decide)
  clear hf hm
  exact Or.inl ⟨by omega, ⟨by omega, by omega, by omega, by omega, by omega, by omega⟩, by omega⟩
theorem lw_mwx_173 {as : List rv_A} {σ σ' : Nat → Int} {o : rv_O} {x : Int32} {a1 a2 : Int} {τ : Nat → Int} (hx : o.1 = some (.inl x)) (h1 : lw_av as 1 = a1) (h2 : lw_av as 2 = a2) (hb : ∀ s, (sx_sr s).1 ≤ σ s ∧ σ s ≤ (sx_sr s).2) (hW : lw_W ([(18547, 64, 255), (18550, 8, 255), (18590, 8, 255), (18593, 64, 255)], [(0, [(18547, (-1)), (1000000, 1)]), (0, [(18550, (-1)), (1000001, 1)]), ((-1), [(133, 1)]), (11, [(134, (-1))]), ((-6), [(19001, 1)]), (6, [(19001, (-1))]), ((-3), [(19002, 1)]), (3, [(19002, (-1))]), ((-1), [(19003, 1)]), (0, [(1000000, 1), (1000003, (-1))]), (0, [(1000000, (-1)), (1000003, 1)]), (0, [(1000001, 1), (1000002, (-1))]), (0, [(1000001, (-1)), (1000002, 1)]), ((-1), [(19001, (-1)), (19002, 1)]), ((-1), [(133, 1), (19002, (-1))]), ((-1), [(133, 1), (19001, (-1))])], [(9, (0, [])), (134, (1, [(134, 1)])), (7048, ((-2), [])), (7049, ((-2), [])), (8069, (0, [])), (11396, ((-2), [])), (18547, (0, [(1000000, 1)])), (18550, (0, [(1000001, 1)])), (18588, (0, [(18550, 1)])), (18589, (8, [])), (18590, (0, [(1000002, 1)])), (18591, (0, [(18547, 1)])), (18592, (64, [])), (18593, (0, [(1000003, 1)])), (18594, (2, []))], some (false, (1, []))) as σ σ' τ o) : lw_mwx_C a1 a2 x.toInt σ σ' := by
  unfold lw_mwx_C
  have b133 : 0 ≤ σ 133 ∧ σ 133 ≤ 8 := by
    have h0 := hb 133
    rw [show sx_sr 133 = (0, 8) from by decide +kernel] at h0
    exact h0
  have b134 : 0 ≤ σ 134 ∧ σ 134 ≤ 12 := by
    have h0 := hb 134
    rw [show sx_sr 134 = (0, 12) from by decide +kernel] at h0
    exact h0
  obtain ⟨hs, ht, hf, hr, hm, hw⟩ := hW
  have e1 : τ 19001 = a1 := by rw [ht 19001 (by decide) (by decide)]; exact h1
  have e2 : τ 19002 = a2 := by rw [ht 19002 (by decide) (by decide)]; exact h2
  have s133 : τ 133 = σ 133 := hs 133 (by decide)
  have s134 : τ 134 = σ 134 := hs 134 (by decide)
  clear hs ht hb
  rw [hx] at hr
  obtain ⟨y, hy, hv⟩ := hr
  cases hy
  replace hv : x.toInt = 1 + 0 := hv
  have f0 : 0 ≤ 0 + ((-1) * τ 18547 + (1 * τ 1000000 + 0)) := hf _ (List.Mem.head _)
  have f1 : 0 ≤ 0 + ((-1) * τ 18550 + (1 * τ 1000001 + 0)) := hf _ (List.Mem.tail _ (List.Mem.head _))
  have f2 : 0 ≤ (-1) + (1 * τ 133 + 0) := hf _ (List.Mem.tail _ (List.Mem.tail _ (List.Mem.head _)))
  have f3 : 0 ≤ 11 + ((-1) * τ 134 + 0) := hf _ (List.Mem.tail _ (List.Mem.tail _ (List.Mem.tail _ (List.Mem.head _))))
  have f4 : 0 ≤ (-6) + (1 * τ 19001 + 0) := hf _ (List.Mem.tail _ (List.Mem.tail _ (List.Mem.tail _ (List.Mem.tail _ (List.Mem.head _)))))
  have f5 : 0 ≤ 6 + ((-1) * τ 19001 + 0) := hf _ (List.Mem.tail _ (List.Mem.tail _ (List.Mem.tail _ (List.Mem.tail _ (List.Mem.tail _ (List.Mem.head _))))))
  have f6 : 0 ≤ (-3) + (1 * τ 19002 + 0) := hf _ (List.Mem.tail _ (List.Mem.tail _ (List.Mem.tail _ (List.Mem.tail _ (List.Mem.tail _ (List.Mem.tail _ (List.Mem.head _)))))))
  have f7 : 0 ≤ 3 + ((-1) * τ 19002 + 0) := hf _ (List.Mem.tail _ (List.Mem.tail _ (List.Mem.tail _ (List.Mem.tail _ (List.Mem.tail _ (List.Mem.tail _ (List.Mem.tail _ (List.Mem.head _))))))))
  have f8 : 0 ≤ (-1) + (1 * τ 19003 + 0) := hf _ (List.Mem.tail _ (List.Mem.tail _ (List.Mem.tail _ (List.Mem.tail _ (List.Mem.tail _ (List.Mem.tail _ (List.Mem.tail _ (List.Mem.tail _ (List.Mem.head _)))))))))
  have f9 : 0 ≤ 0 + (1 * τ 1000000 + ((-1) * τ 1000003 + 0)) := hf _ (List.Mem.tail _ (List.Mem.tail _ (List.Mem.tail _ (List.Mem.tail _ (List.Mem.tail _ (List.Mem.tail _ (List.Mem.tail _ (List.Mem.tail _ (List.Mem.tail _ (List.Mem.head _))))))))))
  have f10 : 0 ≤ 0 + ((-1) * τ 1000000 + (1 * τ 1000003 + 0)) := hf _ (List.Mem.tail _ (List.Mem.tail _ (List.Mem.tail _ (List.Mem.tail _ (List.Mem.tail _ (List.Mem.tail _ (List.Mem.tail _ (List.Mem.tail _ (List.Mem.tail _ (List.Mem.tail _ (List.Mem.head _)))))))))))
  have f11 : 0 ≤ 0 + (1 * τ 1000001 + ((-1) * τ 1000002 + 0)) := hf _ (List.Mem.tail _ (List.Mem.tail _ (List.Mem.tail _ (List.Mem.tail _ (List.Mem.tail _ (List.Mem.tail _ (List.Mem.tail _ (List.Mem.tail _ (List.Mem.tail _ (List.Mem.tail _ (List.Mem.tail _ (List.Mem.head _))))))))))))
  have f12 : 0 ≤ 0 + ((-1) * τ 1000001 + (1 * τ 1000002 + 0)) := hf _ (List.Mem.tail _ (List.Mem.tail _ (List.Mem.tail _ (List.Mem.tail _ (List.Mem.tail _ (List.Mem.tail _ (List.Mem.tail _ (List.Mem.tail _ (List.Mem.tail _ (List.Mem.tail _ (List.Mem.tail _ (List.Mem.tail _ (List.Mem.head _)))))))))))))
  have f13 : 0 ≤ (-1) + ((-1) * τ 19001 + (1 * τ 19002 + 0)) := hf _ (List.Mem.tail _ (List.Mem.tail _ (List.Mem.tail _ (List.Mem.tail _ (List.Mem.tail _ (List.Mem.tail _ (List.Mem.tail _ (List.Mem.tail _ (List.Mem.tail _ (List.Mem.tail _ (List.Mem.tail _ (List.Mem.tail _ (List.Mem.tail _ (List.Mem.head _))))))))))))))
  have f14 : 0 ≤ (-1) + (1 * τ 133 + ((-1) * τ 19002 + 0)) := hf _ (List.Mem.tail _ (List.Mem.tail _ (List.Mem.tail _ (List.Mem.tail _ (List.Mem.tail _ (List.Mem.tail _ (List.Mem.tail _ (List.Mem.tail _ (List.Mem.tail _ (List.Mem.tail _ (List.Mem.tail _ (List.Mem.tail _ (List.Mem.tail _ (List.Mem.tail _ (List.Mem.head _)))))))))))))))
  have f15 : 0 ≤ (-1) + (1 * τ 133 + ((-1) * τ 19001 + 0)) := hf _ (List.Mem.tail _ (List.Mem.tail _ (List.Mem.tail _ (List.Mem.tail _ (List.Mem.tail _ (List.Mem.tail _ (List.Mem.tail _ (List.Mem.tail _ (List.Mem.tail _ (List.Mem.tail _ (List.Mem.tail _ (List.Mem.tail _ (List.Mem.tail _ (List.Mem.tail _ (List.Mem.tail _ (List.Mem.head _))))))))))))))))
  have m134 : σ' 134 = 1 + (1 * τ 134 + 0) := hm 134 (by decide)
  clear hf hm
  exact Or.inl ⟨by omega, ⟨by omega, by omega, by omega, by omega, by omega, by omega⟩, by omega⟩
theorem lw_mwx_174 {as : List rv_A} {σ σ' : Nat → Int} {o : rv_O} {x : Int32} {a1 a2 : Int} {τ : Nat → Int} (hx : o.1 = some (.inl x)) (h1 : lw_av as 1 = a1) (h2 : lw_av as 2 = a2) (hb : ∀ s, (sx_sr s).1 ≤ σ s ∧ σ s ≤ (sx_sr s).2) (hW : lw_W ([(18547, 64, 255), (18550, 8, 255), (18590, 8, 255), (18593, 64, 255)], [(0, [(18547, (-1)), (1000000, 1)]), (0, [(18550, (-1)), (1000001, 1)]), ((-1), [(133, 1)]), (11, [(134, (-1))]), ((-6), [(19001, 1)]), (6, [(19001, (-1))]), ((-3), [(19002, 1)]), (3, [(19002, (-1))]), ((-1), [(19003, 1)]), (0, [(1000000, 1), (1000003, (-1))]), (0, [(1000000, (-1)), (1000003, 1)]), (0, [(1000001, 1), (1000002, (-1))]), (0, [(1000001, (-1)), (1000002, 1)]), ((-1), [(19001, 1), (19002, (-1))]), ((-1), [(133, 1), (19002, (-1))]), ((-1), [(133, 1), (19001, (-1))])], [(9, (0, [])), (134, (1, [(134, 1)])), (7048, ((-2), [])), (7049, ((-2), [])), (8069, (0, [])), (11396, ((-2), [])), (18547, (0, [(1000000, 1)])), (18550, (0, [(1000001, 1)])), (18588, (0, [(18550, 1)])), (18589, (8, [])), (18590, (0, [(1000002, 1)])), (18591, (0, [(18547, 1)])), (18592, (64, [])), (18593, (0, [(1000003, 1)])), (18594, (2, []))], some (false, (1, []))) as σ σ' τ o) : lw_mwx_C a1 a2 x.toInt σ σ' := by
  unfold lw_mwx_C
  have b133 : 0 ≤ σ 133 ∧ σ 133 ≤ 8 := by
    have h0 := hb 133
    rw [show sx_sr 133 = (0, 8) from by decide +kernel] at h0
    exact h0
  have b134 : 0 ≤ σ 134 ∧ σ 134 ≤ 12 := by
    have h0 := hb 134
    rw [show sx_sr 134 = (0, 12) from by decide +kernel] at h0
    exact h0
  obtain ⟨hs, ht, hf, hr, hm, hw⟩ := hW
  have e1 : τ 19001 = a1 := by rw [ht 19001 (by decide) (by decide)]; exact h1
  have e2 : τ 19002 = a2 := by rw [ht 19002 (by decide) (by decide)]; exact h2
  have s133 : τ 133 = σ 133 := hs 133 (by decide)
  have s134 : τ 134 = σ 134 := hs 134 (by decide)
  clear hs ht hb
  rw [hx] at hr
  obtain ⟨y, hy, hv⟩ := hr
  cases hy
  replace hv : x.toInt = 1 + 0 := hv
  have f0 : 0 ≤ 0 + ((-1) * τ 18547 + (1 * τ 1000000 + 0)) := hf _ (List.Mem.head _)
  have f1 : 0 ≤ 0 + ((-1) * τ 18550 + (1 * τ 1000001 + 0)) := hf _ (List.Mem.tail _ (List.Mem.head _))
  have f2 : 0 ≤ (-1) + (1 * τ 133 + 0) := hf _ (List.Mem.tail _ (List.Mem.tail _ (List.Mem.head _)))
  have f3 : 0 ≤ 11 + ((-1) * τ 134 + 0) := hf _ (List.Mem.tail _ (List.Mem.tail _ (List.Mem.tail _ (List.Mem.head _))))
  have f4 : 0 ≤ (-6) + (1 * τ 19001 + 0) := hf _ (List.Mem.tail _ (List.Mem.tail _ (List.Mem.tail _ (List.Mem.tail _ (List.Mem.head _)))))
  have f5 : 0 ≤ 6 + ((-1) * τ 19001 + 0) := hf _ (List.Mem.tail _ (List.Mem.tail _ (List.Mem.tail _ (List.Mem.tail _ (List.Mem.tail _ (List.Mem.head _))))))
  have f6 : 0 ≤ (-3) + (1 * τ 19002 + 0) := hf _ (List.Mem.tail _ (List.Mem.tail _ (List.Mem.tail _ (List.Mem.tail _ (List.Mem.tail _ (List.Mem.tail _ (List.Mem.head _)))))))
  have f7 : 0 ≤ 3 + ((-1) * τ 19002 + 0) := hf _ (List.Mem.tail _ (List.Mem.tail _ (List.Mem.tail _ (List.Mem.tail _ (List.Mem.tail _ (List.Mem.tail _ (List.Mem.tail _ (List.Mem.head _))))))))
  have f8 : 0 ≤ (-1) + (1 * τ 19003 + 0) := hf _ (List.Mem.tail _ (List.Mem.tail _ (List.Mem.tail _ (List.Mem.tail _ (List.Mem.tail _ (List.Mem.tail _ (List.Mem.tail _ (List.Mem.tail _ (List.Mem.head _)))))))))
  have f9 : 0 ≤ 0 + (1 * τ 1000000 + ((-1) * τ 1000003 + 0)) := hf _ (List.Mem.tail _ (List.Mem.tail _ (List.Mem.tail _ (List.Mem.tail _ (List.Mem.tail _ (List.Mem.tail _ (List.Mem.tail _ (List.Mem.tail _ (List.Mem.tail _ (List.Mem.head _))))))))))
  have f10 : 0 ≤ 0 + ((-1) * τ 1000000 + (1 * τ 1000003 + 0)) := hf _ (List.Mem.tail _ (List.Mem.tail _ (List.Mem.tail _ (List.Mem.tail _ (List.Mem.tail _ (List.Mem.tail _ (List.Mem.tail _ (List.Mem.tail _ (List.Mem.tail _ (List.Mem.tail _ (List.Mem.head _)))))))))))
  have f11 : 0 ≤ 0 + (1 * τ 1000001 + ((-1) * τ 1000002 + 0)) := hf _ (List.Mem.tail _ (List.Mem.tail _ (List.Mem.tail _ (List.Mem.tail _ (List.Mem.tail _ (List.Mem.tail _ (List.Mem.tail _ (List.Mem.tail _ (List.Mem.tail _ (List.Mem.tail _ (List.Mem.tail _ (List.Mem.head _))))))))))))
  have f12 : 0 ≤ 0 + ((-1) * τ 1000001 + (1 * τ 1000002 + 0)) := hf _ (List.Mem.tail _ (List.Mem.tail _ (List.Mem.tail _ (List.Mem.tail _ (List.Mem.tail _ (List.Mem.tail _ (List.Mem.tail _ (List.Mem.tail _ (List.Mem.tail _ (List.Mem.tail _ (List.Mem.tail _ (List.Mem.tail _ (List.Mem.head _)))))))))))))
  have f13 : 0 ≤ (-1) + (1 * τ 19001 + ((-1) * τ 19002 + 0)) := hf _ (List.Mem.tail _ (List.Mem.tail _ (List.Mem.tail _ (List.Mem.tail _ (List.Mem.tail _ (List.Mem.tail _ (List.Mem.tail _ (List.Mem.tail _ (List.Mem.tail _ (List.Mem.tail _ (List.Mem.tail _ (List.Mem.tail _ (List.Mem.tail _ (List.Mem.head _))))))))))))))
  have f14 : 0 ≤ (-1) + (1 * τ 133 + ((-1) * τ 19002 + 0)) := hf _ (List.Mem.tail _ (List.Mem.tail _ (List.Mem.tail _ (List.Mem.tail _ (List.Mem.tail _ (List.Mem.tail _ (List.Mem.tail _ (List.Mem.tail _ (List.Mem.tail _ (List.Mem.tail _ (List.Mem.tail _ (List.Mem.tail _ (List.Mem.tail _ (List.Mem.tail _ (List.Mem.head _)))))))))))))))
  have f15 : 0 ≤ (-1) + (1 * τ 133 + ((-1) * τ 19001 + 0)) := hf _ (List.Mem.tail _ (List.Mem.tail _ (List.Mem.tail _ (List.Mem.tail _ (List.Mem.tail _ (List.Mem.tail _ (List.Mem.tail _ (List.Mem.tail _ (List.Mem.tail _ (List.Mem.tail _ (List.Mem.tail _ (List.Mem.tail _ (List.Mem.tail _ (List.Mem.tail _ (List.Mem.tail _ (List.Mem.head _))))))))))))))))
  have m134 : σ' 134 = 1 + (1 * τ 134 + 0) := hm 134 (by decide)
  clear hf hm
  exact Or.inl ⟨by omega, ⟨by omega, by omega, by omega, by omega, by omega, by omega⟩, by omega⟩
theorem lw_mwx_175 {as : List rv_A} {σ σ' : Nat → Int} {o : rv_O} {x : Int32} {a1 a2 : Int} {τ : Nat → Int} (hx : o.1 = some (.inl x)) (h1 : lw_av as 1 = a1) (h2 : lw_av as 2 = a2) (hb : ∀ s, (sx_sr s).1 ≤ σ s ∧ σ s ≤ (sx_sr s).2) (hW : lw_W ([(18540, 64, 255), (18542, 16, 255), (18590, 16, 255), (18593, 64, 255)], [(0, [(18540, (-1)), (1000000, 1)]), (0, [(18542, (-1)), (1000001, 1)]), ((-1), [(133, 1)]), (11, [(134, (-1))]), ((-6), [(19001, 1)]), (6, [(19001, (-1))]), ((-4), [(19002, 1)]), (4, [(19002, (-1))]), (0, [(19003, (-1))]), (0, [(1000000, 1), (1000003, (-1))]), (0, [(1000000, (-1)), (1000003, 1)]), (0, [(1000001, 1), (1000002, (-1))]), (0, [(1000001, (-1)), (1000002, 1)]), ((-1), [(19001, (-1)), (19002, 1)]), ((-1), [(133, 1), (19002, (-1))]), ((-1), [(133, 1), (19001, (-1))])], [(9, (0, [])), (134, (1, [(134, 1)])), (7048, ((-2), [])), (7049, ((-2), [])), (8069, (0, [])), (11396, ((-2), [])), (18540, (0, [(1000000, 1)])), (18542, (0, [(1000001, 1)])), (18588, (0, [(18542, 1)])), (18589, (16, [])), (18590, (0, [(1000002, 1)])), (18591, (0, [(18540, 1)])), (18592, (64, [])), (18593, (0, [(1000003, 1)])), (18594, (2, []))], some (false, (1, []))) as σ σ' τ o) : lw_mwx_C a1 a2 x.toInt σ σ' := by
  unfold lw_mwx_C
  have b133 : 0 ≤ σ 133 ∧ σ 133 ≤ 8 := by
    have h0 := hb 133
    rw [show sx_sr 133 = (0, 8) from by decide +kernel] at h0
    exact h0
  have b134 : 0 ≤ σ 134 ∧ σ 134 ≤ 12 := by
    have h0 := hb 134
    rw [show sx_sr 134 = (0, 12) from by decide +kernel] at h0
    exact h0
  obtain ⟨hs, ht, hf, hr, hm, hw⟩ := hW
  have e1 : τ 19001 = a1 := by rw [ht 19001 (by decide) (by decide)]; exact h1
  have e2 : τ 19002 = a2 := by rw [ht 19002 (by decide) (by decide)]; exact h2
  have s133 : τ 133 = σ 133 := hs 133 (by decide)
  have s134 : τ 134 = σ 134 := hs 134 (by decide)
  clear hs ht hb
  rw [hx] at hr
  obtain ⟨y, hy, hv⟩ := hr
  cases hy
  replace hv : x.toInt = 1 + 0 := hv
  have f0 : 0 ≤ 0 + ((-1) * τ 18540 + (1 * τ 1000000 + 0)) := hf _ (List.Mem.head _)
  have f1 : 0 ≤ 0 + ((-1) * τ 18542 + (1 * τ 1000001 + 0)) := hf _ (List.Mem.tail _ (List.Mem.head _))
  have f2 : 0 ≤ (-1) + (1 * τ 133 + 0) := hf _ (List.Mem.tail _ (List.Mem.tail _ (List.Mem.head _)))
  have f3 : 0 ≤ 11 + ((-1) * τ 134 + 0) := hf _ (List.Mem.tail _ (List.Mem.tail _ (List.Mem.tail _ (List.Mem.head _))))
  have f4 : 0 ≤ (-6) + (1 * τ 19001 + 0) := hf _ (List.Mem.tail _ (List.Mem.tail _ (List.Mem.tail _ (List.Mem.tail _ (List.Mem.head _)))))
  have f5 : 0 ≤ 6 + ((-1) * τ 19001 + 0) := hf _ (List.Mem.tail _ (List.Mem.tail _ (List.Mem.tail _ (List.Mem.tail _ (List.Mem.tail _ (List.Mem.head _))))))
  have f6 : 0 ≤ (-4) + (1 * τ 19002 + 0) := hf _ (List.Mem.tail _ (List.Mem.tail _ (List.Mem.tail _ (List.Mem.tail _ (List.Mem.tail _ (List.Mem.tail _ (List.Mem.head _)))))))
  have f7 : 0 ≤ 4 + ((-1) * τ 19002 + 0) := hf _ (List.Mem.tail _ (List.Mem.tail _ (List.Mem.tail _ (List.Mem.tail _ (List.Mem.tail _ (List.Mem.tail _ (List.Mem.tail _ (List.Mem.head _))))))))
  have f8 : 0 ≤ 0 + ((-1) * τ 19003 + 0) := hf _ (List.Mem.tail _ (List.Mem.tail _ (List.Mem.tail _ (List.Mem.tail _ (List.Mem.tail _ (List.Mem.tail _ (List.Mem.tail _ (List.Mem.tail _ (List.Mem.head _)))))))))
  have f9 : 0 ≤ 0 + (1 * τ 1000000 + ((-1) * τ 1000003 + 0)) := hf _ (List.Mem.tail _ (List.Mem.tail _ (List.Mem.tail _ (List.Mem.tail _ (List.Mem.tail _ (List.Mem.tail _ (List.Mem.tail _ (List.Mem.tail _ (List.Mem.tail _ (List.Mem.head _))))))))))
  have f10 : 0 ≤ 0 + ((-1) * τ 1000000 + (1 * τ 1000003 + 0)) := hf _ (List.Mem.tail _ (List.Mem.tail _ (List.Mem.tail _ (List.Mem.tail _ (List.Mem.tail _ (List.Mem.tail _ (List.Mem.tail _ (List.Mem.tail _ (List.Mem.tail _ (List.Mem.tail _ (List.Mem.head _)))))))))))
  have f11 : 0 ≤ 0 + (1 * τ 1000001 + ((-1) * τ 1000002 + 0)) := hf _ (List.Mem.tail _ (List.Mem.tail _ (List.Mem.tail _ (List.Mem.tail _ (List.Mem.tail _ (List.Mem.tail _ (List.Mem.tail _ (List.Mem.tail _ (List.Mem.tail _ (List.Mem.tail _ (List.Mem.tail _ (List.Mem.head _))))))))))))
  have f12 : 0 ≤ 0 + ((-1) * τ 1000001 + (1 * τ 1000002 + 0)) := hf _ (List.Mem.tail _ (List.Mem.tail _ (List.Mem.tail _ (List.Mem.tail _ (List.Mem.tail _ (List.Mem.tail _ (List.Mem.tail _ (List.Mem.tail _ (List.Mem.tail _ (List.Mem.tail _ (List.Mem.tail _ (List.Mem.tail _ (List.Mem.head _)))))))))))))
  have f13 : 0 ≤ (-1) + ((-1) * τ 19001 + (1 * τ 19002 + 0)) := hf _ (List.Mem.tail _ (List.Mem.tail _ (List.Mem.tail _ (List.Mem.tail _ (List.Mem.tail _ (List.Mem.tail _ (List.Mem.tail _ (List.Mem.tail _ (List.Mem.tail _ (List.Mem.tail _ (List.Mem.tail _ (List.Mem.tail _ (List.Mem.tail _ (List.Mem.head _))))))))))))))
  have f14 : 0 ≤ (-1) + (1 * τ 133 + ((-1) * τ 19002 + 0)) := hf _ (List.Mem.tail _ (List.Mem.tail _ (List.Mem.tail _ (List.Mem.tail _ (List.Mem.tail _ (List.Mem.tail _ (List.Mem.tail _ (List.Mem.tail _ (List.Mem.tail _ (List.Mem.tail _ (List.Mem.tail _ (List.Mem.tail _ (List.Mem.tail _ (List.Mem.tail _ (List.Mem.head _)))))))))))))))
  have f15 : 0 ≤ (-1) + (1 * τ 133 + ((-1) * τ 19001 + 0)) := hf _ (List.Mem.tail _ (List.Mem.tail _ (List.Mem.tail _ (List.Mem.tail _ (List.Mem.tail _ (List.Mem.tail _ (List.Mem.tail _ (List.Mem.tail _ (List.Mem.tail _ (List.Mem.tail _ (List.Mem.tail _ (List.Mem.tail _ (List.Mem.tail _ (List.Mem.tail _ (List.Mem.tail _ (List.Mem.head _))))))))))))))))
  have m134 : σ' 134 = 1 + (1 * τ 134 + 0) := hm 134 (by decide)
  clear hf hm
  exact Or.inl ⟨by omega, ⟨by omega, by omega, by omega, by omega, by omega, by omega⟩, by omega⟩
theorem lw_mwx_176 {as : List rv_A} {σ σ' : Nat → Int} {o : rv_O} {x : Int32} {a1 a2 : Int} {τ : Nat → Int} (hx : o.1 = some (.inl x)) (h1 : lw_av as 1 = a1) (h2 : lw_av as 2 = a2) (hb : ∀ s, (sx_sr s).1 ≤ σ s ∧ σ s ≤ (sx_sr s).2) (hW : lw_W ([(18540, 64, 255), (18542, 16, 255), (18590, 16, 255), (18593, 64, 255)], [(0, [(18540, (-1)), (1000000, 1)]), (0, [(18542, (-1)), (1000001, 1)]), ((-1), [(133, 1)]), (11, [(134, (-1))]), ((-6), [(19001, 1)]), (6, [(19001, (-1))]), ((-4), [(19002, 1)]), (4, [(19002, (-1))]), (0, [(19003, (-1))]), (0, [(1000000, 1), (1000003, (-1))]), (0, [(1000000, (-1)), (1000003, 1)]), (0, [(1000001, 1), (1000002, (-1))]), (0, [(1000001, (-1)), (1000002, 1)]), ((-1), [(19001, 1), (19002, (-1))]), ((-1), [(133, 1), (19002, (-1))]), ((-1), [(133, 1), (19001, (-1))])], [(9, (0, [])), (134, (1, [(134, 1)])), (7048, ((-2), [])), (7049, ((-2), [])), (8069, (0, [])), (11396, ((-2), [])), (18540, (0, [(1000000, 1)])), (18542, (0, [(1000001, 1)])), (18588, (0, [(18542, 1)])), (18589, (16, [])), (18590, (0, [(1000002, 1)])), (18591, (0, [(18540, 1)])), (18592, (64, [])), (18593, (0, [(1000003, 1)])), (18594, (2, []))], some (false, (1, []))) as σ σ' τ o) : lw_mwx_C a1 a2 x.toInt σ σ' := by
  unfold lw_mwx_C
  have b133 : 0 ≤ σ 133 ∧ σ 133 ≤ 8 := by
    have h0 := hb 133
    rw [show sx_sr 133 = (0, 8) from by decide +kernel] at h0
    exact h0
  have b134 : 0 ≤ σ 134 ∧ σ 134 ≤ 12 := by
    have h0 := hb 134
    rw [show sx_sr 134 = (0, 12) from by decide +kernel] at h0
    exact h0
  obtain ⟨hs, ht, hf, hr, hm, hw⟩ := hW
  have e1 : τ 19001 = a1 := by rw [ht 19001 (by decide) (by decide)]; exact h1
  have e2 : τ 19002 = a2 := by rw [ht 19002 (by decide) (by decide)]; exact h2
  have s133 : τ 133 = σ 133 := hs 133 (by decide)
  have s134 : τ 134 = σ 134 := hs 134 (by decide)
  clear hs ht hb
  rw [hx] at hr
  obtain ⟨y, hy, hv⟩ := hr
  cases hy
  replace hv : x.toInt = 1 + 0 := hv
  have f0 : 0 ≤ 0 + ((-1) * τ 18540 + (1 * τ 1000000 + 0)) := hf _ (List.Mem.head _)
  have f1 : 0 ≤ 0 + ((-1) * τ 18542 + (1 * τ 1000001 + 0)) := hf _ (List.Mem.tail _ (List.Mem.head _))
  have f2 : 0 ≤ (-1) + (1 * τ 133 + 0) := hf _ (List.Mem.tail _ (List.Mem.tail _ (List.Mem.head _)))
  have f3 : 0 ≤ 11 + ((-1) * τ 134 + 0) := hf _ (List.Mem.tail _ (List.Mem.tail _ (List.Mem.tail _ (List.Mem.head _))))
  have f4 : 0 ≤ (-6) + (1 * τ 19001 + 0) := hf _ (List.Mem.tail _ (List.Mem.tail _ (List.Mem.tail _ (List.Mem.tail _ (List.Mem.head _)))))
  have f5 : 0 ≤ 6 + ((-1) * τ 19001 + 0) := hf _ (List.Mem.tail _ (List.Mem.tail _ (List.Mem.tail _ (List.Mem.tail _ (List.Mem.tail _ (List.Mem.head _))))))
  have f6 : 0 ≤ (-4) + (1 * τ 19002 + 0) := hf _ (List.Mem.tail _ (List.Mem.tail _ (List.Mem.tail _ (List.Mem.tail _ (List.Mem.tail _ (List.Mem.tail _ (List.Mem.head _)))))))
  have f7 : 0 ≤ 4 + ((-1) * τ 19002 + 0) := hf _ (List.Mem.tail _ (List.Mem.tail _ (List.Mem.tail _ (List.Mem.tail _ (List.Mem.tail _ (List.Mem.tail _ (List.Mem.tail _ (List.Mem.head _))))))))
  have f8 : 0 ≤ 0 + ((-1) * τ 19003 + 0) := hf _ (List.Mem.tail _ (List.Mem.tail _ (List.Mem.tail _ (List.Mem.tail _ (List.Mem.tail _ (List.Mem.tail _ (List.Mem.tail _ (List.Mem.tail _ (List.Mem.head _)))))))))
  have f9 : 0 ≤ 0 + (1 * τ 1000000 + ((-1) * τ 1000003 + 0)) := hf _ (List.Mem.tail _ (List.Mem.tail _ (List.Mem.tail _ (List.Mem.tail _ (List.Mem.tail _ (List.Mem.tail _ (List.Mem.tail _ (List.Mem.tail _ (List.Mem.tail _ (List.Mem.head _))))))))))
  have f10 : 0 ≤ 0 + ((-1) * τ 1000000 + (1 * τ 1000003 + 0)) := hf _ (List.Mem.tail _ (List.Mem.tail _ (List.Mem.tail _ (List.Mem.tail _ (List.Mem.tail _ (List.Mem.tail _ (List.Mem.tail _ (List.Mem.tail _ (List.Mem.tail _ (List.Mem.tail _ (List.Mem.head _)))))))))))
  have f11 : 0 ≤ 0 + (1 * τ 1000001 + ((-1) * τ 1000002 + 0)) := hf _ (List.Mem.tail _ (List.Mem.tail _ (List.Mem.tail _ (List.Mem.tail _ (List.Mem.tail _ (List.Mem.tail _ (List.Mem.tail _ (List.Mem.tail _ (List.Mem.tail _ (List.Mem.tail _ (List.Mem.tail _ (List.Mem.head _))))))))))))
  have f12 : 0 ≤ 0 + ((-1) * τ 1000001 + (1 * τ 1000002 + 0)) := hf _ (List.Mem.tail _ (List.Mem.tail _ (List.Mem.tail _ (List.Mem.tail _ (List.Mem.tail _ (List.Mem.tail _ (List.Mem.tail _ (List.Mem.tail _ (List.Mem.tail _ (List.Mem.tail _ (List.Mem.tail _ (List.Mem.tail _ (List.Mem.head _)))))))))))))
  have f13 : 0 ≤ (-1) + (1 * τ 19001 + ((-1) * τ 19002 + 0)) := hf _ (List.Mem.tail _ (List.Mem.tail _ (List.Mem.tail _ (List.Mem.tail _ (List.Mem.tail _ (List.Mem.tail _ (List.Mem.tail _ (List.Mem.tail _ (List.Mem.tail _ (List.Mem.tail _ (List.Mem.tail _ (List.Mem.tail _ (List.Mem.tail _ (List.Mem.head _))))))))))))))
  have f14 : 0 ≤ (-1) + (1 * τ 133 + ((-1) * τ 19002 + 0)) := hf _ (List.Mem.tail _ (List.Mem.tail _ (List.Mem.tail _ (List.Mem.tail _ (List.Mem.tail _ (List.Mem.tail _ (List.Mem.tail _ (List.Mem.tail _ (List.Mem.tail _ (List.Mem.tail _ (List.Mem.tail _ (List.Mem.tail _ (List.Mem.tail _ (List.Mem.tail _ (List.Mem.head _)))))))))))))))
  have f15 : 0 ≤ (-1) + (1 * τ 133 + ((-1) * τ 19001 + 0)) := hf _ (List.Mem.tail _ (List.Mem.tail _ (List.Mem.tail _ (List.Mem.tail _ (List.Mem.tail _ (List.Mem.tail _ (List.Mem.tail _ (List.Mem.tail _ (List.Mem.tail _ (List.Mem.tail _ (List.Mem.tail _ (List.Mem.tail _ (List.Mem.tail _ (List.Mem.tail _ (List.Mem.tail _ (List.Mem.head _))))))))))))))))
  have m134 : σ' 134 = 1 + (1 * τ 134 + 0) := hm 134 (by decide)
  clear hf hm
  exact Or.inl ⟨by omega, ⟨by omega, by omega, by omega, by omega, by omega, by omega⟩, by omega⟩
theorem lw_mwx_177 {as : List rv_A} {σ σ' : Nat → Int} {o : rv_O} {x : Int32} {a1 a2 : Int} {τ : Nat → Int} (hx : o.1 = some (.inl x)) (h1 : lw_av as 1 = a1) (h2 : lw_av as 2 = a2) (hb : ∀ s, (sx_sr s).1 ≤ σ s ∧ σ s ≤ (sx_sr s).2) (hW : lw_W ([(18548, 64, 255), (18550, 16, 255), (18590, 16, 255), (18593, 64, 255)], [(0, [(18548, (-1)), (1000000, 1)]), (0, [(18550, (-1)), (1000001, 1)]), ((-1), [(133, 1)]), (11, [(134, (-1))]), ((-6), [(19001, 1)]), (6, [(19001, (-1))]), ((-4), [(19002, 1)]), (4, [(19002, (-1))]), ((-1), [(19003, 1)]), (0, [(1000000, 1), (1000003, (-1))]), (0, [(1000000, (-1)), (1000003, 1)]), (0, [(1000001, 1), (1000002, (-1))]), (0, [(1000001, (-1)), (1000002, 1)]), ((-1), [(19001, (-1)), (19002, 1)]), ((-1), [(133, 1), (19002, (-1))]), ((-1), [(133, 1), (19001, (-1))])], [(9, (0, [])), (134, (1, [(134, 1)])), (7048, ((-2), [])), (7049, ((-2), [])), (8069, (0, [])), (11396, ((-2), [])), (18548, (0, [(1000000, 1)])), (18550, (0, [(1000001, 1)])), (18588, (0, [(18550, 1)])), (18589, (16, [])), (18590, (0, [(1000002, 1)])), (18591, (0, [(18548, 1)])), (18592, (64, [])), (18593, (0, [(1000003, 1)])), (18594, (2, []))], some (false, (1, []))) as σ σ' τ o) : lw_mwx_C a1 a2 x.toInt σ σ' := by
  unfold lw_mwx_C
  have b133 : 0 ≤ σ 133 ∧ σ 133 ≤ 8 := by
    have h0 := hb 133
    rw [show sx_sr 133 = (0, 8) from by decide +kernel] at h0
    exact h0
  have b134 : 0 ≤ σ 134 ∧ σ 134 ≤ 12 := by
    have h0 := hb 134
    rw [show sx_sr 134 = (0, 12) from by decide +kernel] at h0
    exact h0
  obtain ⟨hs, ht, hf, hr, hm, hw⟩ := hW
  have e1 : τ 19001 = a1 := by rw [ht 19001 (by decide) (by decide)]; exact h1
  have e2 : τ 19002 = a2 := by rw [ht 19002 (by decide) (by decide)]; exact h2
  have s133 : τ 133 = σ 133 := hs 133 (by decide)
  have s134 : τ 134 = σ 134 := hs 134 (by decide)
  clear hs ht hb
  rw [hx] at hr
  obtain ⟨y, hy, hv⟩ := hr
  cases hy
  replace hv : x.toInt = 1 + 0 := hv
  have f0 : 0 ≤ 0 + ((-1) * τ 18548 + (1 * τ 1000000 + 0)) := hf _ (List.Mem.head _)
  have f1 : 0 ≤ 0 + ((-1) * τ 18550 + (1 * τ 1000001 + 0)) := hf _ (List.Mem.tail _ (List.Mem.head _))
  have f2 : 0 ≤ (-1) + (1 * τ 133 + 0) := hf _ (List.Mem.tail _ (List.Mem.tail _ (List.Mem.head _)))
  have f3 : 0 ≤ 11 + ((-1) * τ 134 + 0) := hf _ (List.Mem.tail _ (List.Mem.tail _ (List.Mem.tail _ (List.Mem.head _))))
  have f4 : 0 ≤ (-6) + (1 * τ 19001 + 0) := hf _ (List.Mem.tail _ (List.Mem.tail _ (List.Mem.tail _ (List.Mem.tail _ (List.Mem.head _)))))
  have f5 : 0 ≤ 6 + ((-1) * τ 19001 + 0) := hf _ (List.Mem.tail _ (List.Mem.tail _ (List.Mem.tail _ (List.Mem.tail _ (List.Mem.tail _ (List.Mem.head _))))))
  have f6 : 0 ≤ (-4) + (1 * τ 19002 + 0) := hf _ (List.Mem.tail _ (List.Mem.tail _ (List.Mem.tail _ (List.Mem.tail _ (List.Mem.tail _ (List.Mem.tail _ (List.Mem.head _)))))))
  have f7 : 0 ≤ 4 + ((-1) * τ 19002 + 0) := hf _ (List.Mem.tail _ (List.Mem.tail _ (List.Mem.tail _ (List.Mem.tail _ (List.Mem.tail _ (List.Mem.tail _ (List.Mem.tail _ (List.Mem.head _))))))))
  have f8 : 0 ≤ (-1) + (1 * τ 19003 + 0) := hf _ (List.Mem.tail _ (List.Mem.tail _ (List.Mem.tail _ (List.Mem.tail _ (List.Mem.tail _ (List.Mem.tail _ (List.Mem.tail _ (List.Mem.tail _ (List.Mem.head _)))))))))
  have f9 : 0 ≤ 0 + (1 * τ 1000000 + ((-1) * τ 1000003 + 0)) := hf _ (List.Mem.tail _ (List.Mem.tail _ (List.Mem.tail _ (List.Mem.tail _ (List.Mem.tail _ (List.Mem.tail _ (List.Mem.tail _ (List.Mem.tail _ (List.Mem.tail _ (List.Mem.head _))))))))))
  have f10 : 0 ≤ 0 + ((-1) * τ 1000000 + (1 * τ 1000003 + 0)) := hf _ (List.Mem.tail _ (List.Mem.tail _ (List.Mem.tail _ (List.Mem.tail _ (List.Mem.tail _ (List.Mem.tail _ (List.Mem.tail _ (List.Mem.tail _ (List.Mem.tail _ (List.Mem.tail _ (List.Mem.head _)))))))))))
  have f11 : 0 ≤ 0 + (1 * τ 1000001 + ((-1) * τ 1000002 + 0)) := hf _ (List.Mem.tail _ (List.Mem.tail _ (List.Mem.tail _ (List.Mem.tail _ (List.Mem.tail _ (List.Mem.tail _ (List.Mem.tail _ (List.Mem.tail _ (List.Mem.tail _ (List.Mem.tail _ (List.Mem.tail _ (List.Mem.head _))))))))))))
  have f12 : 0 ≤ 0 + ((-1) * τ 1000001 + (1 * τ 1000002 + 0)) := hf _ (List.Mem.tail _ (List.Mem.tail _ (List.Mem.tail _ (List.Mem.tail _ (List.Mem.tail _ (List.Mem.tail _ (List.Mem.tail _ (List.Mem.tail _ (List.Mem.tail _ (List.Mem.tail _ (List.Mem.tail _ (List.Mem.tail _ (List.Mem.head _)))))))))))))
  have f13 : 0 ≤ (-1) + ((-1) * τ 19001 + (1 * τ 19002 + 0)) := hf _ (List.Mem.tail _ (List.Mem.tail _ (List.Mem.tail _ (List.Mem.tail _ (List.Mem.tail _ (List.Mem.tail _ (List.Mem.tail _ (List.Mem.tail _ (List.Mem.tail _ (List.Mem.tail _ (List.Mem.tail _ (List.Mem.tail _ (List.Mem.tail _ (List.Mem.head _))))))))))))))
  have f14 : 0 ≤ (-1) + (1 * τ 133 + ((-1) * τ 19002 + 0)) := hf _ (List.Mem.tail _ (List.Mem.tail _ (List.Mem.tail _ (List.Mem.tail _ (List.Mem.tail _ (List.Mem.tail _ (List.Mem.tail _ (List.Mem.tail _ (List.Mem.tail _ (List.Mem.tail _ (List.Mem.tail _ (List.Mem.tail _ (List.Mem.tail _ (List.Mem.tail _ (List.Mem.head _)))))))))))))))
  have f15 : 0 ≤ (-1) + (1 * τ 133 + ((-1) * τ 19001 + 0)) := hf _ (List.Mem.tail _ (List.Mem.tail _ (List.Mem.tail _ (List.Mem.tail _ (List.Mem.tail _ (List.Mem.tail _ (List.Mem.tail _ (List.Mem.tail _ (List.Mem.tail _ (List.Mem.tail _ (List.Mem.tail _ (List.Mem.tail _ (List.Mem.tail _ (List.Mem.tail _ (List.Mem.tail _ (List.Mem.head _))))))))))))))))
  have m134 : σ' 134 = 1 + (1 * τ 134 + 0) := hm 134 (by decide)
  clear hf hm
  exact Or.inl ⟨by omega, ⟨by omega, by omega, by omega, by omega, by omega, by omega⟩, by omega⟩
theorem lw_mwx_178 {as : List rv_A} {σ σ' : Nat → Int} {o : rv_O} {x : Int32} {a1 a2 : Int} {τ : Nat → Int} (hx : o.1 = some (.inl x)) (h1 : lw_av as 1 = a1) (h2 : lw_av as 2 = a2) (hb : ∀ s, (sx_sr s).1 ≤ σ s ∧ σ s ≤ (sx_sr s).2) (hW : lw_W ([(18548, 64, 255), (18550, 16, 255), (18590, 16, 255), (18593, 64, 255)], [(0, [(18548, (-1)), (1000000, 1)]), (0, [(18550, (-1)), (1000001, 1)]), ((-1), [(133, 1)]), (11, [(134, (-1))]), ((-6), [(19001, 1)]), (6, [(19001, (-1))]), ((-4), [(19002, 1)]), (4, [(19002, (-1))]), ((-1), [(19003, 1)]), (0, [(1000000, 1), (1000003, (-1))]), (0, [(1000000, (-1)), (1000003, 1)]), (0, [(1000001, 1), (1000002, (-1))]), (0, [(1000001, (-1)), (1000002, 1)]), ((-1), [(19001, 1), (19002, (-1))]), ((-1), [(133, 1), (19002, (-1))]), ((-1), [(133, 1), (19001, (-1))])], [(9, (0, [])), (134, (1, [(134, 1)])), (7048, ((-2), [])), (7049, ((-2), [])), (8069, (0, [])), (11396, ((-2), [])), (18548, (0, [(1000000, 1)])), (18550, (0, [(1000001, 1)])), (18588, (0, [(18550, 1)])), (18589, (16, [])), (18590, (0, [(1000002, 1)])), (18591, (0, [(18548, 1)])), (18592, (64, [])), (18593, (0, [(1000003, 1)])), (18594, (2, []))], some (false, (1, []))) as σ σ' τ o) : lw_mwx_C a1 a2 x.toInt σ σ' := by
  unfold lw_mwx_C
  have b133 : 0 ≤ σ 133 ∧ σ 133 ≤ 8 := by
    have h0 := hb 133
    rw [show sx_sr 133 = (0, 8) from by decide +kernel] at h0
    exact h0
  have b134 : 0 ≤ σ 134 ∧ σ 134 ≤ 12 := by
    have h0 := hb 134
    rw [show sx_sr 134 = (0, 12) from by decide +kernel] at h0
    exact h0
  obtain ⟨hs, ht, hf, hr, hm, hw⟩ := hW
  have e1 : τ 19001 = a1 := by rw [ht 19001 (by decide) (by decide)]; exact h1
  have e2 : τ 19002 = a2 := by rw [ht 19002 (by decide) (by decide)]; exact h2
  have s133 : τ 133 = σ 133 := hs 133 (by decide)
  have s134 : τ 134 = σ 134 := hs 134 (by decide)
  clear hs ht hb
  rw [hx] at hr
  obtain ⟨y, hy, hv⟩ := hr
  cases hy
  replace hv : x.toInt = 1 + 0 := hv
  have f0 : 0 ≤ 0 + ((-1) * τ 18548 + (1 * τ 1000000 + 0)) := hf _ (List.Mem.head _)
  have f1 : 0 ≤ 0 + ((-1) * τ 18550 + (1 * τ 1000001 + 0)) := hf _ (List.Mem.tail _ (List.Mem.head _))
  have f2 : 0 ≤ (-1) + (1 * τ 133 + 0) := hf _ (List.Mem.tail _ (List.Mem.tail _ (List.Mem.head _)))
  have f3 : 0 ≤ 11 + ((-1) * τ 134 + 0) := hf _ (List.Mem.tail _ (List.Mem.tail _ (List.Mem.tail _ (List.Mem.head _))))
  have f4 : 0 ≤ (-6) + (1 * τ 19001 + 0) := hf _ (List.Mem.tail _ (List.Mem.tail _ (List.Mem.tail _ (List.Mem.tail _ (List.Mem.head _)))))
  have f5 : 0 ≤ 6 + ((-1) * τ 19001 + 0) := hf _ (List.Mem.tail _ (List.Mem.tail _ (List.Mem.tail _ (List.Mem.tail _ (List.Mem.tail _ (List.Mem.head _))))))
  have f6 : 0 ≤ (-4) + (1 * τ 19002 + 0) := hf _ (List.Mem.tail _ (List.Mem.tail _ (List.Mem.tail _ (List.Mem.tail _ (List.Mem.tail _ (List.Mem.tail _ (List.Mem.head _)))))))
  have f7 : 0 ≤ 4 + ((-1) * τ 19002 + 0) := hf _ (List.Mem.tail _ (List.Mem.tail _ (List.Mem.tail _ (List.Mem.tail _ (List.Mem.tail _ (List.Mem.tail _ (List.Mem.tail _ (List.Mem.head _))))))))
  have f8 : 0 ≤ (-1) + (1 * τ 19003 + 0) := hf _ (List.Mem.tail _ (List.Mem.tail _ (List.Mem.tail _ (List.Mem.tail _ (List.Mem.tail _ (List.Mem.tail _ (List.Mem.tail _ (List.Mem.tail _ (List.Mem.head _)))))))))
  have f9 : 0 ≤ 0 + (1 * τ 1000000 + ((-1) * τ 1000003 + 0)) := hf _ (List.Mem.tail _ (List.Mem.tail _ (List.Mem.tail _ (List.Mem.tail _ (List.Mem.tail _ (List.Mem.tail _ (List.Mem.tail _ (List.Mem.tail _ (List.Mem.tail _ (List.Mem.head _))))))))))
  have f10 : 0 ≤ 0 + ((-1) * τ 1000000 + (1 * τ 1000003 + 0)) := hf _ (List.Mem.tail _ (List.Mem.tail _ (List.Mem.tail _ (List.Mem.tail _ (List.Mem.tail _ (List.Mem.tail _ (List.Mem.tail _ (List.Mem.tail _ (List.Mem.tail _ (List.Mem.tail _ (List.Mem.head _)))))))))))
  have f11 : 0 ≤ 0 + (1 * τ 1000001 + ((-1) * τ 1000002 + 0)) := hf _ (List.Mem.tail _ (List.Mem.tail _ (List.Mem.tail _ (List.Mem.tail _ (List.Mem.tail _ (List.Mem.tail _ (List.Mem.tail _ (List.Mem.tail _ (List.Mem.tail _ (List.Mem.tail _ (List.Mem.tail _ (List.Mem.head _))))))))))))
  have f12 : 0 ≤ 0 + ((-1) * τ 1000001 + (1 * τ 1000002 + 0)) := hf _ (List.Mem.tail _ (List.Mem.tail _ (List.Mem.tail _ (List.Mem.tail _ (List.Mem.tail _ (List.Mem.tail _ (List.Mem.tail _ (List.Mem.tail _ (List.Mem.tail _ (List.Mem.tail _ (List.Mem.tail _ (List.Mem.tail _ (List.Mem.head _)))))))))))))
  have f13 : 0 ≤ (-1) + (1 * τ 19001 + ((-1) * τ 19002 + 0)) := hf _ (List.Mem.tail _ (List.Mem.tail _ (List.Mem.tail _ (List.Mem.tail _ (List.Mem.tail _ (List.Mem.tail _ (List.Mem.tail _ (List.Mem.tail _ (List.Mem.tail _ (List.Mem.tail _ (List.Mem.tail _ (List.Mem.tail _ (List.Mem.tail _ (List.Mem.head _))))))))))))))
  have f14 : 0 ≤ (-1) + (1 * τ 133 + ((-1) * τ 19002 + 0)) := hf _ (List.Mem.tail _ (List.Mem.tail _ (List.Mem.tail _ (List.Mem.tail _ (List.Mem.tail _ (List.Mem.tail _ (List.Mem.tail _ (List.Mem.tail _ (List.Mem.tail _ (List.Mem.tail _ (List.Mem.tail _ (List.Mem.tail _ (List.Mem.tail _ (List.Mem.tail _ (List.Mem.head _)))))))))))))))
  have f15 : 0 ≤ (-1) + (1 * τ 133 + ((-1) * τ 19001 + 0)) := hf _ (List.Mem.tail _ (List.Mem.tail _ (List.Mem.tail _ (List.Mem.tail _ (List.Mem.tail _ (List.Mem.tail _ (List.Mem.tail _ (List.Mem.tail _ (List.Mem.tail _ (List.Mem.tail _ (List.Mem.tail _ (List.Mem.tail _ (List.Mem.tail _ (List.Mem.tail _ (List.Mem.tail _ (List.Mem.head _))))))))))))))))
  have m134 : σ' 134 = 1 + (1 * τ 134 + 0) := hm 134 (by decide)
  clear hf hm
  exact Or.inl ⟨by omega, ⟨by omega, by omega, by omega, by omega, by omega, by omega⟩, by omega⟩
theorem lw_mwx_179 {as : List rv_A} {σ σ' : Nat → Int} {o : rv_O} {x : Int32} {a1 a2 : Int} {τ : Nat → Int} (hx : o.1 = some (.inl x)) (h1 : lw_av as 1 = a1) (h2 : lw_av as 2 = a2) (hb : ∀ s, (sx_sr s).1 ≤ σ s ∧ σ s ≤ (sx_sr s).2) (hW : lw_W ([(18541, 64, 255), (18542, 32, 255), (18590, 32, 255), (18593, 64, 255)], [(0, [(18541, (-1)), (1000000, 1)]), (0, [(18542, (-1)), (1000001, 1)]), ((-1), [(133, 1)]), (11, [(134, (-1))]), ((-6), [(19001, 1)]), (6, [(19001, (-1))]), ((-5), [(19002, 1)]), (5, [(19002, (-1))]), (0, [(19003, (-1))]), (0, [(1000000, 1), (1000003, (-1))]), (0, [(1000000, (-1)), (1000003, 1)]), (0, [(1000001, 1), (1000002, (-1))]), (0, [(1000001, (-1)), (1000002, 1)]), ((-1), [(19001, (-1)), (19002, 1)]), ((-1), [(133, 1), (19002, (-1))]), ((-1), [(133, 1), (19001, (-1))])], [(9, (0, [])), (134, (1, [(134, 1)])), (7048, ((-2), [])), (7049, ((-2), [])), (8069, (0, [])), (11396, ((-2), [])), (18541, (0, [(1000000, 1)])), (18542, (0, [(1000001, 1)])), (18588, (0, [(18542, 1)])), (18589, (32, [])), (18590, (0, [(1000002, 1)])), (18591, (0, [(18541, 1)])), (18592, (64, [])), (18593, (0, [(1000003, 1)])), (18594, (2, []))], some (false, (1, []))) as σ σ' τ o) : lw_mwx_C a1 a2 x.toInt σ σ' := by
  unfold lw_mwx_C
  have b133 : 0 ≤ σ 133 ∧ σ 133 ≤ 8 := by
    have h0 := hb 133
    rw [show sx_sr 133 = (0, 8) from by decide +kernel] at h0
    exact h0
  have b134 : 0 ≤ σ 134 ∧ σ 134 ≤ 12 := by
    have h0 := hb 134
    rw [show sx_sr 134 = (0, 12) from by decide +kernel] at h0
    exact h0
  obtain ⟨hs, ht, hf, hr, hm, hw⟩ := hW
  have e1 : τ 19001 = a1 := by rw [ht 19001 (by decide) (by decide)]; exact h1
  have e2 : τ 19002 = a2 := by rw [ht 19002 (by decide) (by decide)]; exact h2
  have s133 : τ 133 = σ 133 := hs 133 (by decide)
  have s134 : τ 134 = σ 134 := hs 134 (by decide)
  clear hs ht hb
  rw [hx] at hr
  obtain ⟨y, hy, hv⟩ := hr
  cases hy
  replace hv : x.toInt = 1 + 0 := hv
  have f0 : 0 ≤ 0 + ((-1) * τ 18541 + (1 * τ 1000000 + 0)) := hf _ (List.Mem.head _)
  have f1 : 0 ≤ 0 + ((-1) * τ 18542 + (1 * τ 1000001 + 0)) := hf _ (List.Mem.tail _ (List.Mem.head _))
  have f2 : 0 ≤ (-1) + (1 * τ 133 + 0) := hf _ (List.Mem.tail _ (List.Mem.tail _ (List.Mem.head _)))
  have f3 : 0 ≤ 11 + ((-1) * τ 134 + 0) := hf _ (List.Mem.tail _ (List.Mem.tail _ (List.Mem.tail _ (List.Mem.head _))))
  have f4 : 0 ≤ (-6) + (1 * τ 19001 + 0) := hf _ (List.Mem.tail _ (List.Mem.tail _ (List.Mem.tail _ (List.Mem.tail _ (List.Mem.head _)))))
  have f5 : 0 ≤ 6 + ((-1) * τ 19001 + 0) := hf _ (List.Mem.tail _ (List.Mem.tail _ (List.Mem.tail _ (List.Mem.tail _ (List.Mem.tail _ (List.Mem.head _))))))
  have f6 : 0 ≤ (-5) + (1 * τ 19002 + 0) := hf _ (List.Mem.tail _ (List.Mem.tail _ (List.Mem.tail _ (List.Mem.tail _ (List.Mem.tail _ (List.Mem.tail _ (List.Mem.head _)))))))
  have f7 : 0 ≤ 5 + ((-1) * τ 19002 + 0) := hf _ (List.Mem.tail _ (List.Mem.tail _ (List.Mem.tail _ (List.Mem.tail _ (List.Mem.tail _ (List.Mem.tail _ (List.Mem.tail _ (List.Mem.head _))))))))
  have f8 : 0 ≤ 0 + ((-1) * τ 19003 + 0) := hf _ (List.Mem.tail _ (List.Mem.tail _ (List.Mem.tail _ (List.Mem.tail _ (List.Mem.tail _ (List.Mem.tail _ (List.Mem.tail _ (List.Mem.tail _ (List.Mem.head _)))))))))
  have f9 : 0 ≤ 0 + (1 * τ 1000000 + ((-1) * τ 1000003 + 0)) := hf _ (List.Mem.tail _ (List.Mem.tail _ (List.Mem.tail _ (List.Mem.tail _ (List.Mem.tail _ (List.Mem.tail _ (List.Mem.tail _ (List.Mem.tail _ (List.Mem.tail _ (List.Mem.head _))))))))))
  have f10 : 0 ≤ 0 + ((-1) * τ 1000000 + (1 * τ 1000003 + 0)) := hf _ (List.Mem.tail _ (List.Mem.tail _ (List.Mem.tail _ (List.Mem.tail _ (List.Mem.tail _ (List.Mem.tail _ (List.Mem.tail _ (List.Mem.tail _ (List.Mem.tail _ (List.Mem.tail _ (List.Mem.head _)))))))))))
  have f11 : 0 ≤ 0 + (1 * τ 1000001 + ((-1) * τ 1000002 + 0)) := hf _ (List.Mem.tail _ (List.Mem.tail _ (List.Mem.tail _ (List.Mem.tail _ (List.Mem.tail _ (List.Mem.tail _ (List.Mem.tail _ (List.Mem.tail _ (List.Mem.tail _ (List.Mem.tail _ (List.Mem.tail _ (List.Mem.head _))))))))))))
  have f12 : 0 ≤ 0 + ((-1) * τ 1000001 + (1 * τ 1000002 + 0)) := hf _ (List.Mem.tail _ (List.Mem.tail _ (List.Mem.tail _ (List.Mem.tail _ (List.Mem.tail _ (List.Mem.tail _ (List.Mem.tail _ (List.Mem.tail _ (List.Mem.tail _ (List.Mem.tail _ (List.Mem.tail _ (List.Mem.tail _ (List.Mem.head _)))))))))))))
  have f13 : 0 ≤ (-1) + ((-1) * τ 19001 + (1 * τ 19002 + 0)) := hf _ (List.Mem.tail _ (List.Mem.tail _ (List.Mem.tail _ (List.Mem.tail _ (List.Mem.tail _ (List.Mem.tail _ (List.Mem.tail _ (List.Mem.tail _ (List.Mem.tail _ (List.Mem.tail _ (List.Mem.tail _ (List.Mem.tail _ (List.Mem.tail _ (List.Mem.head _))))))))))))))
  have f14 : 0 ≤ (-1) + (1 * τ 133 + ((-1) * τ 19002 + 0)) := hf _ (List.Mem.tail _ (List.Mem.tail _ (List.Mem.tail _ (List.Mem.tail _ (List.Mem.tail _ (List.Mem.tail _ (List.Mem.tail _ (List.Mem.tail _ (List.Mem.tail _ (List.Mem.tail _ (List.Mem.tail _ (List.Mem.tail _ (List.Mem.tail _ (List.Mem.tail _ (List.Mem.head _)))))))))))))))
  have f15 : 0 ≤ (-1) + (1 * τ 133 + ((-1) * τ 19001 + 0)) := hf _ (List.Mem.tail _ (List.Mem.tail _ (List.Mem.tail _ (List.Mem.tail _ (List.Mem.tail _ (List.Mem.tail _ (List.Mem.tail _ (List.Mem.tail _ (List.Mem.tail _ (List.Mem.tail _ (List.Mem.tail _ (List.Mem.tail _ (List.Mem.tail _ (List.Mem.tail _ (List.Mem.tail _ (List.Mem.head _))))))))))))))))
  have m134 : σ' 134 = 1 + (1 * τ 134 + 0) := hm 134 (by decide)
  clear hf hm
  exact Or.inl ⟨by omega, ⟨by omega, by omega, by omega, by omega, by omega, by omega⟩, by omega⟩
theorem lw_mwx_180 {as : List rv_A} {σ σ' : Nat → Int} {o : rv_O} {x : Int32} {a1 a2 : Int} {τ : Nat → Int} (hx : o.1 = some (.inl x)) (h1 : lw_av as 1 = a1) (h2 : lw_av as 2 = a2) (hb : ∀ s, (sx_sr s).1 ≤ σ s ∧ σ s ≤ (sx_sr s).2) (hW : lw_W ([(18541, 64, 255), (18542, 32, 255), (18590, 32, 255), (18593, 64, 255)], [(0, [(18541, (-1)), (1000000, 1)]), (0, [(18542, (-1)), (1000001, 1)]), ((-1), [(133, 1)]), (11, [(134, (-1))]), ((-6), [(19001, 1)]), (6, [(19001, (-1))]), ((-5), [(19002, 1)]), (5, [(19002, (-1))]), (0, [(19003, (-1))]), (0, [(1000000, 1), (1000003, (-1))]), (0, [(1000000, (-1)), (1000003, 1)]), (0, [(1000001, 1), (1000002, (-1))]), (0, [(1000001, (-1)), (1000002, 1)]), ((-1), [(19001, 1), (19002, (-1))]), ((-1), [(133, 1), (19002, (-1))]), ((-1), [(133, 1), (19001, (-1))])], [(9, (0, [])), (134, (1, [(134, 1)])), (7048, ((-2), [])), (7049, ((-2), [])), (8069, (0, [])), (11396, ((-2), [])), (18541, (0, [(1000000, 1)])), (18542, (0, [(1000001, 1)])), (18588, (0, [(18542, 1)])), (18589, (32, [])), (18590, (0, [(1000002, 1)])), (18591, (0, [(18541, 1)])), (18592, (64, [])), (18593, (0, [(1000003, 1)])), (18594, (2, []))], some (false, (1, []))) as σ σ' τ o) : lw_mwx_C a1 a2 x.toInt σ σ' := by
  unfold lw_mwx_C
  have b133 : 0 ≤ σ 133 ∧ σ 133 ≤ 8 := by
    have h0 := hb 133
    rw [show sx_sr 133 = (0, 8) from by decide +kernel] at h0
    exact h0
  have b134 : 0 ≤ σ 134 ∧ σ 134 ≤ 12 := by
    have h0 := hb 134
    rw [show sx_sr 134 = (0, 12) from by decide +kernel] at h0
    exact h0
  obtain ⟨hs, ht, hf, hr, hm, hw⟩ := hW
  have e1 : τ 19001 = a1 := by rw [ht 19001 (by decide) (by decide)]; exact h1
  have e2 : τ 19002 = a2 := by rw [ht 19002 (by decide) (by decide)]; exact h2
  have s133 : τ 133 = σ 133 := hs 133 (by decide)
  have s134 : τ 134 = σ 134 := hs 134 (by decide)
  clear hs ht hb
  rw [hx] at hr
  obtain ⟨y, hy, hv⟩ := hr
  cases hy
  replace hv : x.toInt = 1 + 0 := hv
  have f0 : 0 ≤ 0 + ((-1) * τ 18541 + (1 * τ 1000000 + 0)) := hf _ (List.Mem.head _)
  have f1 : 0 ≤ 0 + ((-1) * τ 18542 + (1 * τ 1000001 + 0)) := hf _ (List.Mem.tail _ (List.Mem.head _))
  have f2 : 0 ≤ (-1) + (1 * τ 133 + 0) := hf _ (List.Mem.tail _ (List.Mem.tail _ (List.Mem.head _)))
  have f3 : 0 ≤ 11 + ((-1) * τ 134 + 0) := hf _ (List.Mem.tail _ (List.Mem.tail _ (List.Mem.tail _ (List.Mem.head _))))
  have f4 : 0 ≤ (-6) + (1 * τ 19001 + 0) := hf _ (List.Mem.tail _ (List.Mem.tail _ (List.Mem.tail _ (List.Mem.tail _ (List.Mem.head _)))))
  have f5 : 0 ≤ 6 + ((-1) * τ 19001 + 0) := hf _ (List.Mem.tail _ (List.Mem.tail _ (List.Mem.tail _ (List.Mem.tail _ (List.Mem.tail _ (List.Mem.head _))))))
  have f6 : 0 ≤ (-5) + (1 * τ 19002 + 0) := hf _ (List.Mem.tail _ (List.Mem.tail _ (List.Mem.tail _ (List.Mem.tail _ (List.Mem.tail _ (List.Mem.tail _ (List.Mem.head _)))))))
  have f7 : 0 ≤ 5 + ((-1) * τ 19002 + 0) := hf _ (List.Mem.tail _ (List.Mem.tail _ (List.Mem.tail _ (List.Mem.tail _ (List.Mem.tail _ (List.Mem.tail _ (List.Mem.tail _ (List.Mem.head _))))))))
  have f8 : 0 ≤ 0 + ((-1) * τ 19003 + 0) := hf _ (List.Mem.tail _ (List.Mem.tail _ (List.Mem.tail _ (List.Mem.tail _ (List.Mem.tail _ (List.Mem.tail _ (List.Mem.tail _ (List.Mem.tail _ (List.Mem.head _)))))))))
  have f9 : 0 ≤ 0 + (1 * τ 1000000 + ((-1) * τ 1000003 + 0)) := hf _ (List.Mem.tail _ (List.Mem.tail _ (List.Mem.tail _ (List.Mem.tail _ (List.Mem.tail _ (List.Mem.tail _ (List.Mem.tail _ (List.Mem.tail _ (List.Mem.tail _ (List.Mem.head _))))))))))
  have f10 : 0 ≤ 0 + ((-1) * τ 1000000 + (1 * τ 1000003 + 0)) := hf _ (List.Mem.tail _ (List.Mem.tail _ (List.Mem.tail _ (List.Mem.tail _ (List.Mem.tail _ (List.Mem.tail _ (List.Mem.tail _ (List.Mem.tail _ (List.Mem.tail _ (List.Mem.tail _ (List.Mem.head _)))))))))))
  have f11 : 0 ≤ 0 + (1 * τ 1000001 + ((-1) * τ 1000002 + 0)) := hf _ (List.Mem.tail _ (List.Mem.tail _ (List.Mem.tail _ (List.Mem.tail _ (List.Mem.tail _ (List.Mem.tail _ (List.Mem.tail _ (List.Mem.tail _ (List.Mem.tail _ (List.Mem.tail _ (List.Mem.tail _ (List.Mem.head _))))))))))))
  have f12 : 0 ≤ 0 + ((-1) * τ 1000001 + (1 * τ 1000002 + 0)) := hf _ (List.Mem.tail _ (List.Mem.tail _ (List.Mem.tail _ (List.Mem.tail _ (List.Mem.tail _ (List.Mem.tail _ (List.Mem.tail _ (List.Mem.tail _ (List.Mem.tail _ (List.Mem.tail _ (List.Mem.tail _ (List.Mem.tail _ (List.Mem.head _)))))))))))))
  have f13 : 0 ≤ (-1) + (1 * τ 19001 + ((-1) * τ 19002 + 0)) := hf _ (List.Mem.tail _ (List.Mem.tail _ (List.Mem.tail _ (List.Mem.tail _ (List.Mem.tail _ (List.Mem.tail _ (List.Mem.tail _ (List.Mem.tail _ (List.Mem.tail _ (List.Mem.tail _ (List.Mem.tail _ (List.Mem.tail _ (List.Mem.tail _ (List.Mem.head _))))))))))))))
  have f14 : 0 ≤ (-1) + (1 * τ 133 + ((-1) * τ 19002 + 0)) := hf _ (List.Mem.tail _ (List.Mem.tail _ (List.Mem.tail _ (List.Mem.tail _ (List.Mem.tail _ (List.Mem.tail _ (List.Mem.tail _ (List.Mem.tail _ (List.Mem.tail _ (List.Mem.tail _ (List.Mem.tail _ (List.Mem.tail _ (List.Mem.tail _ (List.Mem.tail _ (List.Mem.head _)))))))))))))))
  have f15 : 0 ≤ (-1) + (1 * τ 133 + ((-1) * τ 19001 + 0)) := hf _ (List.Mem.tail _ (List.Mem.tail _ (List.Mem.tail _ (List.Mem.tail _ (List.Mem.tail _ (List.Mem.tail _ (List.Mem.tail _ (List.Mem.tail _ (List.Mem.tail _ (List.Mem.tail _ (List.Mem.tail _ (List.Mem.tail _ (List.Mem.tail _ (List.Mem.tail _ (List.Mem.tail _ (List.Mem.head _))))))))))))))))
  have m134 : σ' 134 = 1 + (1 * τ 134 + 0) := hm 134 (by decide)
  clear hf hm
  exact Or.inl ⟨by omega, ⟨by omega, by omega, by omega, by omega, by omega, by omega⟩, by omega⟩
theorem lw_mwx_181 {as : List rv_A} {σ σ' : Nat → Int} {o : rv_O} {x : Int32} {a1 a2 : Int} {τ : Nat → Int} (hx : o.1 = some (.inl x)) (h1 : lw_av as 1 = a1) (h2 : lw_av as 2 = a2) (hb : ∀ s, (sx_sr s).1 ≤ σ s ∧ σ s ≤ (sx_sr s).2) (hW : lw_W ([(18549, 64, 255), (18550, 32, 255), (18590, 32, 255), (18593, 64, 255)], [(0, [(18549, (-1)), (1000000, 1)]), (0, [(18550, (-1)), (1000001, 1)]), ((-1), [(133, 1)]), (11, [(134, (-1))]), ((-6), [(19001, 1)]), (6, [(19001, (-1))]), ((-5), [(19002, 1)]), (5, [(19002, (-1))]), ((-1), [(19003, 1)]), (0, [(1000000, 1), (1000003, (-1))]), (0, [(1000000, (-1)), (1000003, 1)]), (0, [(1000001, 1), (1000002, (-1))]), (0, [(1000001, (-1)), (1000002, 1)]), ((-1), [(19001, (-1)), (19002, 1)]), ((-1), [(133, 1), (19002, (-1))]), ((-1), [(133, 1), (19001, (-1))])], [(9, (0, [])), (134, (1, [(134, 1)])), (7048, ((-2), [])), (7049, ((-2), [])), (8069, (0, [])), (11396, ((-2), [])), (18549, (0, [(1000000, 1)])), (18550, (0, [(1000001, 1)])), (18588, (0, [(18550, 1)])), (18589, (32, [])), (18590, (0, [(1000002, 1)])), (18591, (0, [(18549, 1)])), (18592, (64, [])), (18593, (0, [(1000003, 1)])), (18594, (2, []))], some (false, (1, []))) as σ σ' τ o) : lw_mwx_C a1 a2 x.toInt σ σ' := by
  unfold lw_mwx_C
  have b133 : 0 ≤ σ 133 ∧ σ 133 ≤ 8 := by
    have h0 := hb 133
    rw [show sx_sr 133 = (0, 8) from by decide +kernel] at h0
    exact h0
  have b134 : 0 ≤ σ 134 ∧ σ 134 ≤ 12 := by
    have h0 := hb 134
    rw [show sx_sr 134 = (0, 12) from by decide +kernel] at h0
    exact h0
  obtain ⟨hs, ht, hf, hr, hm, hw⟩ := hW
  have e1 : τ 19001 = a1 := by rw [ht 19001 (by decide) (by decide)]; exact h1
  have e2 : τ 19002 = a2 := by rw [ht 19002 (by decide) (by decide)]; exact h2
  have s133 : τ 133 = σ 133 := hs 133 (by decide)
  have s134 : τ 134 = σ 134 := hs 134 (by decide)
  clear hs ht hb
  rw [hx] at hr
  obtain ⟨y, hy, hv⟩ := hr
  cases hy
  replace hv : x.toInt = 1 + 0 := hv
  have f0 : 0 ≤ 0 + ((-1) * τ 18549 + (1 * τ 1000000 + 0)) := hf _ (List.Mem.head _)
  have f1 : 0 ≤ 0 + ((-1) * τ 18550 + (1 * τ 1000001 + 0)) := hf _ (List.Mem.tail _ (List.Mem.head _))
  have f2 : 0 ≤ (-1) + (1 * τ 133 + 0) := hf _ (List.Mem.tail _ (List.Mem.tail _ (List.Mem.head _)))
  have f3 : 0 ≤ 11 + ((-1) * τ 134 + 0) := hf _ (List.Mem.tail _ (List.Mem.tail _ (List.Mem.tail _ (List.Mem.head _))))
  have f4 : 0 ≤ (-6) + (1 * τ 19001 + 0) := hf _ (List.Mem.tail _ (List.Mem.tail _ (List.Mem.tail _ (List.Mem.tail _ (List.Mem.head _)))))
  have f5 : 0 ≤ 6 + ((-1) * τ 19001 + 0) := hf _ (List.Mem.tail _ (List.Mem.tail _ (List.Mem.tail _ (List.Mem.tail _ (List.Mem.tail _ (List.Mem.head _))))))
  have f6 : 0 ≤ (-5) + (1 * τ 19002 + 0) := hf _ (List.Mem.tail _ (List.Mem.tail _ (List.Mem.tail _ (List.Mem.tail _ (List.Mem.tail _ (List.Mem.tail _ (List.Mem.head _)))))))
  have f7 : 0 ≤ 5 + ((-1) * τ 19002 + 0) := hf _ (List.Mem.tail _ (List.Mem.tail _ (List.Mem.tail _ (List.Mem.tail _ (List.Mem.tail _ (List.Mem.tail _ (List.Mem.tail _ (List.Mem.head _))))))))
  have f8 : 0 ≤ (-1) + (1 * τ 19003 + 0) := hf _ (List.Mem.tail _ (List.Mem.tail _ (List.Mem.tail _ (List.Mem.tail _ (List.Mem.tail _ (List.Mem.tail _ (List.Mem.tail _ (List.Mem.tail _ (List.Mem.head _)))))))))
  have f9 : 0 ≤ 0 + (1 * τ 1000000 + ((-1) * τ 1000003 + 0)) := hf _ (List.Mem.tail _ (List.Mem.tail _ (List.Mem.tail _ (List.Mem.tail _ (List.Mem.tail _ (List.Mem.tail _ (List.Mem.tail _ (List.Mem.tail _ (List.Mem.tail _ (List.Mem.head _))))))))))
  have f10 : 0 ≤ 0 + ((-1) * τ 1000000 + (1 * τ 1000003 + 0)) := hf _ (List.Mem.tail _ (List.Mem.tail _ (List.Mem.tail _ (List.Mem.tail _ (List.Mem.tail _ (List.Mem.tail _ (List.Mem.tail _ (List.Mem.tail _ (List.Mem.tail _ (List.Mem.tail _ (List.Mem.head _)))))))))))
  have f11 : 0 ≤ 0 + (1 * τ 1000001 + ((-1) * τ 1000002 + 0)) := hf _ (List.Mem.tail _ (List.Mem.tail _ (List.Mem.tail _ (List.Mem.tail _ (List.Mem.tail _ (List.Mem.tail _ (List.Mem.tail _ (List.Mem.tail _ (List.Mem.tail _ (List.Mem.tail _ (List.Mem.tail _ (List.Mem.head _))))))))))))
  have f12 : 0 ≤ 0 + ((-1) * τ 1000001 + (1 * τ 1000002 + 0)) := hf _ (List.Mem.tail _ (List.Mem.tail _ (List.Mem.tail _ (List.Mem.tail _ (List.Mem.tail _ (List.Mem.tail _ (List.Mem.tail _ (List.Mem.tail _ (List.Mem.tail _ (List.Mem.tail _ (List.Mem.tail _ (List.Mem.tail _ (List.Mem.head _)))))))))))))
  have f13 : 0 ≤ (-1) + ((-1) * τ 19001 + (1 * τ 19002 + 0)) := hf _ (List.Mem.tail _ (List.Mem.tail _ (List.Mem.tail _ (List.Mem.tail _ (List.Mem.tail _ (List.Mem.tail _ (List.Mem.tail _ (List.Mem.tail _ (List.Mem.tail _ (List.Mem.tail _ (List.Mem.tail _ (List.Mem.tail _ (List.Mem.tail _ (List.Mem.head _))))))))))))))
  have f14 : 0 ≤ (-1) + (1 * τ 133 + ((-1) * τ 19002 + 0)) := hf _ (List.Mem.tail _ (List.Mem.tail _ (List.Mem.tail _ (List.Mem.tail _ (List.Mem.tail _ (List.Mem.tail _ (List.Mem.tail _ (List.Mem.tail _ (List.Mem.tail _ (List.Mem.tail _ (List.Mem.tail _ (List.Mem.tail _ (List.Mem.tail _ (List.Mem.tail _ (List.Mem.head _)))))))))))))))
  have f15 : 0 ≤ (-1) + (1 * τ 133 + ((-1) * τ 19001 + 0)) := hf _ (List.Mem.tail _ (List.Mem.tail _ (List.Mem.tail _ (List.Mem.tail _ (List.Mem.tail _ (List.Mem.tail _ (List.Mem.tail _ (List.Mem.tail _ (List.Mem.tail _ (List.Mem.tail _ (List.Mem.tail _ (List.Mem.tail _ (List.Mem.tail _ (List.Mem.tail _ (List.Mem.tail _ (List.Mem.head _))))))))))))))))
  have m134 : σ' 134 = 1 + (1 * τ 134 + 0) := hm 134 (by decide)
  clear hf hm
  exact Or.inl ⟨by omega, ⟨by omega, by omega, by omega, by omega, by omega, by omega⟩, by omega⟩
theorem lw_mwx_182 {as : List rv_A} {σ σ' : Nat → Int} {o : rv_O} {x : Int32} {a1 a2 : Int} {τ : Nat → Int} (hx : o.1 = some (.inl x)) (h1 : lw_av as 1 = a1) (h2 : lw_av as 2 = a2) (hb : ∀ s, (sx_sr s).1 ≤ σ s ∧ σ s ≤ (sx_sr s).2) (hW : lw_W ([(18549, 64, 255), (18550, 32, 255), (18590, 32, 255), (18593, 64, 255)], [(0, [(18549, (-1)), (1000000, 1)]), (0, [(18550, (-1)), (1000001, 1)]), ((-1), [(133, 1)]), (11, [(134, (-1))]), ((-6), [(19001, 1)]), (6, [(19001, (-1))]), ((-5), [(19002, 1)]), (5, [(19002, (-1))]), ((-1), [(19003, 1)]), (0, [(1000000, 1), (1000003, (-1))]), (0, [(1000000, (-1)), (1000003, 1)]), (0, [(1000001, 1), (1000002, (-1))]), (0, [(1000001, (-1)), (1000002, 1)]), ((-1), [(19001, 1), (19002, (-1))]), ((-1), [(133, 1), (19002, (-1))]), ((-1), [(133, 1), (19001, (-1))])], [(9, (0, [])), (134, (1, [(134, 1)])), (7048, ((-2), [])), (7049, ((-2), [])), (8069, (0, [])), (11396, ((-2), [])), (18549, (0, [(1000000, 1)])), (18550, (0, [(1000001, 1)])), (18588, (0, [(18550, 1)])), (18589, (32, [])), (18590, (0, [(1000002, 1)])), (18591, (0, [(18549, 1)])), (18592, (64, [])), (18593, (0, [(1000003, 1)])), (18594, (2, []))], some (false, (1, []))) as σ σ' τ o) : lw_mwx_C a1 a2 x.toInt σ σ' := by
  unfold lw_mwx_C
  have b133 : 0 ≤ σ 133 ∧ σ 133 ≤ 8 := by
    have h0 := hb 133
    rw [show sx_sr 133 = (0, 8) from by decide +kernel] at h0
    exact h0
  have b134 : 0 ≤ σ 134 ∧ σ 134 ≤ 12 := by
    have h0 := hb 134
    rw [show sx_sr 134 = (0, 12) from by decide +kernel] at h0
    exact h0
  obtain ⟨hs, ht, hf, hr, hm, hw⟩ := hW
  have e1 : τ 19001 = a1 := by rw [ht 19001 (by decide) (by decide)]; exact h1
  have e2 : τ 19002 = a2 := by rw [ht 19002 (by decide) (by decide)]; exact h2
  have s133 : τ 133 = σ 133 := hs 133 (by decide)
  have s134 : τ 134 = σ 134 := hs 134 (by decide)
  clear hs ht hb
  rw [hx] at hr
  obtain ⟨y, hy, hv⟩ := hr
  cases hy
  replace hv : x.toInt = 1 + 0 := hv
  have f0 : 0 ≤ 0 + ((-1) * τ 18549 + (1 * τ 1000000 + 0)) := hf _ (List.Mem.head _)
  have f1 : 0 ≤ 0 + ((-1) * τ 18550 + (1 * τ 1000001 + 0)) := hf _ (List.Mem.tail _ (List.Mem.head _))
  have f2 : 0 ≤ (-1) + (1 * τ 133 + 0) := hf _ (List.Mem.tail _ (List.Mem.tail _ (List.Mem.head _)))
  have f3 : 0 ≤ 11 + ((-1) * τ 134 + 0) := hf _ (List.Mem.tail _ (List.Mem.tail _ (List.Mem.tail _ (List.Mem.head _))))
  have f4 : 0 ≤ (-6) + (1 * τ 19001 + 0) := hf _ (List.Mem.tail _ (List.Mem.tail _ (List.Mem.tail _ (List.Mem.tail _ (List.Mem.head _)))))
  have f5 : 0 ≤ 6 + ((-1) * τ 19001 + 0) := hf _ (List.Mem.tail _ (List.Mem.tail _ (List.Mem.tail _ (List.Mem.tail _ (List.Mem.tail _ (List.Mem.head _))))))
  have f6 : 0 ≤ (-5) + (1 * τ 19002 + 0) := hf _ (List.Mem.tail _ (List.Mem.tail _ (List.Mem.tail _ (List.Mem.tail _ (List.Mem.tail _ (List.Mem.tail _ (List.Mem.head _)))))))
  have f7 : 0 ≤ 5 + ((-1) * τ 19002 + 0) := hf _ (List.Mem.tail _ (List.Mem.tail _ (List.Mem.tail _ (List.Mem.tail _ (List.Mem.tail _ (List.Mem.tail _ (List.Mem.tail _ (List.Mem.head _))))))))
  have f8 : 0 ≤ (-1) + (1 * τ 19003 + 0) := hf _ (List.Mem.tail _ (List.Mem.tail _ (List.Mem.tail _ (List.Mem.tail _ (List.Mem.tail _ (List.Mem.tail _ (List.Mem.tail _ (List.Mem.tail _ (List.Mem.head _)))))))))
  have f9 : 0 ≤ 0 + (1 * τ 1000000 + ((-1) * τ 1000003 + 0)) := hf _ (List.Mem.tail _ (List.Mem.tail _ (List.Mem.tail _ (List.Mem.tail _ (List.Mem.tail _ (List.Mem.tail _ (List.Mem.tail _ (List.Mem.tail _ (List.Mem.tail _ (List.Mem.head _))))))))))
  have f10 : 0 ≤ 0 + ((-1) * τ 1000000 + (1 * τ 1000003 + 0)) := hf _ (List.Mem.tail _ (List.Mem.tail _ (List.Mem.tail _ (List.Mem.tail _ (List.Mem.tail _ (List.Mem.tail _ (List.Mem.tail _ (List.Mem.tail _ (List.Mem.tail _ (List.Mem.tail _ (List.Mem.head _)))))))))))
  have f11 : 0 ≤ 0 + (1 * τ 1000001 + ((-1) * τ 1000002 + 0)) := hf _ (List.Mem.tail _ (List.Mem.tail _ (List.Mem.tail _ (List.Mem.tail _ (List.Mem.tail _ (List.Mem.tail _ (List.Mem.tail _ (List.Mem.tail _ (List.Mem.tail _ (List.Mem.tail _ (List.Mem.tail _ (List.Mem.head _))))))))))))
  have f12 : 0 ≤ 0 + ((-1) * τ 1000001 + (1 * τ 1000002 + 0)) := hf _ (List.Mem.tail _ (List.Mem.tail _ (List.Mem.tail _ (List.Mem.tail _ (List.Mem.tail _ (List.Mem.tail _ (List.Mem.tail _ (List.Mem.tail _ (List.Mem.tail _ (List.Mem.tail _ (List.Mem.tail _ (List.Mem.tail _ (List.Mem.head _)))))))))))))
  have f13 : 0 ≤ (-1) + (1 * τ 19001 + ((-1) * τ 19002 + 0)) := hf _ (List.Mem.tail _ (List.Mem.tail _ (List.Mem.tail _ (List.Mem.tail _ (List.Mem.tail _ (List.Mem.tail _ (List.Mem.tail _ (List.Mem.tail _ (List.Mem.tail _ (List.Mem.tail _ (List.Mem.tail _ (List.Mem.tail _ (List.Mem.tail _ (List.Mem.head _))))))))))))))
  have f14 : 0 ≤ (-1) + (1 * τ 133 + ((-1) * τ 19002 + 0)) := hf _ (List.Mem.tail _ (List.Mem.tail _ (List.Mem.tail _ (List.Mem.tail _ (List.Mem.tail _ (List.Mem.tail _ (List.Mem.tail _ (List.Mem.tail _ (List.Mem.tail _ (List.Mem.tail _ (List.Mem.tail _ (List.Mem.tail _ (List.Mem.tail _ (List.Mem.tail _ (List.Mem.head _)))))))))))))))
  have f15 : 0 ≤ (-1) + (1 * τ 133 + ((-1) * τ 19001 + 0)) := hf _ (List.Mem.tail _ (List.Mem.tail _ (List.Mem.tail _ (List.Mem.tail _ (List.Mem.tail _ (List.Mem.tail _ (List.Mem.tail _ (List.Mem.tail _ (List.Mem.tail _ (List.Mem.tail _ (List.Mem.tail _ (List.Mem.tail _ (List.Mem.tail _ (List.Mem.tail _ (List.Mem.tail _ (List.Mem.head _))))))))))))))))
  have m134 : σ' 134 = 1 + (1 * τ 134 + 0) := hm 134 (by decide)
  clear hf hm
  exact Or.inl ⟨by omega, ⟨by omega, by omega, by omega, by omega, by omega, by omega⟩, by omega⟩
theorem lw_mwx_183 {as : List rv_A} {σ σ' : Nat → Int} {o : rv_O} {x : Int32} {a1 a2 : Int} {τ : Nat → Int} (hx : o.1 = some (.inl x)) (h1 : lw_av as 1 = a1) (h2 : lw_av as 2 = a2) (hb : ∀ s, (sx_sr s).1 ≤ σ s ∧ σ s ≤ (sx_sr s).2) (hW : lw_W ([(18542, 64, 255), (18590, 64, 255), (18591, 64, 255), (18593, 64, 255)], [(0, [(18542, (-1)), (1000000, 1)]), ((-1), [(133, 1)]), (11, [(134, (-1))]), ((-6), [(19001, 1)]), (6, [(19001, (-1))]), ((-6), [(19002, 1)]), (6, [(19002, (-1))]), (0, [(19003, (-1))]), (0, [(1000000, 1), (1000001, (-1))]), (0, [(1000000, 1), (1000003, (-1))]), (0, [(1000000, (-1)), (1000003, 1)]), ((-1), [(19001, (-1)), (19002, 1)]), ((-1), [(133, 1), (19002, (-1))]), ((-1), [(133, 1), (19001, (-1))])], [(9, (0, [])), (134, (1, [(134, 1)])), (7048, ((-2), [])), (7049, ((-2), [])), (8069, (0, [])), (11396, ((-2), [])), (18542, (0, [(1000000, 1)])), (18588, (0, [(18542, 1)])), (18589, (64, [])), (18590, (0, [(1000001, 1)])), (18591, (0, [(1000002, 1)])), (18592, (64, [])), (18593, (0, [(1000003, 1)])), (18594, (2, []))], some (false, (1, []))) as σ σ' τ o) : lw_mwx_C a1 a2 x.toInt σ σ' := by
  unfold lw_mwx_C
  have b133 : 0 ≤ σ 133 ∧ σ 133 ≤ 8 := by
    have h0 := hb 133
    rw [show sx_sr 133 = (0, 8) from by decide +kernel] at h0
    exact h0
  have b134 : 0 ≤ σ 134 ∧ σ 134 ≤ 12 := by
    have h0 := hb 134
    rw [show sx_sr 134 = (0, 12) from by decide +kernel] at h0
    exact h0
  obtain ⟨hs, ht, hf, hr, hm, hw⟩ := hW
  have e1 : τ 19001 = a1 := by rw [ht 19001 (by decide) (by decide)]; exact h1
  have e2 : τ 19002 = a2 := by rw [ht 19002 (by decide) (by decide)]; exact h2
  have s133 : τ 133 = σ 133 := hs 133 (by decide)
  have s134 : τ 134 = σ 134 := hs 134 (by decide)
  clear hs ht hb
  rw [hx] at hr
  obtain ⟨y, hy, hv⟩ := hr
  cases hy
  replace hv : x.toInt = 1 + 0 := hv
  have f0 : 0 ≤ 0 + ((-1) * τ 18542 + (1 * τ 1000000 + 0)) := hf _ (List.Mem.head _)
  have f1 : 0 ≤ (-1) + (1 * τ 133 + 0) := hf _ (List.Mem.tail _ (List.Mem.head _))
  have f2 : 0 ≤ 11 + ((-1) * τ 134 + 0) := hf _ (List.Mem.tail _ (List.Mem.tail _ (List.Mem.head _)))
  have f3 : 0 ≤ (-6) + (1 * τ 19001 + 0) := hf _ (List.Mem.tail _ (List.Mem.tail _ (List.Mem.tail _ (List.Mem.head _))))
  have f4 : 0 ≤ 6 + ((-1) * τ 19001 + 0) := hf _ (List.Mem.tail _ (List.Mem.tail _ (List.Mem.tail _ (List.Mem.tail _ (List.Mem.head _)))))
  have f5 : 0 ≤ (-6) + (1 * τ 19002 + 0) := hf _ (List.Mem.tail _ (List.Mem.tail _ (List.Mem.tail _ (List.Mem.tail _ (List.Mem.tail _ (List.Mem.head _))))))
  have f6 : 0 ≤ 6 + ((-1) * τ 19002 + 0) := hf _ (List.Mem.tail _ (List.Mem.tail _ (List.Mem.tail _ (List.Mem.tail _ (List.Mem.tail _ (List.Mem.tail _ (List.Mem.head _)))))))
  have f7 : 0 ≤ 0 + ((-1) * τ 19003 + 0) := hf _ (List.Mem.tail _ (List.Mem.tail _ (List.Mem.tail _ (List.Mem.tail _ (List.Mem.tail _ (List.Mem.tail _ (List.Mem.tail _ (List.Mem.head _))))))))
  have f8 : 0 ≤ 0 + (1 * τ 1000000 + ((-1) * τ 1000001 + 0)) := hf _ (List.Mem.tail _ (List.Mem.tail _ (List.Mem.tail _ (List.Mem.tail _ (List.Mem.tail _ (List.Mem.tail _ (List.Mem.tail _ (List.Mem.tail _ (List.Mem.head _)))))))))
  have f9 : 0 ≤ 0 + (1 * τ 1000000 + ((-1) * τ 1000003 + 0)) := hf _ (List.Mem.tail _ (List.Mem.tail _ (List.Mem.tail _ (List.Mem.tail _ (List.Mem.tail _ (List.Mem.tail _ (List.Mem.tail _ (List.Mem.tail _ (List.Mem.tail _ (List.Mem.head _))))))))))
  have f10 : 0 ≤ 0 + ((-1) * τ 1000000 + (1 * τ 1000003 + 0)) := hf _ (List.Mem.tail _ (List.Mem.tail _ (List.Mem.tail _ (List.Mem.tail _ (List.Mem.tail _ (List.Mem.tail _ (List.Mem.tail _ (List.Mem.tail _ (List.Mem.tail _ (List.Mem.tail _ (List.Mem.head _)))))))))))
  have f11 : 0 ≤ (-1) + ((-1) * τ 19001 + (1 * τ 19002 + 0)) := hf _ (List.Mem.tail _ (List.Mem.tail _ (List.Mem.tail _ (List.Mem.tail _ (List.Mem.tail _ (List.Mem.tail _ (List.Mem.tail _ (List.Mem.tail _ (List.Mem.tail _ (List.Mem.tail _ (List.Mem.tail _ (List.Mem.head _))))))))))))
  have f12 : 0 ≤ (-1) + (1 * τ 133 + ((-1) * τ 19002 + 0)) := hf _ (List.Mem.tail _ (List.Mem.tail _ (List.Mem.tail _ (List.Mem.tail _ (List.Mem.tail _ (List.Mem.tail _ (List.Mem.tail _ (List.Mem.tail _ (List.Mem.tail _ (List.Mem.tail _ (List.Mem.tail _ (List.Mem.tail _ (List.Mem.head _)))))))))))))
  have f13 : 0 ≤ (-1) + (1 * τ 133 + ((-1) * τ 19001 + 0)) := hf _ (List.Mem.tail _ (List.Mem.tail _ (List.Mem.tail _ (List.Mem.tail _ (List.Mem.tail _ (List.Mem.tail _ (List.Mem.tail _ (List.Mem.tail _ (List.Mem.tail _ (List.Mem.tail _ (List.Mem.tail _ (List.Mem.tail _ (List.Mem.tail _ (List.Mem.head _))))))))))))))
  have m134 : σ' 134 = 1 + (1 * τ 134 + 0) := hm 134 (by decide)
  clear hf hm
  exact Or.inl ⟨by omega, ⟨by omega, by omega, by omega, by omega, by omega, by omega⟩, by omega⟩
theorem lw_mwx_184 {as : List rv_A} {σ σ' : Nat → Int} {o : rv_O} {x : Int32} {a1 a2 : Int} {τ : Nat → Int} (hx : o.1 = some (.inl x)) (h1 : lw_av as 1 = a1) (h2 : lw_av as 2 = a2) (hb : ∀ s, (sx_sr s).1 ≤ σ s ∧ σ s ≤ (sx_sr s).2) (hW : lw_W ([(18542, 64, 255), (18590, 64, 255), (18591, 64, 255), (18593, 64, 255)], [(0, [(18542, (-1)), (1000000, 1)]), ((-1), [(133, 1)]), (11, [(134, (-1))]), ((-6), [(19001, 1)]), (6, [(19001, (-1))]), ((-6), [(19002, 1)]), (6, [(19002, (-1))]), (0, [(19003, (-1))]), (0, [(1000000, 1), (1000001, (-1))]), (0, [(1000000, 1), (1000003, (-1))]), (0, [(1000000, (-1)), (1000003, 1)]), ((-1), [(19001, 1), (19002, (-1))]), ((-1), [(133, 1), (19002, (-1))]), ((-1), [(133, 1), (19001, (-1))])], [(9, (0, [])), (134, (1, [(134, 1)])), (7048, ((-2), [])), (7049, ((-2), [])), (8069, (0, [])), (11396, ((-2), [])), (18542, (0, [(1000000, 1)])), (18588, (0, [(18542, 1)])), (18589, (64, [])), (18590, (0, [(1000001, 1)])), (18591, (0, [(1000002, 1)])), (18592, (64, [])), (18593, (0, [(1000003, 1)])), (18594, (2, []))], some (false, (1, []))) as σ σ' τ o) : lw_mwx_C a1 a2 x.toInt σ σ' := by
  unfold lw_mwx_C
  have b133 : 0 ≤ σ 133 ∧ σ 133 ≤ 8 := by
    have h0 := hb 133
    rw [show sx_sr 133 = (0, 8) from by decide +kernel] at h0
    exact h0
  have b134 : 0 ≤ σ 134 ∧ σ 134 ≤ 12 := by
    have h0 := hb 134
    rw [show sx_sr 134 = (0, 12) from by decide +kernel] at h0
    exact h0
  obtain ⟨hs, ht, hf, hr, hm, hw⟩ := hW
  have e1 : τ 19001 = a1 := by rw [ht 19001 (by decide) (by decide)]; exact h1
  have e2 : τ 19002 = a2 := by rw [ht 19002 (by decide) (by decide)]; exact h2
  have s133 : τ 133 = σ 133 := hs 133 (by decide)
  have s134 : τ 134 = σ 134 := hs 134 (by decide)
  clear hs ht hb
  rw [hx] at hr
  obtain ⟨y, hy, hv⟩ := hr
  cases hy
  replace hv : x.toInt = 1 + 0 := hv
  have f0 : 0 ≤ 0 + ((-1) * τ 18542 + (1 * τ 1000000 + 0)) := hf _ (List.Mem.head _)
  have f1 : 0 ≤ (-1) + (1 * τ 133 + 0) := hf _ (List.Mem.tail _ (List.Mem.head _))
  have f2 : 0 ≤ 11 + ((-1) * τ 134 + 0) := hf _ (List.Mem.tail _ (List.Mem.tail _ (List.Mem.head _)))
  have f3 : 0 ≤ (-6) + (1 * τ 19001 + 0) := hf _ (List.Mem.tail _ (List.Mem.tail _ (List.Mem.tail _ (List.Mem.head _))))
  have f4 : 0 ≤ 6 + ((-1) * τ 19001 + 0) := hf _ (List.Mem.tail _ (List.Mem.tail _ (List.Mem.tail _ (List.Mem.tail _ (List.Mem.head _)))))
  have f5 : 0 ≤ (-6) + (1 * τ 19002 + 0) := hf _ (List.Mem.tail _ (List.Mem.tail _ (List.Mem.tail _ (List.Mem.tail _ (List.Mem.tail _ (List.Mem.head _))))))
  have f6 : 0 ≤ 6 + ((-1) * τ 19002 + 0) := hf _ (List.Mem.tail _ (List.Mem.tail _ (List.Mem.tail _ (List.Mem.tail _ (List.Mem.tail _ (List.Mem.tail _ (List.Mem.head _)))))))
  have f7 : 0 ≤ 0 + ((-1) * τ 19003 + 0) := hf _ (List.Mem.tail _ (List.Mem.tail _ (List.Mem.tail _ (List.Mem.tail _ (List.Mem.tail _ (List.Mem.tail _ (List.Mem.tail _ (List.Mem.head _))))))))
  have f8 : 0 ≤ 0 + (1 * τ 1000000 + ((-1) * τ 1000001 + 0)) := hf _ (List.Mem.tail _ (List.Mem.tail _ (List.Mem.tail _ (List.Mem.tail _ (List.Mem.tail _ (List.Mem.tail _ (List.Mem.tail _ (List.Mem.tail _ (List.Mem.head _)))))))))
  have f9 : 0 ≤ 0 + (1 * τ 1000000 + ((-1) * τ 1000003 + 0)) := hf _ (List.Mem.tail _ (List.Mem.tail _ (List.Mem.tail _ (List.Mem.tail _ (List.Mem.tail _ (List.Mem.tail _ (List.Mem.tail _ (List.Mem.tail _ (List.Mem.tail _ (List.Mem.head _))))))))))
  have f10 : 0 ≤ 0 + ((-1) * τ 1000000 + (1 * τ 1000003 + 0)) := hf _ (List.Mem.tail _ (List.Mem.tail _ (List.Mem.tail _ (List.Mem.tail _ (List.Mem.tail _ (List.Mem.tail _ (List.Mem.tail _ (List.Mem.tail _ (List.Mem.tail _ (List.Mem.tail _ (List.Mem.head _)))))))))))
  have f11 : 0 ≤ (-1) + (1 * τ 19001 + ((-1) * τ 19002 + 0)) := hf _ (List.Mem.tail _ (List.Mem.tail _ (List.Mem.tail _ (List.Mem.tail _ (List.Mem.tail _ (List.Mem.tail _ (List.Mem.tail _ (List.Mem.tail _ (List.Mem.tail _ (List.Mem.tail _ (List.Mem.tail _ (List.Mem.head _))))))))))))
  have f12 : 0 ≤ (-1) + (1 * τ 133 + ((-1) * τ 19002 + 0)) := hf _ (List.Mem.tail _ (List.Mem.tail _ (List.Mem.tail _ (List.Mem.tail _ (List.Mem.tail _ (List.Mem.tail _ (List.Mem.tail _ (List.Mem.tail _ (List.Mem.tail _ (List.Mem.tail _ (List.Mem.tail _ (List.Mem.tail _ (List.Mem.head _)))))))))))))
  have f13 : 0 ≤ (-1) + (1 * τ 133 + ((-1) * τ 19001 + 0)) := hf _ (List.Mem.tail _ (List.Mem.tail _ (List.Mem.tail _ (List.Mem.tail _ (List.Mem.tail _ (List.Mem.tail _ (List.Mem.tail _ (List.Mem.tail _ (List.Mem.tail _ (List.Mem.tail _ (List.Mem.tail _ (List.Mem.tail _ (List.Mem.tail _ (List.Mem.head _))))))))))))))
  have m134 : σ' 134 = 1 + (1 * τ 134 + 0) := hm 134 (by decide)
  clear hf hm
  exact Or.inl ⟨by omega, ⟨by omega, by omega, by omega, by omega, by omega, by omega⟩, by omega⟩
theorem lw_mwx_185 {as : List rv_A} {σ σ' : Nat → Int} {o : rv_O} {x : Int32} {a1 a2 : Int} {τ : Nat → Int} (hx : o.1 = some (.inl x)) (h1 : lw_av as 1 = a1) (h2 : lw_av as 2 = a2) (hb : ∀ s, (sx_sr s).1 ≤ σ s ∧ σ s ≤ (sx_sr s).2) (hW : lw_W ([(18550, 64, 255), (18590, 64, 255), (18591, 64, 255), (18593, 64, 255)], [(0, [(18550, (-1)), (1000000, 1)]), ((-1), [(133, 1)]), (11, [(134, (-1))]), ((-6), [(19001, 1)]), (6, [(19001, (-1))]), ((-6), [(19002, 1)]), (6, [(19002, (-1))]), ((-1), [(19003, 1)]), (0, [(1000000, 1), (1000001, (-1))]), (0, [(1000000, 1), (1000003, (-1))]), (0, [(1000000, (-1)), (1000003, 1)]), ((-1), [(19001, (-1)), (19002, 1)]), ((-1), [(133, 1), (19002, (-1))]), ((-1), [(133, 1), (19001, (-1))])], [(9, (0, [])), (134, (1, [(134, 1)])), (7048, ((-2), [])), (7049, ((-2), [])), (8069, (0, [])), (11396, ((-2), [])), (18550, (0, [(1000000, 1)])), (18588, (0, [(18550, 1)])), (18589, (64, [])), (18590, (0, [(1000001, 1)])), (18591, (0, [(1000002, 1)])), (18592, (64, [])), (18593, (0, [(1000003, 1)])), (18594, (2, []))], some (false, (1, []))) as σ σ' τ o) : lw_mwx_C a1 a2 x.toInt σ σ' := by
  unfold lw_mwx_C
  have b133 : 0 ≤ σ 133 ∧ σ 133 ≤ 8 := by
    have h0 := hb 133
    rw [show sx_sr 133 = (0, 8) from by decide +kernel] at h0
    exact h0
  have b134 : 0 ≤ σ 134 ∧ σ 134 ≤ 12 := by
    have h0 := hb 134
    rw [show sx_sr 134 = (0, 12) from by decide +kernel] at h0
    exact h0
  obtain ⟨hs, ht, hf, hr, hm, hw⟩ := hW
  have e1 : τ 19001 = a1 := by rw [ht 19001 (by decide) (by decide)]; exact h1
  have e2 : τ 19002 = a2 := by rw [ht 19002 (by decide) (by decide)]; exact h2
  have s133 : τ 133 = σ 133 := hs 133 (by decide)
  have s134 : τ 134 = σ 134 := hs 134 (by decide)
  clear hs ht hb
  rw [hx] at hr
  obtain ⟨y, hy, hv⟩ := hr
  cases hy
  replace hv : x.toInt = 1 + 0 := hv
  have f0 : 0 ≤ 0 + ((-1) * τ 18550 + (1 * τ 1000000 + 0)) := hf _ (List.Mem.head _)
  have f1 : 0 ≤ (-1) + (1 * τ 133 + 0) := hf _ (List.Mem.tail _ (List.Mem.head _))
  have f2 : 0 ≤ 11 + ((-1) * τ 134 + 0) := hf _ (List.Mem.tail _ (List.Mem.tail _ (List.Mem.head _)))
  have f3 : 0 ≤ (-6) + (1 * τ 19001 + 0) := hf _ (List.Mem.tail _ (List.Mem.tail _ (List.Mem.tail _ (List.Mem.head _))))
  have f4 : 0 ≤ 6 + ((-1) * τ 19001 + 0) := hf _ (List.Mem.tail _ (List.Mem.tail _ (List.Mem.tail _ (List.Mem.tail _ (List.Mem.head _)))))
  have f5 : 0 ≤ (-6) + (1 * τ 19002 + 0) := hf _ (List.Mem.tail _ (List.Mem.tail _ (List.Mem.tail _ (List.Mem.tail _ (List.Mem.tail _ (List.Mem.head _))))))
  have f6 : 0 ≤ 6 + ((-1) * τ 19002 + 0) := hf _ (List.Mem.tail _ (List.Mem.tail _ (List.Mem.tail _ (List.Mem.tail _ (List.Mem.tail _ (List.Mem.tail _ (List.Mem.head _)))))))
  have f7 : 0 ≤ (-1) + (1 * τ 19003 + 0) := hf _ (List.Mem.tail _ (List.Mem.tail _ (List.Mem.tail _ (List.Mem.tail _ (List.Mem.tail _ (List.Mem.tail _ (List.Mem.tail _ (List.Mem.head _))))))))
  have f8 : 0 ≤ 0 + (1 * τ 1000000 + ((-1) * τ 1000001 + 0)) := hf _ (List.Mem.tail _ (List.Mem.tail _ (List.Mem.tail _ (List.Mem.tail _ (List.Mem.tail _ (List.Mem.tail _ (List.Mem.tail _ (List.Mem.tail _ (List.Mem.head _)))))))))
  have f9 : 0 ≤ 0 + (1 * τ 1000000 + ((-1) * τ 1000003 + 0)) := hf _ (List.Mem.tail _ (List.Mem.tail _ (List.Mem.tail _ (List.Mem.tail _ (List.Mem.tail _ (List.Mem.tail _ (List.Mem.tail _ (List.Mem.tail _ (List.Mem.tail _ (List.Mem.head _))))))))))
  have f10 : 0 ≤ 0 + ((-1) * τ 1000000 + (1 * τ 1000003 + 0)) := hf _ (List.Mem.tail _ (List.Mem.tail _ (List.Mem.tail _ (List.Mem.tail _ (List.Mem.tail _ (List.Mem.tail _ (List.Mem.tail _ (List.Mem.tail _ (List.Mem.tail _ (List.Mem.tail _ (List.Mem.head _)))))))))))
  have f11 : 0 ≤ (-1) + ((-1) * τ 19001 + (1 * τ 19002 + 0)) := hf _ (List.Mem.tail _ (List.Mem.tail _ (List.Mem.tail _ (List.Mem.tail _ (List.Mem.tail _ (List.Mem.tail _ (List.Mem.tail _ (List.Mem.tail _ (List.Mem.tail _ (List.Mem.tail _ (List.Mem.tail _ (List.Mem.head _))))))))))))
  have f12 : 0 ≤ (-1) + (1 * τ 133 + ((-1) * τ 19002 + 0)) := hf _ (List.Mem.tail _ (List.Mem.tail _ (List.Mem.tail _ (List.Mem.tail _ (List.Mem.tail _ (List.Mem.tail _ (List.Mem.tail _ (List.Mem.tail _ (List.Mem.tail _ (List.Mem.tail _ (List.Mem.tail _ (List.Mem.tail _ (List.Mem.head _)))))))))))))
  have f13 : 0 ≤ (-1) + (1 * τ 133 + ((-1) * τ 19001 + 0)) := hf _ (List.Mem.tail _ (List.Mem.tail _ (List.Mem.tail _ (List.Mem.tail _ (List.Mem.tail _ (List.Mem.tail _ (List.Mem.tail _ (List.Mem.tail _ (List.Mem.tail _ (List.Mem.tail _ (List.Mem.tail _ (List.Mem.tail _ (List.Mem.tail _ (List.Mem.head _))))))))))))))
  have m134 : σ' 134 = 1 + (1 * τ 134 + 0) := hm 134 (by decide)
  clear hf hm
  exact Or.inl ⟨by omega, ⟨by omega, by omega, by omega, by omega, by omega, by omega⟩, by omega⟩
theorem lw_mwx_186 {as : List rv_A} {σ σ' : Nat → Int} {o : rv_O} {x : Int32} {a1 a2 : Int} {τ : Nat → Int} (hx : o.1 = some (.inl x)) (h1 : lw_av as 1 = a1) (h2 : lw_av as 2 = a2) (hb : ∀ s, (sx_sr s).1 ≤ σ s ∧ σ s ≤ (sx_sr s).2) (hW : lw_W ([(18550, 64, 255), (18590, 64, 255), (18591, 64, 255), (18593, 64, 255)], [(0, [(18550, (-1)), (1000000, 1)]), ((-1), [(133, 1)]), (11, [(134, (-1))]), ((-6), [(19001, 1)]), (6, [(19001, (-1))]), ((-6), [(19002, 1)]), (6, [(19002, (-1))]), ((-1), [(19003, 1)]), (0, [(1000000, 1), (1000001, (-1))]), (0, [(1000000, 1), (1000003, (-1))]), (0, [(1000000, (-1)), (1000003, 1)]), ((-1), [(19001, 1), (19002, (-1))]), ((-1), [(133, 1), (19002, (-1))]), ((-1), [(133, 1), (19001, (-1))])], [(9, (0, [])), (134, (1, [(134, 1)])), (7048, ((-2), [])), (7049, ((-2), [])), (8069, (0, [])), (11396, ((-2), [])), (18550, (0, [(1000000, 1)])), (18588, (0, [(18550, 1)])), (18589, (64, [])), (18590, (0, [(1000001, 1)])), (18591, (0, [(1000002, 1)])), (18592, (64, [])), (18593, (0, [(1000003, 1)])), (18594, (2, []))], some (false, (1, []))) as σ σ' τ o) : lw_mwx_C a1 a2 x.toInt σ σ' := by
  unfold lw_mwx_C
  have b133 : 0 ≤ σ 133 ∧ σ 133 ≤ 8 := by
    have h0 := hb 133
    rw [show sx_sr 133 = (0, 8) from by decide +kernel] at h0
    exact h0
  have b134 : 0 ≤ σ 134 ∧ σ 134 ≤ 12 := by
    have h0 := hb 134
    rw [show sx_sr 134 = (0, 12) from by decide +kernel] at h0
    exact h0
  obtain ⟨hs, ht, hf, hr, hm, hw⟩ := hW
  have e1 : τ 19001 = a1 := by rw [ht 19001 (by decide) (by decide)]; exact h1
  have e2 : τ 19002 = a2 := by rw [ht 19002 (by decide) (by decide)]; exact h2
  have s133 : τ 133 = σ 133 := hs 133 (by decide)
  have s134 : τ 134 = σ 134 := hs 134 (by decide)
  clear hs ht hb
  rw [hx] at hr
  obtain ⟨y, hy, hv⟩ := hr
  cases hy
  replace hv : x.toInt = 1 + 0 := hv
  have f0 : 0 ≤ 0 + ((-1) * τ 18550 + (1 * τ 1000000 + 0)) := hf _ (List.Mem.head _)
  have f1 : 0 ≤ (-1) + (1 * τ 133 + 0) := hf _ (List.Mem.tail _ (List.Mem.head _))
  have f2 : 0 ≤ 11 + ((-1) * τ 134 + 0) := hf _ (List.Mem.tail _ (List.Mem.tail _ (List.Mem.head _)))
  have f3 : 0 ≤ (-6) + (1 * τ 19001 + 0) := hf _ (List.Mem.tail _ (List.Mem.tail _ (List.Mem.tail _ (List.Mem.head _))))
  have f4 : 0 ≤ 6 + ((-1) * τ 19001 + 0) := hf _ (List.Mem.tail _ (List.Mem.tail _ (List.Mem.tail _ (List.Mem.tail _ (List.Mem.head _)))))
  have f5 : 0 ≤ (-6) + (1 * τ 19002 + 0) := hf _ (List.Mem.tail _ (List.Mem.tail _ (List.Mem.tail _ (List.Mem.tail _ (List.Mem.tail _ (List.Mem.head _))))))
  have f6 : 0 ≤ 6 + ((-1) * τ 19002 + 0) := hf _ (List.Mem.tail _ (List.Mem.tail _ (List.Mem.tail _ (List.Mem.tail _ (List.Mem.tail _ (List.Mem.tail _ (List.Mem.head _)))))))
  have f7 : 0 ≤ (-1) + (1 * τ 19003 + 0) := hf _ (List.Mem.tail _ (List.Mem.tail _ (List.Mem.tail _ (List.Mem.tail _ (List.Mem.tail _ (List.Mem.tail _ (List.Mem.tail _ (List.Mem.head _))))))))
  have f8 : 0 ≤ 0 + (1 * τ 1000000 + ((-1) * τ 1000001 + 0)) := hf _ (List.Mem.tail _ (List.Mem.tail _ (List.Mem.tail _ (List.Mem.tail _ (List.Mem.tail _ (List.Mem.tail _ (List.Mem.tail _ (List.Mem.tail _ (List.Mem.head _)))))))))
  have f9 : 0 ≤ 0 + (1 * τ 1000000 + ((-1) * τ 1000003 + 0)) := hf _ (List.Mem.tail _ (List.Mem.tail _ (List.Mem.tail _ (List.Mem.tail _ (List.Mem.tail _ (List.Mem.tail _ (List.Mem.tail _ (List.Mem.tail _ (List.Mem.tail _ (List.Mem.head _))))))))))
  have f10 : 0 ≤ 0 + ((-1) * τ 1000000 + (1 * τ 1000003 + 0)) := hf _ (List.Mem.tail _ (List.Mem.tail _ (List.Mem.tail _ (List.Mem.tail _ (List.Mem.tail _ (List.Mem.tail _ (List.Mem.tail _ (List.Mem.tail _ (List.Mem.tail _ (List.Mem.tail _ (List.Mem.head _)))))))))))
  have f11 : 0 ≤ (-1) + (1 * τ 19001 + ((-1) * τ 19002 + 0)) := hf _ (List.Mem.tail _ (List.Mem.tail _ (List.Mem.tail _ (List.Mem.tail _ (List.Mem.tail _ (List.Mem.tail _ (List.Mem.tail _ (List.Mem.tail _ (List.Mem.tail _ (List.Mem.tail _ (List.Mem.tail _ (List.Mem.head _))))))))))))
  have f12 : 0 ≤ (-1) + (1 * τ 133 + ((-1) * τ 19002 + 0)) := hf _ (List.Mem.tail _ (List.Mem.tail _ (List.Mem.tail _ (List.Mem.tail _ (List.Mem.tail _ (List.Mem.tail _ (List.Mem.tail _ (List.Mem.tail _ (List.Mem.tail _ (List.Mem.tail _ (List.Mem.tail _ (List.Mem.tail _ (List.Mem.head _)))))))))))))
  have f13 : 0 ≤ (-1) + (1 * τ 133 + ((-1) * τ 19001 + 0)) := hf _ (List.Mem.tail _ (List.Mem.tail _ (List.Mem.tail _ (List.Mem.tail _ (List.Mem.tail _ (List.Mem.tail _ (List.Mem.tail _ (List.Mem.tail _ (List.Mem.tail _ (List.Mem.tail _ (List.Mem.tail _ (List.Mem.tail _ (List.Mem.tail _ (List.Mem.head _))))))))))))))
  have m134 : σ' 134 = 1 + (1 * τ 134 + 0) := hm 134 (by decide)
  clear hf hm
  exact Or.inl ⟨by omega, ⟨by omega, by omega, by omega, by omega, by omega, by omega⟩, by omega⟩
theorem lw_mwx_187 {as : List rv_A} {σ σ' : Nat → Int} {o : rv_O} {x : Int32} {a1 a2 : Int} {τ : Nat → Int} (hx : o.1 = some (.inl x)) (h1 : lw_av as 1 = a1) (h2 : lw_av as 2 = a2) (hb : ∀ s, (sx_sr s).1 ≤ σ s ∧ σ s ≤ (sx_sr s).2) (hW : lw_W ([(18542, 128, 255), (18543, 64, 255), (18590, 128, 255), (18593, 64, 255)], [(0, [(18542, (-1)), (1000000, 1)]), (0, [(18543, (-1)), (1000001, 1)]), ((-1), [(133, 1)]), (11, [(134, (-1))]), ((-6), [(19001, 1)]), (6, [(19001, (-1))]), ((-7), [(19002, 1)]), (7, [(19002, (-1))]), (0, [(19003, (-1))]), (0, [(1000000, 1), (1000002, (-1))]), (0, [(1000000, (-1)), (1000002, 1)]), (0, [(1000001, 1), (1000003, (-1))]), (0, [(1000001, (-1)), (1000003, 1)]), ((-1), [(19001, (-1)), (19002, 1)]), ((-1), [(133, 1), (19002, (-1))]), ((-1), [(133, 1), (19001, (-1))])], [(9, (0, [])), (134, (1, [(134, 1)])), (7048, ((-2), [])), (7049, ((-2), [])), (8069, (0, [])), (11396, ((-2), [])), (18542, (0, [(1000000, 1)])), (18543, (0, [(1000001, 1)])), (18588, (0, [(18542, 1)])), (18589, (128, [])), (18590, (0, [(1000002, 1)])), (18591, (0, [(18543, 1)])), (18592, (64, [])), (18593, (0, [(1000003, 1)])), (18594, (2, []))], some (false, (1, []))) as σ σ' τ o) : lw_mwx_C a1 a2 x.toInt σ σ' := by
  unfold lw_mwx_C
  have b133 : 0 ≤ σ 133 ∧ σ 133 ≤ 8 := by
    have h0 := hb 133
    rw [show sx_sr 133 = (0, 8) from by decide +kernel] at h0
    exact h0
  have b134 : 0 ≤ σ 134 ∧ σ 134 ≤ 12 := by
    have h0 := hb 134
    rw [show sx_sr 134 = (0, 12) from by decide +kernel] at h0
    exact h0
  obtain ⟨hs, ht, hf, hr, hm, hw⟩ := hW
  have e1 : τ 19001 = a1 := by rw [ht 19001 (by decide) (by decide)]; exact h1
  have e2 : τ 19002 = a2 := by rw [ht 19002 (by decide) (by decide)]; exact h2
  have s133 : τ 133 = σ 133 := hs 133 (by decide)
  have s134 : τ 134 = σ 134 := hs 134 (by decide)
  clear hs ht hb
  rw [hx] at hr
  obtain ⟨y, hy, hv⟩ := hr
  cases hy
  replace hv : x.toInt = 1 + 0 := hv
  have f0 : 0 ≤ 0 + ((-1) * τ 18542 + (1 * τ 1000000 + 0)) := hf _ (List.Mem.head _)
  have f1 : 0 ≤ 0 + ((-1) * τ 18543 + (1 * τ 1000001 + 0)) := hf _ (List.Mem.tail _ (List.Mem.head _))
  have f2 : 0 ≤ (-1) + (1 * τ 133 + 0) := hf _ (List.Mem.tail _ (List.Mem.tail _ (List.Mem.head _)))
  have f3 : 0 ≤ 11 + ((-1) * τ 134 + 0) := hf _ (List.Mem.tail _ (List.Mem.tail _ (List.Mem.tail _ (List.Mem.head _))))
  have f4 : 0 ≤ (-6) + (1 * τ 19001 + 0) := hf _ (List.Mem.tail _ (List.Mem.tail _ (List.Mem.tail _ (List.Mem.tail _ (List.Mem.head _)))))
  have f5 : 0 ≤ 6 + ((-1) * τ 19001 + 0) := hf _ (List.Mem.tail _ (List.Mem.tail _ (List.Mem.tail _ (List.Mem.tail _ (List.Mem.tail _ (List.Mem.head _))))))
  have f6 : 0 ≤ (-7) + (1 * τ 19002 + 0) := hf _ (List.Mem.tail _ (List.Mem.tail _ (List.Mem.tail _ (List.Mem.tail _ (List.Mem.tail _ (List.Mem.tail _ (List.Mem.head _)))))))
  have f7 : 0 ≤ 7 + ((-1) * τ 19002 + 0) := hf _ (List.Mem.tail _ (List.Mem.tail _ (List.Mem.tail _ (List.Mem.tail _ (List.Mem.tail _ (List.Mem.tail _ (List.Mem.tail _ (List.Mem.head _))))))))
  have f8 : 0 ≤ 0 + ((-1) * τ 19003 + 0) := hf _ (List.Mem.tail _ (List.Mem.tail _ (List.Mem.tail _ (List.Mem.tail _ (List.Mem.tail _ (List.Mem.tail _ (List.Mem.tail _ (List.Mem.tail _ (List.Mem.head _)))))))))
  have f9 : 0 ≤ 0 + (1 * τ 1000000 + ((-1) * τ 1000002 + 0)) := hf _ (List.Mem.tail _ (List.Mem.tail _ (List.Mem.tail _ (List.Mem.tail _ (List.Mem.tail _ (List.Mem.tail _ (List.Mem.tail _ (List.Mem.tail _ (List.Mem.tail _ (List.Mem.head _))))))))))
  have f10 : 0 ≤ 0 + ((-1) * τ 1000000 + (1 * τ 1000002 + 0)) := hf _ (List.Mem.tail _ (List.Mem.tail _ (List.Mem.tail _ (List.Mem.tail _ (List.Mem.tail _ (List.Mem.tail _ (List.Mem.tail _ (List.Mem.tail _ (List.Mem.tail _ (List.Mem.tail _ (List.Mem.head _)))))))))))
  have f11 : 0 ≤ 0 + (1 * τ 1000001 + ((-1) * τ 1000003 + 0)) := hf _ (List.Mem.tail _ (List.Mem.tail _ (List.Mem.tail _ (List.Mem.tail _ (List.Mem.tail _ (List.Mem.tail _ (List.Mem.tail _ (List.Mem.tail _ (List.Mem.tail _ (List.Mem.tail _ (List.Mem.tail _ (List.Mem.head _))))))))))))
  have f12 : 0 ≤ 0 + ((-1) * τ 1000001 + (1 * τ 1000003 + 0)) := hf _ (List.Mem.tail _ (List.Mem.tail _ (List.Mem.tail _ (List.Mem.tail _ (List.Mem.tail _ (List.Mem.tail _ (List.Mem.tail _ (List.Mem.tail _ (List.Mem.tail _ (List.Mem.tail _ (List.Mem.tail _ (List.Mem.tail _ (List.Mem.head _)))))))))))))
  have f13 : 0 ≤ (-1) + ((-1) * τ 19001 + (1 * τ 19002 + 0)) := hf _ (List.Mem.tail _ (List.Mem.tail _ (List.Mem.tail _ (List.Mem.tail _ (List.Mem.tail _ (List.Mem.tail _ (List.Mem.tail _ (List.Mem.tail _ (List.Mem.tail _ (List.Mem.tail _ (List.Mem.tail _ (List.Mem.tail _ (List.Mem.tail _ (List.Mem.head _))))))))))))))
  have f14 : 0 ≤ (-1) + (1 * τ 133 + ((-1) * τ 19002 + 0)) := hf _ (List.Mem.tail _ (List.Mem.tail _ (List.Mem.tail _ (List.Mem.tail _ (List.Mem.tail _ (List.Mem.tail _ (List.Mem.tail _ (List.Mem.tail _ (List.Mem.tail _ (List.Mem.tail _ (List.Mem.tail _ (List.Mem.tail _ (List.Mem.tail _ (List.Mem.tail _ (List.Mem.head _)))))))))))))))
  have f15 : 0 ≤ (-1) + (1 * τ 133 + ((-1) * τ 19001 + 0)) := hf _ (List.Mem.tail _ (List.Mem.tail _ (List.Mem.tail _ (List.Mem.tail _ (List.Mem.tail _ (List.Mem.tail _ (List.Mem.tail _ (List.Mem.tail _ (List.Mem.tail _ (List.Mem.tail _ (List.Mem.tail _ (List.Mem.tail _ (List.Mem.tail _ (List.Mem.tail _ (List.Mem.tail _ (List.Mem.head _))))))))))))))))
  have m134 : σ' 134 = 1 + (1 * τ 134 + 0) := hm 134 (by decide)
  clear hf hm
  exact Or.inl ⟨by omega, ⟨by omega, by omega, by omega, by omega, by omega, by omega⟩, by omega⟩
theorem lw_mwx_188 {as : List rv_A} {σ σ' : Nat → Int} {o : rv_O} {x : Int32} {a1 a2 : Int} {τ : Nat → Int} (hx : o.1 = some (.inl x)) (h1 : lw_av as 1 = a1) (h2 : lw_av as 2 = a2) (hb : ∀ s, (sx_sr s).1 ≤ σ s ∧ σ s ≤ (sx_sr s).2) (hW : lw_W ([(18550, 128, 255), (18551, 64, 255), (18590, 128, 255), (18593, 64, 255)], [(0, [(18550, (-1)), (1000000, 1)]), (0, [(18551, (-1)), (1000001, 1)]), ((-1), [(133, 1)]), (11, [(134, (-1))]), ((-6), [(19001, 1)]), (6, [(19001, (-1))]), ((-7), [(19002, 1)]), (7, [(19002, (-1))]), ((-1), [(19003, 1)]), (0, [(1000000, 1), (1000002, (-1))]), (0, [(1000000, (-1)), (1000002, 1)]), (0, [(1000001, 1), (1000003, (-1))]), (0, [(1000001, (-1)), (1000003, 1)]), ((-1), [(19001, (-1)), (19002, 1)]), ((-1), [(133, 1), (19002, (-1))]), ((-1), [(133, 1), (19001, (-1))])], [(9, (0, [])), (134, (1, [(134, 1)])), (7048, ((-2), [])), (7049, ((-2), [])), (8069, (0, [])), (11396, ((-2), [])), (18550, (0, [(1000000, 1)])), (18551, (0, [(1000001, 1)])), (18588, (0, [(18550, 1)])), (18589, (128, [])), (18590, (0, [(1000002, 1)])), (18591, (0, [(18551, 1)])), (18592, (64, [])), (18593, (0, [(1000003, 1)])), (18594, (2, []))], some (false, (1, []))) as σ σ' τ o) : lw_mwx_C a1 a2 x.toInt σ σ' := by
  unfold lw_mwx_C
  have b133 : 0 ≤ σ 133 ∧ σ 133 ≤ 8 := by
    have h0 := hb 133
    rw [show sx_sr 133 = (0, 8) from by decide +kernel] at h0
    exact h0
  have b134 : 0 ≤ σ 134 ∧ σ 134 ≤ 12 := by
    have h0 := hb 134
    rw [show sx_sr 134 = (0, 12) from by decide +kernel] at h0
    exact h0
  obtain ⟨hs, ht, hf, hr, hm, hw⟩ := hW
  have e1 : τ 19001 = a1 := by rw [ht 19001 (by decide) (by decide)]; exact h1
  have e2 : τ 19002 = a2 := by rw [ht 19002 (by decide) (by decide)]; exact h2
  have s133 : τ 133 = σ 133 := hs 133 (by decide)
  have s134 : τ 134 = σ 134 := hs 134 (by decide)
  clear hs ht hb
  rw [hx] at hr
  obtain ⟨y, hy, hv⟩ := hr
  cases hy
  replace hv : x.toInt = 1 + 0 := hv
  have f0 : 0 ≤ 0 + ((-1) * τ 18550 + (1 * τ 1000000 + 0)) := hf _ (List.Mem.head _)
  have f1 : 0 ≤ 0 + ((-1) * τ 18551 + (1 * τ 1000001 + 0)) := hf _ (List.Mem.tail _ (List.Mem.head _))
  have f2 : 0 ≤ (-1) + (1 * τ 133 + 0) := hf _ (List.Mem.tail _ (List.Mem.tail _ (List.Mem.head _)))
  have f3 : 0 ≤ 11 + ((-1) * τ 134 + 0) := hf _ (List.Mem.tail _ (List.Mem.tail _ (List.Mem.tail _ (List.Mem.head _))))
  have f4 : 0 ≤ (-6) + (1 * τ 19001 + 0) := hf _ (List.Mem.tail _ (List.Mem.tail _ (List.Mem.tail _ (List.Mem.tail _ (List.Mem.head _)))))
  have f5 : 0 ≤ 6 + ((-1) * τ 19001 + 0) := hf _ (List.Mem.tail _ (List.Mem.tail _ (List.Mem.tail _ (List.Mem.tail _ (List.Mem.tail _ (List.Mem.head _))))))
  have f6 : 0 ≤ (-7) + (1 * τ 19002 + 0) := hf _ (List.Mem.tail _ (List.Mem.tail _ (List.Mem.tail _ (List.Mem.tail _ (List.Mem.tail _ (List.Mem.tail _ (List.Mem.head _)))))))
  have f7 : 0 ≤ 7 + ((-1) * τ 19002 + 0) := hf _ (List.Mem.tail _ (List.Mem.tail _ (List.Mem.tail _ (List.Mem.tail _ (List.Mem.tail _ (List.Mem.tail _ (List.Mem.tail _ (List.Mem.head _))))))))
  have f8 : 0 ≤ (-1) + (1 * τ 19003 + 0) := hf _ (List.Mem.tail _ (List.Mem.tail _ (List.Mem.tail _ (List.Mem.tail _ (List.Mem.tail _ (List.Mem.tail _ (List.Mem.tail _ (List.Mem.tail _ (List.Mem.head _)))))))))
  have f9 : 0 ≤ 0 + (1 * τ 1000000 + ((-1) * τ 1000002 + 0)) := hf _ (List.Mem.tail _ (List.Mem.tail _ (List.Mem.tail _ (List.Mem.tail _ (List.Mem.tail _ (List.Mem.tail _ (List.Mem.tail _ (List.Mem.tail _ (List.Mem.tail _ (List.Mem.head _))))))))))
  have f10 : 0 ≤ 0 + ((-1) * τ 1000000 + (1 * τ 1000002 + 0)) := hf _ (List.Mem.tail _ (List.Mem.tail _ (List.Mem.tail _ (List.Mem.tail _ (List.Mem.tail _ (List.Mem.tail _ (List.Mem.tail _ (List.Mem.tail _ (List.Mem.tail _ (List.Mem.tail _ (List.Mem.head _)))))))))))
  have f11 : 0 ≤ 0 + (1 * τ 1000001 + ((-1) * τ 1000003 + 0)) := hf _ (List.Mem.tail _ (List.Mem.tail _ (List.Mem.tail _ (List.Mem.tail _ (List.Mem.tail _ (List.Mem.tail _ (List.Mem.tail _ (List.Mem.tail _ (List.Mem.tail _ (List.Mem.tail _ (List.Mem.tail _ (List.Mem.head _))))))))))))
  have f12 : 0 ≤ 0 + ((-1) * τ 1000001 + (1 * τ 1000003 + 0)) := hf _ (List.Mem.tail _ (List.Mem.tail _ (List.Mem.tail _ (List.Mem.tail _ (List.Mem.tail _ (List.Mem.tail _ (List.Mem.tail _ (List.Mem.tail _ (List.Mem.tail _ (List.Mem.tail _ (List.Mem.tail _ (List.Mem.tail _ (List.Mem.head _)))))))))))))
  have f13 : 0 ≤ (-1) + ((-1) * τ 19001 + (1 * τ 19002 + 0)) := hf _ (List.Mem.tail _ (List.Mem.tail _ (List.Mem.tail _ (List.Mem.tail _ (List.Mem.tail _ (List.Mem.tail _ (List.Mem.tail _ (List.Mem.tail _ (List.Mem.tail _ (List.Mem.tail _ (List.Mem.tail _ (List.Mem.tail _ (List.Mem.tail _ (List.Mem.head _))))))))))))))
  have f14 : 0 ≤ (-1) + (1 * τ 133 + ((-1) * τ 19002 + 0)) := hf _ (List.Mem.tail _ (List.Mem.tail _ (List.Mem.tail _ (List.Mem.tail _ (List.Mem.tail _ (List.Mem.tail _ (List.Mem.tail _ (List.Mem.tail _ (List.Mem.tail _ (List.Mem.tail _ (List.Mem.tail _ (List.Mem.tail _ (List.Mem.tail _ (List.Mem.tail _ (List.Mem.head _)))))))))))))))
  have f15 : 0 ≤ (-1) + (1 * τ 133 + ((-1) * τ 19001 + 0)) := hf _ (List.Mem.tail _ (List.Mem.tail _ (List.Mem.tail _ (List.Mem.tail _ (List.Mem.tail _ (List.Mem.tail _ (List.Mem.tail _ (List.Mem.tail _ (List.Mem.tail _ (List.Mem.tail _ (List.Mem.tail _ (List.Mem.tail _ (List.Mem.tail _ (List.Mem.tail _ (List.Mem.tail _ (List.Mem.head _))))))))))))))))
  have m134 : σ' 134 = 1 + (1 * τ 134 + 0) := hm 134 (by decide)
  clear hf hm
  exact Or.inl ⟨by omega, ⟨by omega, by omega, by omega, by omega, by omega, by omega⟩, by omega⟩
theorem lw_mwx_189 {as : List rv_A} {σ σ' : Nat → Int} {o : rv_O} {x : Int32} {a1 a2 : Int} {τ : Nat → Int} (hx : o.1 = some (.inl x)) (h1 : lw_av as 1 = a1) (h2 : lw_av as 2 = a2) (hb : ∀ s, (sx_sr s).1 ≤ σ s ∧ σ s ≤ (sx_sr s).2) (hW : lw_W ([(18536, 128, 255), (18543, 1, 255), (18590, 1, 255), (18593, 128, 255)], [(0, [(18536, (-1)), (1000000, 1)]), (0, [(18543, (-1)), (1000001, 1)]), ((-1), [(133, 1)]), (11, [(134, (-1))]), ((-7), [(19001, 1)]), (7, [(19001, (-1))]), (0, [(19002, 1)]), (0, [(19002, (-1))]), (0, [(19003, (-1))]), (0, [(1000000, 1), (1000003, (-1))]), (0, [(1000000, (-1)), (1000003, 1)]), (0, [(1000001, 1), (1000002, (-1))]), (0, [(1000001, (-1)), (1000002, 1)]), ((-1), [(19001, 1), (19002, (-1))]), ((-1), [(133, 1), (19002, (-1))]), ((-1), [(133, 1), (19001, (-1))])], [(9, (0, [])), (134, (1, [(134, 1)])), (7048, ((-2), [])), (7049, ((-2), [])), (8069, (0, [])), (11396, ((-2), [])), (18536, (0, [(1000000, 1)])), (18543, (0, [(1000001, 1)])), (18588, (0, [(18543, 1)])), (18589, (1, [])), (18590, (0, [(1000002, 1)])), (18591, (0, [(18536, 1)])), (18592, (128, [])), (18593, (0, [(1000003, 1)])), (18594, (2, []))], some (false, (1, []))) as σ σ' τ o) : lw_mwx_C a1 a2 x.toInt σ σ' := by
  unfold lw_mwx_C
  have b133 : 0 ≤ σ 133 ∧ σ 133 ≤ 8 := by
    have h0 := hb 133
    rw [show sx_sr 133 = (0, 8) from by decide +kernel] at h0
    exact h0
  have b134 : 0 ≤ σ 134 ∧ σ 134 ≤ 12 := by
    have h0 := hb 134
    rw [show sx_sr 134 = (0, 12) from by decide +kernel] at h0
    exact h0
  obtain ⟨hs, ht, hf, hr, hm, hw⟩ := hW
  have e1 : τ 19001 = a1 := by rw [ht 19001 (by decide) (by decide)]; exact h1
  have e2 : τ 19002 = a2 := by rw [ht 19002 (by decide) (by decide)]; exact h2
  have s133 : τ 133 = σ 133 := hs 133 (by decide)
  have s134 : τ 134 = σ 134 := hs 134 (by decide)
  clear hs ht hb
  rw [hx] at hr
  obtain ⟨y, hy, hv⟩ := hr
  cases hy
  replace hv : x.toInt = 1 + 0 := hv
  have f0 : 0 ≤ 0 + ((-1) * τ 18536 + (1 * τ 1000000 + 0)) := hf _ (List.Mem.head _)
  have f1 : 0 ≤ 0 + ((-1) * τ 18543 + (1 * τ 1000001 + 0)) := hf _ (List.Mem.tail _ (List.Mem.head _))
  have f2 : 0 ≤ (-1) + (1 * τ 133 + 0) := hf _ (List.Mem.tail _ (List.Mem.tail _ (List.Mem.head _)))
  have f3 : 0 ≤ 11 + ((-1) * τ 134 + 0) := hf _ (List.Mem.tail _ (List.Mem.tail _ (List.Mem.tail _ (List.Mem.head _))))
  have f4 : 0 ≤ (-7) + (1 * τ 19001 + 0) := hf _ (List.Mem.tail _ (List.Mem.tail _ (List.Mem.tail _ (List.Mem.tail _ (List.Mem.head _)))))
  have f5 : 0 ≤ 7 + ((-1) * τ 19001 + 0) := hf _ (List.Mem.tail _ (List.Mem.tail _ (List.Mem.tail _ (List.Mem.tail _ (List.Mem.tail _ (List.Mem.head _))))))
  have f6 : 0 ≤ 0 + (1 * τ 19002 + 0) := hf _ (List.Mem.tail _ (List.Mem.tail _ (List.Mem.tail _ (List.Mem.tail _ (List.Mem.tail _ (List.Mem.tail _ (List.Mem.head _)))))))
  have f7 : 0 ≤ 0 + ((-1) * τ 19002 + 0) := hf _ (List.Mem.tail _ (List.Mem.tail _ (List.Mem.tail _ (List.Mem.tail _ (List.Mem.tail _ (List.Mem.tail _ (List.Mem.tail _ (List.Mem.head _))))))))
  have f8 : 0 ≤ 0 + ((-1) * τ 19003 + 0) := hf _ (List.Mem.tail _ (List.Mem.tail _ (List.Mem.tail _ (List.Mem.tail _ (List.Mem.tail _ (List.Mem.tail _ (List.Mem.tail _ (List.Mem.tail _ (List.Mem.head _)))))))))
  have f9 : 0 ≤ 0 + (1 * τ 1000000 + ((-1) * τ 1000003 + 0)) := hf _ (List.Mem.tail _ (List.Mem.tail _ (List.Mem.tail _ (List.Mem.tail _ (List.Mem.tail _ (List.Mem.tail _ (List.Mem.tail _ (List.Mem.tail _ (List.Mem.tail _ (List.Mem.head _))))))))))
  have f10 : 0 ≤ 0 + ((-1) * τ 1000000 + (1 * τ 1000003 + 0)) := hf _ (List.Mem.tail _ (List.Mem.tail _ (List.Mem.tail _ (List.Mem.tail _ (List.Mem.tail _ (List.Mem.tail _ (List.Mem.tail _ (List.Mem.tail _ (List.Mem.tail _ (List.Mem.tail _ (List.Mem.head _)))))))))))
  have f11 : 0 ≤ 0 + (1 * τ 1000001 + ((-1) * τ 1000002 + 0)) := hf _ (List.Mem.tail _ (List.Mem.tail _ (List.Mem.tail _ (List.Mem.tail _ (List.Mem.tail _ (List.Mem.tail _ (List.Mem.tail _ (List.Mem.tail _ (List.Mem.tail _ (List.Mem.tail _ (List.Mem.tail _ (List.Mem.head _))))))))))))
  have f12 : 0 ≤ 0 + ((-1) * τ 1000001 + (1 * τ 1000002 + 0)) := hf _ (List.Mem.tail _ (List.Mem.tail _ (List.Mem.tail _ (List.Mem.tail _ (List.Mem.tail _ (List.Mem.tail _ (List.Mem.tail _ (List.Mem.tail _ (List.Mem.tail _ (List.Mem.tail _ (List.Mem.tail _ (List.Mem.tail _ (List.Mem.head _)))))))))))))
  have f13 : 0 ≤ (-1) + (1 * τ 19001 + ((-1) * τ 19002 + 0)) := hf _ (List.Mem.tail _ (List.Mem.tail _ (List.Mem.tail _ (List.Mem.tail _ (List.Mem.tail _ (List.Mem.tail _ (List.Mem.tail _ (List.Mem.tail _ (List.Mem.tail _ (List.Mem.tail _ (List.Mem.tail _ (List.Mem.tail _ (List.Mem.tail _ (List.Mem.head _))))))))))))))
  have f14 : 0 ≤ (-1) + (1 * τ 133 + ((-1) * τ 19002 + 0)) := hf _ (List.Mem.tail _ (List.Mem.tail _ (List.Mem.tail _ (List.Mem.tail _ (List.Mem.tail _ (List.Mem.tail _ (List.Mem.tail _ (List.Mem.tail _ (List.Mem.tail _ (List.Mem.tail _ (List.Mem.tail _ (List.Mem.tail _ (List.Mem.tail _ (List.Mem.tail _ (List.Mem.head _)))))))))))))))
  have f15 : 0 ≤ (-1) + (1 * τ 133 + ((-1) * τ 19001 + 0)) := hf _ (List.Mem.tail _ (List.Mem.tail _ (List.Mem.tail _ (List.Mem.tail _ (List.Mem.tail _ (List.Mem.tail _ (List.Mem.tail _ (List.Mem.tail _ (List.Mem.tail _ (List.Mem.tail _ (List.Mem.tail _ (List.Mem.tail _ (List.Mem.tail _ (List.Mem.tail _ (List.Mem.tail _ (List.Mem.head _))))))))))))))))
  have m134 : σ' 134 = 1 + (1 * τ 134 + 0) := hm 134 (by decide)
  clear hf hm
  exact Or.inl ⟨by omega, ⟨by omega, by omega, by omega, by omega, by omega, by omega⟩, by omega⟩
theorem lw_mwx_190 {as : List rv_A} {σ σ' : Nat → Int} {o : rv_O} {x : Int32} {a1 a2 : Int} {τ : Nat → Int} (hx : o.1 = some (.inl x)) (h1 : lw_av as 1 = a1) (h2 : lw_av as 2 = a2) (hb : ∀ s, (sx_sr s).1 ≤ σ s ∧ σ s ≤ (sx_sr s).2) (hW : lw_W ([(18544, 128, 255), (18551, 1, 255), (18590, 1, 255), (18593, 128, 255)], [(0, [(18544, (-1)), (1000000, 1)]), (0, [(18551, (-1)), (1000001, 1)]), ((-1), [(133, 1)]), (11, [(134, (-1))]), ((-7), [(19001, 1)]), (7, [(19001, (-1))]), (0, [(19002, 1)]), (0, [(19002, (-1))]), ((-1), [(19003, 1)]), (0, [(1000000, 1), (1000003, (-1))]), (0, [(1000000, (-1)), (1000003, 1)]), (0, [(1000001, 1), (1000002, (-1))]), (0, [(1000001, (-1)), (1000002, 1)]), ((-1), [(19001, 1), (19002, (-1))]), ((-1), [(133, 1), (19002, (-1))]), ((-1), [(133, 1), (19001, (-1))])], [(9, (0, [])), (134, (1, [(134, 1)])), (7048, ((-2), [])), (7049, ((-2), [])), (8069, (0, [])), (11396, ((-2), [])), (18544, (0, [(1000000, 1)])), (18551, (0, [(1000001, 1)])), (18588, (0, [(18551, 1)])), (18589, (1, [])), (18590, (0, [(1000002, 1)])), (18591, (0, [(18544, 1)])), (18592, (128, [])), (18593, (0, [(1000003, 1)])), (18594, (2, []))], some (false, (1, []))) as σ σ' τ o) : lw_mwx_C a1 a2 x.toInt σ σ' := by
  unfold lw_mwx_C
  have b133 : 0 ≤ σ 133 ∧ σ 133 ≤ 8 := by
    have h0 := hb 133
    rw [show sx_sr 133 = (0, 8) from by decide +kernel] at h0
    exact h0
  have b134 : 0 ≤ σ 134 ∧ σ 134 ≤ 12 := by
    have h0 := hb 134
    rw [show sx_sr 134 = (0, 12) from by decide +kernel] at h0
    exact h0
  obtain ⟨hs, ht, hf, hr, hm, hw⟩ := hW
  have e1 : τ 19001 = a1 := by rw [ht 19001 (by decide) (by decide)]; exact h1
  have e2 : τ 19002 = a2 := by rw [ht 19002 (by decide) (by decide)]; exact h2
  have s133 : τ 133 = σ 133 := hs 133 (by decide)
  have s134 : τ 134 = σ 134 := hs 134 (by decide)
  clear hs ht hb
  rw [hx] at hr
  obtain ⟨y, hy, hv⟩ := hr
  cases hy
  replace hv : x.toInt = 1 + 0 := hv
  have f0 : 0 ≤ 0 + ((-1) * τ 18544 + (1 * τ 1000000 + 0)) := hf _ (List.Mem.head _)
  have f1 : 0 ≤ 0 + ((-1) * τ 18551 + (1 * τ 1000001 + 0)) := hf _ (List.Mem.tail _ (List.Mem.head _))
  have f2 : 0 ≤ (-1) + (1 * τ 133 + 0) := hf _ (List.Mem.tail _ (List.Mem.tail _ (List.Mem.head _)))
  have f3 : 0 ≤ 11 + ((-1) * τ 134 + 0) := hf _ (List.Mem.tail _ (List.Mem.tail _ (List.Mem.tail _ (List.Mem.head _))))
  have f4 : 0 ≤ (-7) + (1 * τ 19001 + 0) := hf _ (List.Mem.tail _ (List.Mem.tail _ (List.Mem.tail _ (List.Mem.tail _ (List.Mem.head _)))))
  have f5 : 0 ≤ 7 + ((-1) * τ 19001 + 0) := hf _ (List.Mem.tail _ (List.Mem.tail _ (List.Mem.tail _ (List.Mem.tail _ (List.Mem.tail _ (List.Mem.head _))))))
  have f6 : 0 ≤ 0 + (1 * τ 19002 + 0) := hf _ (List.Mem.tail _ (List.Mem.tail _ (List.Mem.tail _ (List.Mem.tail _ (List.Mem.tail _ (List.Mem.tail _ (List.Mem.head _)))))))
  have f7 : 0 ≤ 0 + ((-1) * τ 19002 + 0) := hf _ (List.Mem.tail _ (List.Mem.tail _ (List.Mem.tail _ (List.Mem.tail _ (List.Mem.tail _ (List.Mem.tail _ (List.Mem.tail _ (List.Mem.head _))))))))
  have f8 : 0 ≤ (-1) + (1 * τ 19003 + 0) := hf _ (List.Mem.tail _ (List.Mem.tail _ (List.Mem.tail _ (List.Mem.tail _ (List.Mem.tail _ (List.Mem.tail _ (List.Mem.tail _ (List.Mem.tail _ (List.Mem.head _)))))))))
  have f9 : 0 ≤ 0 + (1 * τ 1000000 + ((-1) * τ 1000003 + 0)) := hf _ (List.Mem.tail _ (List.Mem.tail _ (List.Mem.tail _ (List.Mem.tail _ (List.Mem.tail _ (List.Mem.tail _ (List.Mem.tail _ (List.Mem.tail _ (List.Mem.tail _ (List.Mem.head _))))))))))
  have f10 : 0 ≤ 0 + ((-1) * τ 1000000 + (1 * τ 1000003 + 0)) := hf _ (List.Mem.tail _ (List.Mem.tail _ (List.Mem.tail _ (List.Mem.tail _ (List.Mem.tail _ (List.Mem.tail _ (List.Mem.tail _ (List.Mem.tail _ (List.Mem.tail _ (List.Mem.tail _ (List.Mem.head _)))))))))))
  have f11 : 0 ≤ 0 + (1 * τ 1000001 + ((-1) * τ 1000002 + 0)) := hf _ (List.Mem.tail _ (List.Mem.tail _ (List.Mem.tail _ (List.Mem.tail _ (List.Mem.tail _ (List.Mem.tail _ (List.Mem.tail _ (List.Mem.tail _ (List.Mem.tail _ (List.Mem.tail _ (List.Mem.tail _ (List.Mem.head _))))))))))))
  have f12 : 0 ≤ 0 + ((-1) * τ 1000001 + (1 * τ 1000002 + 0)) := hf _ (List.Mem.tail _ (List.Mem.tail _ (List.Mem.tail _ (List.Mem.tail _ (List.Mem.tail _ (List.Mem.tail _ (List.Mem.tail _ (List.Mem.tail _ (List.Mem.tail _ (List.Mem.tail _ (List.Mem.tail _ (List.Mem.tail _ (List.Mem.head _)))))))))))))
  have f13 : 0 ≤ (-1) + (1 * τ 19001 + ((-1) * τ 19002 + 0)) := hf _ (List.Mem.tail _ (List.Mem.tail _ (List.Mem.tail _ (List.Mem.tail _ (List.Mem.tail _ (List.Mem.tail _ (List.Mem.tail _ (List.Mem.tail _ (List.Mem.tail _ (List.Mem.tail _ (List.Mem.tail _ (List.Mem.tail _ (List.Mem.tail _ (List.Mem.head _))))))))))))))
  have f14 : 0 ≤ (-1) + (1 * τ 133 + ((-1) * τ 19002 + 0)) := hf _ (List.Mem.tail _ (List.Mem.tail _ (List.Mem.tail _ (List.Mem.tail _ (List.Mem.tail _ (List.Mem.tail _ (List.Mem.tail _ (List.Mem.tail _ (List.Mem.tail _ (List.Mem.tail _ (List.Mem.tail _ (List.Mem.tail _ (List.Mem.tail _ (List.Mem.tail _ (List.Mem.head _)))))))))))))))
  have f15 : 0 ≤ (-1) + (1 * τ 133 + ((-1) * τ 19001 + 0)) := hf _ (List.Mem.tail _ (List.Mem.tail _ (List.Mem.tail _ (List.Mem.tail _ (List.Mem.tail _ (List.Mem.tail _ (List.Mem.tail _ (List.Mem.tail _ (List.Mem.tail _ (List.Mem.tail _ (List.Mem.tail _ (List.Mem.tail _ (List.Mem.tail _ (List.Mem.tail _ (List.Mem.tail _ (List.Mem.head _))))))))))))))))
  have m134 : σ' 134 = 1 + (1 * τ 134 + 0) := hm 134 (by decide)
  clear hf hm
  exact Or.inl ⟨by omega, ⟨by omega, by omega, by omega, by omega, by omega, by omega⟩, by omega⟩
theorem lw_mwx_191 {as : List rv_A} {σ σ' : Nat → Int} {o : rv_O} {x : Int32} {a1 a2 : Int} {τ : Nat → Int} (hx : o.1 = some (.inl x)) (h1 : lw_av as 1 = a1) (h2 : lw_av as 2 = a2) (hb : ∀ s, (sx_sr s).1 ≤ σ s ∧ σ s ≤ (sx_sr s).2) (hW : lw_W ([(18537, 128, 255), (18543, 2, 255), (18590, 2, 255), (18593, 128, 255)], [(0, [(18537, (-1)), (1000000, 1)]), (0, [(18543, (-1)), (1000001, 1)]), ((-1), [(133, 1)]), (11, [(134, (-1))]), ((-7), [(19001, 1)]), (7, [(19001, (-1))]), ((-1), [(19002, 1)]), (1, [(19002, (-1))]), (0, [(19003, (-1))]), (0, [(1000000, 1), (1000003, (-1))]), (0, [(1000000, (-1)), (1000003, 1)]), (0, [(1000001, 1), (1000002, (-1))]), (0, [(1000001, (-1)), (1000002, 1)]), ((-1), [(19001, 1), (19002, (-1))]), ((-1), [(133, 1), (19002, (-1))]), ((-1), [(133, 1), (19001, (-1))])], [(9, (0, [])), (134, (1, [(134, 1)])), (7048, ((-2), [])), (7049, ((-2), [])), (8069, (0, [])), (11396, ((-2), [])), (18537, (0, [(1000000, 1)])), (18543, (0, [(1000001, 1)])), (18588, (0, [(18543, 1)])), (18589, (2, [])), (18590, (0, [(1000002, 1)])), (18591, (0, [(18537, 1)])), (18592, (128, [])), (18593, (0, [(1000003, 1)])), (18594, (2, []))], some (false, (1, []))) as σ σ' τ o) : lw_mwx_C a1 a2 x.toInt σ σ' := by
  unfold lw_mwx_C
  have b133 : 0 ≤ σ 133 ∧ σ 133 ≤ 8 := by
    have h0 := hb 133
    rw [show sx_sr 133 = (0, 8) from by decide +kernel] at h0
    exact h0
  have b134 : 0 ≤ σ 134 ∧ σ 134 ≤ 12 := by
    have h0 := hb 134
    rw [show sx_sr 134 = (0, 12) from by decide +kernel] at h0
    exact h0
  obtain ⟨hs, ht, hf, hr, hm, hw⟩ := hW
  have e1 : τ 19001 = a1 := by rw [ht 19001 (by decide) (by decide)]; exact h1
  have e2 : τ 19002 = a2 := by rw [ht 19002 (by decide) (by decide)]; exact h2
  have s133 : τ 133 = σ 133 := hs 133 (by decide)
  have s134 : τ 134 = σ 134 := hs 134 (by decide)
  clear hs ht hb
  rw [hx] at hr
  obtain ⟨y, hy, hv⟩ := hr
  cases hy
  replace hv : x.toInt = 1 + 0 := hv
  have f0 : 0 ≤ 0 + ((-1) * τ 18537 + (1 * τ 1000000 + 0)) := hf _ (List.Mem.head _)
  have f1 : 0 ≤ 0 + ((-1) * τ 18543 + (1 * τ 1000001 + 0)) := hf _ (List.Mem.tail _ (List.Mem.head _))
  have f2 : 0 ≤ (-1) + (1 * τ 133 + 0) := hf _ (List.Mem.tail _ (List.Mem.tail _ (List.Mem.head _)))
  have f3 : 0 ≤ 11 + ((-1) * τ 134 + 0) := hf _ (List.Mem.tail _ (List.Mem.tail _ (List.Mem.tail _ (List.Mem.head _))))
  have f4 : 0 ≤ (-7) + (1 * τ 19001 + 0) := hf _ (List.Mem.tail _ (List.Mem.tail _ (List.Mem.tail _ (List.Mem.tail _ (List.Mem.head _)))))
  have f5 : 0 ≤ 7 + ((-1) * τ 19001 + 0) := hf _ (List.Mem.tail _ (List.Mem.tail _ (List.Mem.tail _ (List.Mem.tail _ (List.Mem.tail _ (List.Mem.head _))))))
  have f6 : 0 ≤ (-1) + (1 * τ 19002 + 0) := hf _ (List.Mem.tail _ (List.Mem.tail _ (List.Mem.tail _ (List.Mem.tail _ (List.Mem.tail _ (List.Mem.tail _ (List.Mem.head _)))))))
  have f7 : 0 ≤ 1 + ((-1) * τ 19002 + 0) := hf _ (List.Mem.tail _ (List.Mem.tail _ (List.Mem.tail _ (List.Mem.tail _ (List.Mem.tail _ (List.Mem.tail _ (List.Mem.tail _ (List.Mem.head _))))))))
  have f8 : 0 ≤ 0 + ((-1) * τ 19003 + 0) := hf _ (List.Mem.tail _ (List.Mem.tail _ (List.Mem.tail _ (List.Mem.tail _ (List.Mem.tail _ (List.Mem.tail _ (List.Mem.tail _ (List.Mem.tail _ (List.Mem.head _)))))))))
  have f9 : 0 ≤ 0 + (1 * τ 1000000 + ((-1) * τ 1000003 + 0)) := hf _ (List.Mem.tail _ (List.Mem.tail _ (List.Mem.tail _ (List.Mem.tail _ (List.Mem.tail _ (List.Mem.tail _ (List.Mem.tail _ (List.Mem.tail _ (List.Mem.tail _ (List.Mem.head _))))))))))
  have f10 : 0 ≤ 0 + ((-1) * τ 1000000 + (1 * τ 1000003 + 0)) := hf _ (List.Mem.tail _ (List.Mem.tail _ (List.Mem.tail _ (List.Mem.tail _ (List.Mem.tail _ (List.Mem.tail _ (List.Mem.tail _ (List.Mem.tail _ (List.Mem.tail _ (List.Mem.tail _ (List.Mem.head _)))))))))))
  have f11 : 0 ≤ 0 + (1 * τ 1000001 + ((-1) * τ 1000002 + 0)) := hf _ (List.Mem.tail _ (List.Mem.tail _ (List.Mem.tail _ (List.Mem.tail _ (List.Mem.tail _ (List.Mem.tail _ (List.Mem.tail _ (List.Mem.tail _ (List.Mem.tail _ (List.Mem.tail _ (List.Mem.tail _ (List.Mem.head _))))))))))))
  have f12 : 0 ≤ 0 + ((-1) * τ 1000001 + (1 * τ 1000002 + 0)) := hf _ (List.Mem.tail _ (List.Mem.tail _ (List.Mem.tail _ (List.Mem.tail _ (List.Mem.tail _ (List.Mem.tail _ (List.Mem.tail _ (List.Mem.tail _ (List.Mem.tail _ (List.Mem.tail _ (List.Mem.tail _ (List.Mem.tail _ (List.Mem.head _)))))))))))))
  have f13 : 0 ≤ (-1) + (1 * τ 19001 + ((-1) * τ 19002 + 0)) := hf _ (List.Mem.tail _ (List.Mem.tail _ (List.Mem.tail _ (List.Mem.tail _ (List.Mem.tail _ (List.Mem.tail _ (List.Mem.tail _ (List.Mem.tail _ (List.Mem.tail _ (List.Mem.tail _ (List.Mem.tail _ (List.Mem.tail _ (List.Mem.tail _ (List.Mem.head _))))))))))))))
  have f14 : 0 ≤ (-1) + (1 * τ 133 + ((-1) * τ 19002 + 0)) := hf _ (List.Mem.tail _ (List.Mem.tail _ (List.Mem.tail _ (List.Mem.tail _ (List.Mem.tail _ (List.Mem.tail _ (List.Mem.tail _ (List.Mem.tail _ (List.Mem.tail _ (List.Mem.tail _ (List.Mem.tail _ (List.Mem.tail _ (List.Mem.tail _ (List.Mem.tail _ (List.Mem.head _)))))))))))))))
  have f15 : 0 ≤ (-1) + (1 * τ 133 + ((-1) * τ 19001 + 0)) := hf _ (List.Mem.tail _ (List.Mem.tail _ (List.Mem.tail _ (List.Mem.tail _ (List.Mem.tail _ (List.Mem.tail _ (List.Mem.tail _ (List.Mem.tail _ (List.Mem.tail _ (List.Mem.tail _ (List.Mem.tail _ (List.Mem.tail _ (List.Mem.tail _ (List.Mem.tail _ (List.Mem.tail _ (List.Mem.head _))))))))))))))))
  have m134 : σ' 134 = 1 + (1 * τ 134 + 0) := hm 134 (by decide)
  clear hf hm
  exact Or.inl ⟨by omega, ⟨by omega, by omega, by omega, by omega, by omega, by omega⟩, by omega⟩
theorem lw_mwx_192 {as : List rv_A} {σ σ' : Nat → Int} {o : rv_O} {x : Int32} {a1 a2 : Int} {τ : Nat → Int} (hx : o.1 = some (.inl x)) (h1 : lw_av as 1 = a1) (h2 : lw_av as 2 = a2) (hb : ∀ s, (sx_sr s).1 ≤ σ s ∧ σ s ≤ (sx_sr s).2) (hW : lw_W ([(18545, 128, 255), (18551, 2, 255), (18590, 2, 255), (18593, 128, 255)], [(0, [(18545, (-1)), (1000000, 1)]), (0, [(18551, (-1)), (1000001, 1)]), ((-1), [(133, 1)]), (11, [(134, (-1))]), ((-7), [(19001, 1)]), (7, [(19001, (-1))]), ((-1), [(19002, 1)]), (1, [(19002, (-1))]), ((-1), [(19003, 1)]), (0, [(1000000, 1), (1000003, (-1))]), (0, [(1000000, (-1)), (1000003, 1)]), (0, [(1000001, 1), (1000002, (-1))]), (0, [(1000001, (-1)), (1000002, 1)]), ((-1), [(19001, 1), (19002, (-1))]), ((-1), [(133, 1), (19002, (-1))]), ((-1), [(133, 1), (19001, (-1))])], [(9, (0, [])), (134, (1, [(134, 1)])), (7048, ((-2), [])), (7049, ((-2), [])), (8069, (0, [])), (11396, ((-2), [])), (18545, (0, [(1000000, 1)])), (18551, (0, [(1000001, 1)])), (18588, (0, [(18551, 1)])), (18589, (2, [])), (18590, (0, [(1000002, 1)])), (18591, (0, [(18545, 1)])), (18592, (128, [])), (18593, (0, [(1000003, 1)])), (18594, (2, []))], some (false, (1, []))) as σ σ' τ o) : lw_mwx_C a1 a2 x.toInt σ σ' := by
  unfold lw_mwx_C
  have b133 : 0 ≤ σ 133 ∧ σ 133 ≤ 8 := by
    have h0 := hb 133
    rw [show sx_sr 133 = (0, 8) from by decide +kernel] at h0
    exact h0
  have b134 : 0 ≤ σ 134 ∧ σ 134 ≤ 12 := by
    have h0 := hb 134
    rw [show sx_sr 134 = (0, 12) from by decide +kernel] at h0
    exact h0
  obtain ⟨hs, ht, hf, hr, hm, hw⟩ := hW
  have e1 : τ 19001 = a1 := by rw [ht 19001 (by decide) (by decide)]; exact h1
  have e2 : τ 19002 = a2 := by rw [ht 19002 (by decide) (by decide)]; exact h2
  have s133 : τ 133 = σ 133 := hs 133 (by decide)
  have s134 : τ 134 = σ 134 := hs 134 (by decide)
  clear hs ht hb
  rw [hx] at hr
  obtain ⟨y, hy, hv⟩ := hr
  cases hy
  replace hv : x.toInt = 1 + 0 := hv
  have f0 : 0 ≤ 0 + ((-1) * τ 18545 + (1 * τ 1000000 + 0)) := hf _ (List.Mem.head _)
  have f1 : 0 ≤ 0 + ((-1) * τ 18551 + (1 * τ 1000001 + 0)) := hf _ (List.Mem.tail _ (List.Mem.head _))
  have f2 : 0 ≤ (-1) + (1 * τ 133 + 0) := hf _ (List.Mem.tail _ (List.Mem.tail _ (List.Mem.head _)))
  have f3 : 0 ≤ 11 + ((-1) * τ 134 + 0) := hf _ (List.Mem.tail _ (List.Mem.tail _ (List.Mem.tail _ (List.Mem.head _))))
  have f4 : 0 ≤ (-7) + (1 * τ 19001 + 0) := hf _ (List.Mem.tail _ (List.Mem.tail _ (List.Mem.tail _ (List.Mem.tail _ (List.Mem.head _)))))
  have f5 : 0 ≤ 7 + ((-1) * τ 19001 + 0) := hf _ (List.Mem.tail _ (List.Mem.tail _ (List.Mem.tail _ (List.Mem.tail _ (List.Mem.tail _ (List.Mem.head _))))))
  have f6 : 0 ≤ (-1) + (1 * τ 19002 + 0) := hf _ (List.Mem.tail _ (List.Mem.tail _ (List.Mem.tail _ (List.Mem.tail _ (List.Mem.tail _ (List.Mem.tail _ (List.Mem.head _)))))))
  have f7 : 0 ≤ 1 + ((-1) * τ 19002 + 0) := hf _ (List.Mem.tail _ (List.Mem.tail _ (List.Mem.tail _ (List.Mem.tail _ (List.Mem.tail _ (List.Mem.tail _ (List.Mem.tail _ (List.Mem.head _))))))))
  have f8 : 0 ≤ (-1) + (1 * τ 19003 + 0) := hf _ (List.Mem.tail _ (List.Mem.tail _ (List.Mem.tail _ (List.Mem.tail _ (List.Mem.tail _ (List.Mem.tail _ (List.Mem.tail _ (List.Mem.tail _ (List.Mem.head _)))))))))
  have f9 : 0 ≤ 0 + (1 * τ 1000000 + ((-1) * τ 1000003 + 0)) := hf _ (List.Mem.tail _ (List.Mem.tail _ (List.Mem.tail _ (List.Mem.tail _ (List.Mem.tail _ (List.Mem.tail _ (List.Mem.tail _ (List.Mem.tail _ (List.Mem.tail _ (List.Mem.head _))))))))))
  have f10 : 0 ≤ 0 + ((-1) * τ 1000000 + (1 * τ 1000003 + 0)) := hf _ (List.Mem.tail _ (List.Mem.tail _ (List.Mem.tail _ (List.Mem.tail _ (List.Mem.tail _ (List.Mem.tail _ (List.Mem.tail _ (List.Mem.tail _ (List.Mem.tail _ (List.Mem.tail _ (List.Mem.head _)))))))))))
  have f11 : 0 ≤ 0 + (1 * τ 1000001 + ((-1) * τ 1000002 + 0)) := hf _ (List.Mem.tail _ (List.Mem.tail _ (List.Mem.tail _ (List.Mem.tail _ (List.Mem.tail _ (List.Mem.tail _ (List.Mem.tail _ (List.Mem.tail _ (List.Mem.tail _ (List.Mem.tail _ (List.Mem.tail _ (List.Mem.head _))))))))))))
  have f12 : 0 ≤ 0 + ((-1) * τ 1000001 + (1 * τ 1000002 + 0)) := hf _ (List.Mem.tail _ (List.Mem.tail _ (List.Mem.tail _ (List.Mem.tail _ (List.Mem.tail _ (List.Mem.tail _ (List.Mem.tail _ (List.Mem.tail _ (List.Mem.tail _ (List.Mem.tail _ (List.Mem.tail _ (List.Mem.tail _ (List.Mem.head _)))))))))))))
  have f13 : 0 ≤ (-1) + (1 * τ 19001 + ((-1) * τ 19002 + 0)) := hf _ (List.Mem.tail _ (List.Mem.tail _ (List.Mem.tail _ (List.Mem.tail _ (List.Mem.tail _ (List.Mem.tail _ (List.Mem.tail _ (List.Mem.tail _ (List.Mem.tail _ (List.Mem.tail _ (List.Mem.tail _ (List.Mem.tail _ (List.Mem.tail _ (List.Mem.head _))))))))))))))
  have f14 : 0 ≤ (-1) + (1 * τ 133 + ((-1) * τ 19002 + 0)) := hf _ (List.Mem.tail _ (List.Mem.tail _ (List.Mem.tail _ (List.Mem.tail _ (List.Mem.tail _ (List.Mem.tail _ (List.Mem.tail _ (List.Mem.tail _ (List.Mem.tail _ (List.Mem.tail _ (List.Mem.tail _ (List.Mem.tail _ (List.Mem.tail _ (List.Mem.tail _ (List.Mem.head _)))))))))))))))
  have f15 : 0 ≤ (-1) + (1 * τ 133 + ((-1) * τ 19001 + 0)) := hf _ (List.Mem.tail _ (List.Mem.tail _ (List.Mem.tail _ (List.Mem.tail _ (List.Mem.tail _ (List.Mem.tail _ (List.Mem.tail _ (List.Mem.tail _ (List.Mem.tail _ (List.Mem.tail _ (List.Mem.tail _ (List.Mem.tail _ (List.Mem.tail _ (List.Mem.tail _ (List.Mem.tail _ (List.Mem.head _))))))))))))))))
  have m134 : σ' 134 = 1 + (1 * τ 134 + 0) := hm 134 (by decide)
  clear hf hm
  exact Or.inl ⟨by omega, ⟨by omega, by omega, by omega, by omega, by omega, by omega⟩, by omega⟩
theorem lw_mwx_193 {as : List rv_A} {σ σ' : Nat → Int} {o : rv_O} {x : Int32} {a1 a2 : Int} {τ : Nat → Int} (hx : o.1 = some (.inl x)) (h1 : lw_av as 1 = a1) (h2 : lw_av as 2 = a2) (hb : ∀ s, (sx_sr s).1 ≤ σ s ∧ σ s ≤ (sx_sr s).2) (hW : lw_W ([(18538, 128, 255), (18543, 4, 255), (18590, 4, 255), (18593, 128, 255)], [(0, [(18538, (-1)), (1000000, 1)]), (0, [(18543, (-1)), (1000001, 1)]), ((-1), [(133, 1)]), (11, [(134, (-1))]), ((-7), [(19001, 1)]), (7, [(19001, (-1))]), ((-2), [(19002, 1)]), (2, [(19002, (-1))]), (0, [(19003, (-1))]), (0, [(1000000, 1), (1000003, (-1))]), (0, [(1000000, (-1)), (1000003, 1)]), (0, [(1000001, 1), (1000002, (-1))]), (0, [(1000001, (-1)), (1000002, 1)]), ((-1), [(19001, 1), (19002, (-1))]), ((-1), [(133, 1), (19002, (-1))]), ((-1), [(133, 1), (19001, (-1))])], [(9, (0, [])), (134, (1, [(134, 1)])), (7048, ((-2), [])), (7049, ((-2), [])), (8069, (0, [])), (11396, ((-2), [])), (18538, (0, [(1000000, 1)])), (18543, (0, [(1000001, 1)])), (18588, (0, [(18543, 1)])), (18589, (4, [])), (18590, (0, [(1000002, 1)])), (18591, (0, [(18538, 1)])), (18592, (128, [])), (18593, (0, [(1000003, 1)])), (18594, (2, []))], some (false, (1, []))) as σ σ' τ o) : lw_mwx_C a1 a2 x.toInt σ σ' := by
  unfold lw_mwx_C
  have b133 : 0 ≤ σ 133 ∧ σ 133 ≤ 8 := by
    have h0 := hb 133
    rw [show sx_sr 133 = (0, 8) from by decide +kernel] at h0
    exact h0
  have b134 : 0 ≤ σ 134 ∧ σ 134 ≤ 12 := by
    have h0 := hb 134
    rw [show sx_sr 134 = (0, 12) from by decide +kernel] at h0
    exact h0
  obtain ⟨hs, ht, hf, hr, hm, hw⟩ := hW
  have e1 : τ 19001 = a1 := by rw [ht 19001 (by decide) (by decide)]; exact h1
  have e2 : τ 19002 = a2 := by rw [ht 19002 (by decide) (by decide)]; exact h2
  have s133 : τ 133 = σ 133 := hs 133 (by decide)
  have s134 : τ 134 = σ 134 := hs 134 (by decide)
  clear hs ht hb
  rw [hx] at hr
  obtain ⟨y, hy, hv⟩ := hr
  cases hy
  replace hv : x.toInt = 1 + 0 := hv
  have f0 : 0 ≤ 0 + ((-1) * τ 18538 + (1 * τ 1000000 + 0)) := hf _ (List.Mem.head _)
  have f1 : 0 ≤ 0 + ((-1) * τ 18543 + (1 * τ 1000001 + 0)) := hf _ (List.Mem.tail _ (List.Mem.head _))
  have f2 : 0 ≤ (-1) + (1 * τ 133 + 0) := hf _ (List.Mem.tail _ (List.Mem.tail _ (List.Mem.head _)))
  have f3 : 0 ≤ 11 + ((-1) * τ 134 + 0) := hf _ (List.Mem.tail _ (List.Mem.tail _ (List.Mem.tail _ (List.Mem.head _))))
  have f4 : 0 ≤ (-7) + (1 * τ 19001 + 0) := hf _ (List.Mem.tail _ (List.Mem.tail _ (List.Mem.tail _ (List.Mem.tail _ (List.Mem.head _)))))
  have f5 : 0 ≤ 7 + ((-1) * τ 19001 + 0) := hf _ (List.Mem.tail _ (List.Mem.tail _ (List.Mem.tail _ (List.Mem.tail _ (List.Mem.tail _ (List.Mem.head _))))))
  have f6 : 0 ≤ (-2) + (1 * τ 19002 + 0) := hf _ (List.Mem.tail _ (List.Mem.tail _ (List.Mem.tail _ (List.Mem.tail _ (List.Mem.tail _ (List.Mem.tail _ (List.Mem.head _)))))))
  have f7 : 0 ≤ 2 + ((-1) * τ 19002 + 0) := hf _ (List.Mem.tail _ (List.Mem.tail _ (List.Mem.tail _ (List.Mem.tail _ (List.Mem.tail _ (List.Mem.tail _ (List.Mem.tail _ (List.Mem.head _))))))))
  have f8 : 0 ≤ 0 + ((-1) * τ 19003 + 0) := hf _ (List.Mem.tail _ (List.Mem.tail _ (List.Mem.tail _ (List.Mem.tail _ (List.Mem.tail _ (List.Mem.tail _ (List.Mem.tail _ (List.Mem.tail _ (List.Mem.head _)))))))))
  have f9 : 0 ≤ 0 + (1 * τ 1000000 + ((-1) * τ 1000003 + 0)) := hf _ (List.Mem.tail _ (List.Mem.tail _ (List.Mem.tail _ (List.Mem.tail _ (List.Mem.tail _ (List.Mem.tail _ (List.Mem.tail _ (List.Mem.tail _ (List.Mem.tail _ (List.Mem.head _))))))))))
  have f10 : 0 ≤ 0 + ((-1) * τ 1000000 + (1 * τ 1000003 + 0)) := hf _ (List.Mem.tail _ (List.Mem.tail _ (List.Mem.tail _ (List.Mem.tail _ (List.Mem.tail _ (List.Mem.tail _ (List.Mem.tail _ (List.Mem.tail _ (List.Mem.tail _ (List.Mem.tail _ (List.Mem.head _)))))))))))
  have f11 : 0 ≤ 0 + (1 * τ 1000001 + ((-1) * τ 1000002 + 0)) := hf _ (List.Mem.tail _ (List.Mem.tail _ (List.Mem.tail _ (List.Mem.tail _ (List.Mem.tail _ (List.Mem.tail _ (List.Mem.tail _ (List.Mem.tail _ (List.Mem.tail _ (List.Mem.tail _ (List.Mem.tail _ (List.Mem.head _))))))))))))
  have f12 : 0 ≤ 0 + ((-1) * τ 1000001 + (1 * τ 1000002 + 0)) := hf _ (List.Mem.tail _ (List.Mem.tail _ (List.Mem.tail _ (List.Mem.tail _ (List.Mem.tail _ (List.Mem.tail _ (List.Mem.tail _ (List.Mem.tail _ (List.Mem.tail _ (List.Mem.tail _ (List.Mem.tail _ (List.Mem.tail _ (List.Mem.head _)))))))))))))
  have f13 : 0 ≤ (-1) + (1 * τ 19001 + ((-1) * τ 19002 + 0)) := hf _ (List.Mem.tail _ (List.Mem.tail _ (List.Mem.tail _ (List.Mem.tail _ (List.Mem.tail _ (List.Mem.tail _ (List.Mem.tail _ (List.Mem.tail _ (List.Mem.tail _ (List.Mem.tail _ (List.Mem.tail _ (List.Mem.tail _ (List.Mem.tail _ (List.Mem.head _))))))))))))))
  have f14 : 0 ≤ (-1) + (1 * τ 133 + ((-1) * τ 19002 + 0)) := hf _ (List.Mem.tail _ (List.Mem.tail _ (List.Mem.tail _ (List.Mem.tail _ (List.Mem.tail _ (List.Mem.tail _ (List.Mem.tail _ (List.Mem.tail _ (List.Mem.tail _ (List.Mem.tail _ (List.Mem.tail _ (List.Mem.tail _ (List.Mem.tail _ (List.Mem.tail _ (List.Mem.head _)))))))))))))))
  have f15 : 0 ≤ (-1) + (1 * τ 133 + ((-1) * τ 19001 + 0)) := hf _ (List.Mem.tail _ (List.Mem.tail _ (List.Mem.tail _ (List.Mem.tail _ (List.Mem.tail _ (List.Mem.tail _ (List.Mem.tail _ (List.Mem.tail _ (List.Mem.tail _ (List.Mem.tail _ (List.Mem.tail _ (List.Mem.tail _ (List.Mem.tail _ (List.Mem.tail _ (List.Mem.tail _ (List.Mem.head _))))))))))))))))
  have m134 : σ' 134 = 1 + (1 * τ 134 + 0) := hm 134 (by decide)
  clear hf hm
  exact Or.inl ⟨by omega, ⟨by omega, by omega, by omega, by omega, by omega, by omega⟩, by omega⟩
theorem lw_mwx_194 {as : List rv_A} {σ σ' : Nat → Int} {o : rv_O} {x : Int32} {a1 a2 : Int} {τ : Nat → Int} (hx : o.1 = some (.inl x)) (h1 : lw_av as 1 = a1) (h2 : lw_av as 2 = a2) (hb : ∀ s, (sx_sr s).1 ≤ σ s ∧ σ s ≤ (sx_sr s).2) (hW : lw_W ([(18546, 128, 255), (18551, 4, 255), (18590, 4, 255), (18593, 128, 255)], [(0, [(18546, (-1)), (1000000, 1)]), (0, [(18551, (-1)), (1000001, 1)]), ((-1), [(133, 1)]), (11, [(134, (-1))]), ((-7), [(19001, 1)]), (7, [(19001, (-1))]), ((-2), [(19002, 1)]), (2, [(19002, (-1))]), ((-1), [(19003, 1)]), (0, [(1000000, 1), (1000003, (-1))]), (0, [(1000000, (-1)), (1000003, 1)]), (0, [(1000001, 1), (1000002, (-1))]), (0, [(1000001, (-1)), (1000002, 1)]), ((-1), [(19001, 1), (19002, (-1))]), ((-1), [(133, 1), (19002, (-1))]), ((-1), [(133, 1), (19001, (-1))])], [(9, (0, [])), (134, (1, [(134, 1)])), (7048, ((-2), [])), (7049, ((-2), [])), (8069, (0, [])), (11396, ((-2), [])), (18546, (0, [(1000000, 1)])), (18551, (0, [(1000001, 1)])), (18588, (0, [(18551, 1)])), (18589, (4, [])), (18590, (0, [(1000002, 1)])), (18591, (0, [(18546, 1)])), (18592, (128, [])), (18593, (0, [(1000003, 1)])), (18594, (2, []))], some (false, (1, []))) as σ σ' τ o) : lw_mwx_C a1 a2 x.toInt σ σ' := by
  unfold lw_mwx_C
  have b133 : 0 ≤ σ 133 ∧ σ 133 ≤ 8 := by
    have h0 := hb 133
    rw [show sx_sr 133 = (0, 8) from by decide +kernel] at h0
    exact h0
  have b134 : 0 ≤ σ 134 ∧ σ 134 ≤ 12 := by
    have h0 := hb 134
    rw [show sx_sr 134 = (0, 12) from by decide +kernel] at h0
    exact h0
  obtain ⟨hs, ht, hf, hr, hm, hw⟩ := hW
  have e1 : τ 19001 = a1 := by rw [ht 19001 (by decide) (by decide)]; exact h1
  have e2 : τ 19002 = a2 := by rw [ht 19002 (by decide) (by decide)]; exact h2
  have s133 : τ 133 = σ 133 := hs 133 (by decide)
  have s134 : τ 134 = σ 134 := hs 134 (by decide)
  clear hs ht hb
  rw [hx] at hr
  obtain ⟨y, hy, hv⟩ := hr
  cases hy
  replace hv : x.toInt = 1 + 0 := hv
  have f0 : 0 ≤ 0 + ((-1) * τ 18546 + (1 * τ 1000000 + 0)) := hf _ (List.Mem.head _)
  have f1 : 0 ≤ 0 + ((-1) * τ 18551 + (1 * τ 1000001 + 0)) := hf _ (List.Mem.tail _ (List.Mem.head _))
  have f2 : 0 ≤ (-1) + (1 * τ 133 + 0) := hf _ (List.Mem.tail _ (List.Mem.tail _ (List.Mem.head _)))
  have f3 : 0 ≤ 11 + ((-1) * τ 134 + 0) := hf _ (List.Mem.tail _ (List.Mem.tail _ (List.Mem.tail _ (List.Mem.head _))))
  have f4 : 0 ≤ (-7) + (1 * τ 19001 + 0) := hf _ (List.Mem.tail _ (List.Mem.tail _ (List.Mem.tail _ (List.Mem.tail _ (List.Mem.head _)))))
  have f5 : 0 ≤ 7 + ((-1) * τ 19001 + 0) := hf _ (List.Mem.tail _ (List.Mem.tail _ (List.Mem.tail _ (List.Mem.tail _ (List.Mem.tail _ (List.Mem.head _))))))
  have f6 : 0 ≤ (-2) + (1 * τ 19002 + 0) := hf _ (List.Mem.tail _ (List.Mem.tail _ (List.Mem.tail _ (List.Mem.tail _ (List.Mem.tail _ (List.Mem.tail _ (List.Mem.head _)))))))
  have f7 : 0 ≤ 2 + ((-1) * τ 19002 + 0) := hf _ (List.Mem.tail _ (List.Mem.tail _ (List.Mem.tail _ (List.Mem.tail _ (List.Mem.tail _ (List.Mem.tail _ (List.Mem.tail _ (List.Mem.head _))))))))
  have f8 : 0 ≤ (-1) + (1 * τ 19003 + 0) := hf _ (List.Mem.tail _ (List.Mem.tail _ (List.Mem.tail _ (List.Mem.tail _ (List.Mem.tail _ (List.Mem.tail _ (List.Mem.tail _ (List.Mem.tail _ (List.Mem.head _)))))))))
  have f9 : 0 ≤ 0 + (1 * τ 1000000 + ((-1) * τ 1000003 + 0)) := hf _ (List.Mem.tail _ (List.Mem.tail _ (List.Mem.tail _ (List.Mem.tail _ (List.Mem.tail _ (List.Mem.tail _ (List.Mem.tail _ (List.Mem.tail _ (List.Mem.tail _ (List.Mem.head _))))))))))
  have f10 : 0 ≤ 0 + ((-1) * τ 1000000 + (1 * τ 1000003 + 0)) := hf _ (List.Mem.tail _ (List.Mem.tail _ (List.Mem.tail _ (List.Mem.tail _ (List.Mem.tail _ (List.Mem.tail _ (List.Mem.tail _ (List.Mem.tail _ (List.Mem.tail _ (List.Mem.tail _ (List.Mem.head _)))))))))))
  have f11 : 0 ≤ 0 + (1 * τ 1000001 + ((-1) * τ 1000002 + 0)) := hf _ (List.Mem.tail _ (List.Mem.tail _ (List.Mem.tail _ (List.Mem.tail _ (List.Mem.tail _ (List.Mem.tail _ (List.Mem.tail _ (List.Mem.tail _ (List.Mem.tail _ (List.Mem.tail _ (List.Mem.tail _ (List.Mem.head _))))))))))))
  have f12 : 0 ≤ 0 + ((-1) * τ 1000001 + (1 * τ 1000002 + 0)) := hf _ (List.Mem.tail _ (List.Mem.tail _ (List.Mem.tail _ (List.Mem.tail _ (List.Mem.tail _ (List.Mem.tail _ (List.Mem.tail _ (List.Mem.tail _ (List.Mem.tail _ (List.Mem.tail _ (List.Mem.tail _ (List.Mem.tail _ (List.Mem.head _)))))))))))))
  have f13 : 0 ≤ (-1) + (1 * τ 19001 + ((-1) * τ 19002 + 0)) := hf _ (List.Mem.tail _ (List.Mem.tail _ (List.Mem.tail _ (List.Mem.tail _ (List.Mem.tail _ (List.Mem.tail _ (List.Mem.tail _ (List.Mem.tail _ (List.Mem.tail _ (List.Mem.tail _ (List.Mem.tail _ (List.Mem.tail _ (List.Mem.tail _ (List.Mem.head _))))))))))))))
  have f14 : 0 ≤ (-1) + (1 * τ 133 + ((-1) * τ 19002 + 0)) := hf _ (List.Mem.tail _ (List.Mem.tail _ (List.Mem.tail _ (List.Mem.tail _ (List.Mem.tail _ (List.Mem.tail _ (List.Mem.tail _ (List.Mem.tail _ (List.Mem.tail _ (List.Mem.tail _ (List.Mem.tail _ (List.Mem.tail _ (List.Mem.tail _ (List.Mem.tail _ (List.Mem.head _)))))))))))))))
  have f15 : 0 ≤ (-1) + (1 * τ 133 + ((-1) * τ 19001 + 0)) := hf _ (List.Mem.tail _ (List.Mem.tail _ (List.Mem.tail _ (List.Mem.tail _ (List.Mem.tail _ (List.Mem.tail _ (List.Mem.tail _ (List.Mem.tail _ (List.Mem.tail _ (List.Mem.tail _ (List.Mem.tail _ (List.Mem.tail _ (List.Mem.tail _ (List.Mem.tail _ (List.Mem.tail _ (List.Mem.head _))))))))))))))))
  have m134 : σ' 134 = 1 + (1 * τ 134 + 0) := hm 134 (by decide)
  clear hf hm
  exact Or.inl ⟨by omega, ⟨by omega, by omega, by omega, by omega, by omega, by omega⟩, by omega⟩
theorem lw_mwx_195 {as : List rv_A} {σ σ' : Nat → Int} {o : rv_O} {x : Int32} {a1 a2 : Int} {τ : Nat → Int} (hx : o.1 = some (.inl x)) (h1 : lw_av as 1 = a1) (h2 : lw_av as 2 = a2) (hb : ∀ s, (sx_sr s).1 ≤ σ s ∧ σ s ≤ (sx_sr s).2) (hW : lw_W ([(18539, 128, 255), (18543, 8, 255), (18590, 8, 255), (18593, 128, 255)], [(0, [(18539, (-1)), (1000000, 1)]), (0, [(18543, (-1)), (1000001, 1)]), ((-1), [(133, 1)]), (11, [(134, (-1))]), ((-7), [(19001, 1)]), (7, [(19001, (-1))]), ((-3), [(19002, 1)]), (3, [(19002, (-1))]), (0, [(19003, (-1))]), (0, [(1000000, 1), (1000003, (-1))]), (0, [(1000000, (-1)), (1000003, 1)]), (0, [(1000001, 1), (1000002, (-1))]), (0, [(1000001, (-1)), (1000002, 1)]), ((-1), [(19001, 1), (19002, (-1))]), ((-1), [(133, 1), (19002, (-1))]), ((-1), [(133, 1), (19001, (-1))])], [(9, (0, [])), (134, (1, [(134, 1)])), (7048, ((-2), [])), (7049, ((-2), [])), (8069, (0, [])), (11396, ((-2), [])), (18539, (0, [(1000000, 1)])), (18543, (0, [(1000001, 1)])), (18588, (0, [(18543, 1)])), (18589, (8, [])), (18590, (0, [(1000002, 1)])), (18591, (0, [(18539, 1)])), (18592, (128, [])), (18593, (0, [(1000003, 1)])), (18594, (2, []))], some (false, (1, []))) as σ σ' τ o) : lw_mwx_C a1 a2 x.toInt σ σ' := by
  unfold lw_mwx_C
  have b133 : 0 ≤ σ 133 ∧ σ 133 ≤ 8 := by
    have h0 := hb 133
    rw [show sx_sr 133 = (0, 8) from by decide +kernel] at h0
    exact h0
  have b134 : 0 ≤ σ 134 ∧ σ 134 ≤ 12 := by
    have h0 := hb 134
    rw [show sx_sr 134 = (0, 12) from by decide +kernel] at h0
    exact h0
  obtain ⟨hs, ht, hf, hr, hm, hw⟩ := hW
  have e1 : τ 19001 = a1 := by rw [ht 19001 (by decide) (by decide)]; exact h1
  have e2 : τ 19002 = a2 := by rw [ht 19002 (by decide) (by decide)]; exact h2
  have s133 : τ 133 = σ 133 := hs 133 (by decide)
  have s134 : τ 134 = σ 134 := hs 134 (by decide)
  clear hs ht hb
  rw [hx] at hr
  obtain ⟨y, hy, hv⟩ := hr
  cases hy
  replace hv : x.toInt = 1 + 0 := hv
  have f0 : 0 ≤ 0 + ((-1) * τ 18539 + (1 * τ 1000000 + 0)) := hf _ (List.Mem.head _)
  have f1 : 0 ≤ 0 + ((-1) * τ 18543 + (1 * τ 1000001 + 0)) := hf _ (List.Mem.tail _ (List.Mem.head _))
  have f2 : 0 ≤ (-1) + (1 * τ 133 + 0) := hf _ (List.Mem.tail _ (List.Mem.tail _ (List.Mem.head _)))
  have f3 : 0 ≤ 11 + ((-1) * τ 134 + 0) := hf _ (List.Mem.tail _ (List.Mem.tail _ (List.Mem.tail _ (List.Mem.head _))))
  have f4 : 0 ≤ (-7) + (1 * τ 19001 + 0) := hf _ (List.Mem.tail _ (List.Mem.tail _ (List.Mem.tail _ (List.Mem.tail _ (List.Mem.head _)))))
  have f5 : 0 ≤ 7 + ((-1) * τ 19001 + 0) := hf _ (List.Mem.tail _ (List.Mem.tail _ (List.Mem.tail _ (List.Mem.tail _ (List.Mem.tail _ (List.Mem.head _))))))
  have f6 : 0 ≤ (-3) + (1 * τ 19002 + 0) := hf _ (List.Mem.tail _ (List.Mem.tail _ (List.Mem.tail _ (List.Mem.tail _ (List.Mem.tail _ (List.Mem.tail _ (List.Mem.head _)))))))
  have f7 : 0 ≤ 3 + ((-1) * τ 19002 + 0) := hf _ (List.Mem.tail _ (List.Mem.tail _ (List.Mem.tail _ (List.Mem.tail _ (List.Mem.tail _ (List.Mem.tail _ (List.Mem.tail _ (List.Mem.head _))))))))
  have f8 : 0 ≤ 0 + ((-1) * τ 19003 + 0) := hf _ (List.Mem.tail _ (List.Mem.tail _ (List.Mem.tail _ (List.Mem.tail _ (List.Mem.tail _ (List.Mem.tail _ (List.Mem.tail _ (List.Mem.tail _ (List.Mem.head _)))))))))
  have f9 : 0 ≤ 0 + (1 * τ 1000000 + ((-1) * τ 1000003 + 0)) := hf _ (List.Mem.tail _ (List.Mem.tail _ (List.Mem.tail _ (List.Mem.tail _ (List.Mem.tail _ (List.Mem.tail _ (List.Mem.tail _ (List.Mem.tail _ (List.Mem.tail _ (List.Mem.head _))))))))))
  have f10 : 0 ≤ 0 + ((-1) * τ 1000000 + (1 * τ 1000003 + 0)) := hf _ (List.Mem.tail _ (List.Mem.tail _ (List.Mem.tail _ (List.Mem.tail _ (List.Mem.tail _ (List.Mem.tail _ (List.Mem.tail _ (List.Mem.tail _ (List.Mem.tail _ (List.Mem.tail _ (List.Mem.head _)))))))))))
  have f11 : 0 ≤ 0 + (1 * τ 1000001 + ((-1) * τ 1000002 + 0)) := hf _ (List.Mem.tail _ (List.Mem.tail _ (List.Mem.tail _ (List.Mem.tail _ (List.Mem.tail _ (List.Mem.tail _ (List.Mem.tail _ (List.Mem.tail _ (List.Mem.tail _ (List.Mem.tail _ (List.Mem.tail _ (List.Mem.head _))))))))))))
  have f12 : 0 ≤ 0 + ((-1) * τ 1000001 + (1 * τ 1000002 + 0)) := hf _ (List.Mem.tail _ (List.Mem.tail _ (List.Mem.tail _ (List.Mem.tail _ (List.Mem.tail _ (List.Mem.tail _ (List.Mem.tail _ (List.Mem.tail _ (List.Mem.tail _ (List.Mem.tail _ (List.Mem.tail _ (List.Mem.tail _ (List.Mem.head _)))))))))))))
  have f13 : 0 ≤ (-1) + (1 * τ 19001 + ((-1) * τ 19002 + 0)) := hf _ (List.Mem.tail _ (List.Mem.tail _ (List.Mem.tail _ (List.Mem.tail _ (List.Mem.tail _ (List.Mem.tail _ (List.Mem.tail _ (List.Mem.tail _ (List.Mem.tail _ (List.Mem.tail _ (List.Mem.tail _ (List.Mem.tail _ (List.Mem.tail _ (List.Mem.head _))))))))))))))
  have f14 : 0 ≤ (-1) + (1 * τ 133 + ((-1) * τ 19002 + 0)) := hf _ (List.Mem.tail _ (List.Mem.tail _ (List.Mem.tail _ (List.Mem.tail _ (List.Mem.tail _ (List.Mem.tail _ (List.Mem.tail _ (List.Mem.tail _ (List.Mem.tail _ (List.Mem.tail _ (List.Mem.tail _ (List.Mem.tail _ (List.Mem.tail _ (List.Mem.tail _ (List.Mem.head _)))))))))))))))
  have f15 : 0 ≤ (-1) + (1 * τ 133 + ((-1) * τ 19001 + 0)) := hf _ (List.Mem.tail _ (List.Mem.tail _ (List.Mem.tail _ (List.Mem.tail _ (List.Mem.tail _ (List.Mem.tail _ (List.Mem.tail _ (List.Mem.tail _ (List.Mem.tail _ (List.Mem.tail _ (List.Mem.tail _ (List.Mem.tail _ (List.Mem.tail _ (List.Mem.tail _ (List.Mem.tail _ (List.Mem.head _))))))))))))))))
  have m134 : σ' 134 = 1 + (1 * τ 134 + 0) := hm 134 (by decide)
  clear hf hm
  exact Or.inl ⟨by omega, ⟨by omega, by omega, by omega, by omega, by omega, by omega⟩, by omega⟩
theorem lw_mwx_196 {as : List rv_A} {σ σ' : Nat → Int} {o : rv_O} {x : Int32} {a1 a2 : Int} {τ : Nat → Int} (hx : o.1 = some (.inl x)) (h1 : lw_av as 1 = a1) (h2 : lw_av as 2 = a2) (hb : ∀ s, (sx_sr s).1 ≤ σ s ∧ σ s ≤ (sx_sr s).2) (hW : lw_W ([(18547, 128, 255), (18551, 8, 255), (18590, 8, 255), (18593, 128, 255)], [(0, [(18547, (-1)), (1000000, 1)]), (0, [(18551, (-1)), (1000001, 1)]), ((-1), [(133, 1)]), (11, [(134, (-1))]), ((-7), [(19001, 1)]), (7, [(19001, (-1))]), ((-3), [(19002, 1)]), (3, [(19002, (-1))]), ((-1), [(19003, 1)]), (0, [(1000000, 1), (1000003, (-1))]), (0, [(1000000, (-1)), (1000003, 1)]), (0, [(1000001, 1), (1000002, (-1))]), (0, [(1000001, (-1)), (1000002, 1)]), ((-1), [(19001, 1), (19002, (-1))]), ((-1), [(133, 1), (19002, (-1))]), ((-1), [(133, 1), (19001, (-1))])], [(9, (0, [])), (134, (1, [(134, 1)])), (7048, ((-2), [])), (7049, ((-2), [])), (8069, (0, [])), (11396, ((-2), [])), (18547, (0, [(1000000, 1)])), (18551, (0, [(1000001, 1)])), (18588, (0, [(18551, 1)])), (18589, (8, [])), (18590, (0, [(1000002, 1)])), (18591, (0, [(18547, 1)])), (18592, (128, [])), (18593, (0, [(1000003, 1)])), (18594, (2, []))], some (false, (1, []))) as σ σ' τ o) : lw_mwx_C a1 a2 x.toInt σ σ' := by
  unfold lw_mwx_C
  have b133 : 0 ≤ σ 133 ∧ σ 133 ≤ 8 := by
    have h0 := hb 133
    rw [show sx_sr 133 = (0, 8) from by decide +kernel] at h0
    exact h0
  have b134 : 0 ≤ σ 134 ∧ σ 134 ≤ 12 := by
    have h0 := hb 134
    rw [show sx_sr 134 = (0, 12) from by decide +kernel] at h0
    exact h0
  obtain ⟨hs, ht, hf, hr, hm, hw⟩ := hW
  have e1 : τ 19001 = a1 := by rw [ht 19001 (by decide) (by decide)]; exact h1
  have e2 : τ 19002 = a2 := by rw [ht 19002 (by decide) (by decide)]; exact h2
  have s133 : τ 133 = σ 133 := hs 133 (by decide)
  have s134 : τ 134 = σ 134 := hs 134 (by decide)
  clear hs ht hb
  rw [hx] at hr
  obtain ⟨y, hy, hv⟩ := hr
  cases hy
  replace hv : x.toInt = 1 + 0 := hv
  have f0 : 0 ≤ 0 + ((-1) * τ 18547 + (1 * τ 1000000 + 0)) := hf _ (List.Mem.head _)
  have f1 : 0 ≤ 0 + ((-1) * τ 18551 + (1 * τ 1000001 + 0)) := hf _ (List.Mem.tail _ (List.Mem.head _))
  have f2 : 0 ≤ (-1) + (1 * τ 133 + 0) := hf _ (List.Mem.tail _ (List.Mem.tail _ (List.Mem.head _)))
  have f3 : 0 ≤ 11 + ((-1) * τ 134 + 0) := hf _ (List.Mem.tail _ (List.Mem.tail _ (List.Mem.tail _ (List.Mem.head _))))
  have f4 : 0 ≤ (-7) + (1 * τ 19001 + 0) := hf _ (List.Mem.tail _ (List.Mem.tail _ (List.Mem.tail _ (List.Mem.tail _ (List.Mem.head _)))))
  have f5 : 0 ≤ 7 + ((-1) * τ 19001 + 0) := hf _ (List.Mem.tail _ (List.Mem.tail _ (List.Mem.tail _ (List.Mem.tail _ (List.Mem.tail _ (List.Mem.head _))))))
  have f6 : 0 ≤ (-3) + (1 * τ 19002 + 0) := hf _ (List.Mem.tail _ (List.Mem.tail _ (List.Mem.tail _ (List.Mem.tail _ (List.Mem.tail _ (List.Mem.tail _ (List.Mem.head _)))))))
  have f7 : 0 ≤ 3 + ((-1) * τ 19002 + 0) := hf _ (List.Mem.tail _ (List.Mem.tail _ (List.Mem.tail _ (List.Mem.tail _ (List.Mem.tail _ (List.Mem.tail _ (List.Mem.tail _ (List.Mem.head _))))))))
  have f8 : 0 ≤ (-1) + (1 * τ 19003 + 0) := hf _ (List.Mem.tail _ (List.Mem.tail _ (List.Mem.tail _ (List.Mem.tail _ (List.Mem.tail _ (List.Mem.tail _ (List.Mem.tail _ (List.Mem.tail _ (List.Mem.head _)))))))))
  have f9 : 0 ≤ 0 + (1 * τ 1000000 + ((-1) * τ 1000003 + 0)) := hf _ (List.Mem.tail _ (List.Mem.tail _ (List.Mem.tail _ (List.Mem.tail _ (List.Mem.tail _ (List.Mem.tail _ (List.Mem.tail _ (List.Mem.tail _ (List.Mem.tail _ (List.Mem.head _))))))))))
  have f10 : 0 ≤ 0 + ((-1) * τ 1000000 + (1 * τ 1000003 + 0)) := hf _ (List.Mem.tail _ (List.Mem.tail _ (List.Mem.tail _ (List.Mem.tail _ (List.Mem.tail _ (List.Mem.tail _ (List.Mem.tail _ (List.Mem.tail _ (List.Mem.tail _ (List.Mem.tail _ (List.Mem.head _)))))))))))
  have f11 : 0 ≤ 0 + (1 * τ 1000001 + ((-1) * τ 1000002 + 0)) := hf _ (List.Mem.tail _ (List.Mem.tail _ (List.Mem.tail _ (List.Mem.tail _ (List.Mem.tail _ (List.Mem.tail _ (List.Mem.tail _ (List.Mem.tail _ (List.Mem.tail _ (List.Mem.tail _ (List.Mem.tail _ (List.Mem.head _))))))))))))
  have f12 : 0 ≤ 0 + ((-1) * τ 1000001 + (1 * τ 1000002 + 0)) := hf _ (List.Mem.tail _ (List.Mem.tail _ (List.Mem.tail _ (List.Mem.tail _ (List.Mem.tail _ (List.Mem.tail _ (List.Mem.tail _ (List.Mem.tail _ (List.Mem.tail _ (List.Mem.tail _ (List.Mem.tail _ (List.Mem.tail _ (List.Mem.head _)))))))))))))
  have f13 : 0 ≤ (-1) + (1 * τ 19001 + ((-1) * τ 19002 + 0)) := hf _ (List.Mem.tail _ (List.Mem.tail _ (List.Mem.tail _ (List.Mem.tail _ (List.Mem.tail _ (List.Mem.tail _ (List.Mem.tail _ (List.Mem.tail _ (List.Mem.tail _ (List.Mem.tail _ (List.Mem.tail _ (List.Mem.tail _ (List.Mem.tail _ (List.Mem.head _))))))))))))))
  have f14 : 0 ≤ (-1) + (1 * τ 133 + ((-1) * τ 19002 + 0)) := hf _ (List.Mem.tail _ (List.Mem.tail _ (List.Mem.tail _ (List.Mem.tail _ (List.Mem.tail _ (List.Mem.tail _ (List.Mem.tail _ (List.Mem.tail _ (List.Mem.tail _ (List.Mem.tail _ (List.Mem.tail _ (List.Mem.tail _ (List.Mem.tail _ (List.Mem.tail _ (List.Mem.head _)))))))))))))))
  have f15 : 0 ≤ (-1) + (1 * τ 133 + ((-1) * τ 19001 + 0)) := hf _ (List.Mem.tail _ (List.Mem.tail _ (List.Mem.tail _ (List.Mem.tail _ (List.Mem.tail _ (List.Mem.tail _ (List.Mem.tail _ (List.Mem.tail _ (List.Mem.tail _ (List.Mem.tail _ (List.Mem.tail _ (List.Mem.tail _ (List.Mem.tail _ (List.Mem.tail _ (List.Mem.tail _ (List.Mem.head _))))))))))))))))
  have m134 : σ' 134 = 1 + (1 * τ 134 + 0) := hm 134 (by decide)
  clear hf hm
  exact Or.inl ⟨by omega, ⟨by omega, by omega, by omega, by omega, by omega, by omega⟩, by omega⟩
theorem lw_mwx_197 {as : List rv_A} {σ σ' : Nat → Int} {o : rv_O} {x : Int32} {a1 a2 : Int} {τ : Nat → Int} (hx : o.1 = some (.inl x)) (h1 : lw_av as 1 = a1) (h2 : lw_av as 2 = a2) (hb : ∀ s, (sx_sr s).1 ≤ σ s ∧ σ s ≤ (sx_sr s).2) (hW : lw_W ([(18540, 128, 255), (18543, 16, 255), (18590, 16, 255), (18593, 128, 255)], [(0, [(18540, (-1)), (1000000, 1)]), (0, [(18543, (-1)), (1000001, 1)]), ((-1), [(133, 1)]), (11, [(134, (-1))]), ((-7), [(19001, 1)]), (7, [(19001, (-1))]), ((-4), [(19002, 1)]), (4, [(19002, (-1))]), (0, [(19003, (-1))]), (0, [(1000000, 1), (1000003, (-1))]), (0, [(1000000, (-1)), (1000003, 1)]), (0, [(1000001, 1), (1000002, (-1))]), (0, [(1000001, (-1)), (1000002, 1)]), ((-1), [(19001, 1), (19002, (-1))]), ((-1), [(133, 1), (19002, (-1))]), ((-1), [(133, 1), (19001, (-1))])], [(9, (0, [])), (134, (1, [(134, 1)])), (7048, ((-2), [])), (7049, ((-2), [])), (8069, (0, [])), (11396, ((-2), [])), (18540, (0, [(1000000, 1)])), (18543, (0, [(1000001, 1)])), (18588, (0, [(18543, 1)])), (18589, (16, [])), (18590, (0, [(1000002, 1)])), (18591, (0, [(18540, 1)])), (18592, (128, [])), (18593, (0, [(1000003, 1)])), (18594, (2, []))], some (false, (1, []))) as σ σ' τ o) : lw_mwx_C a1 a2 x.toInt σ σ' := by
  unfold lw_mwx_C
  have b133 : 0 ≤ σ 133 ∧ σ 133 ≤ 8 := by
    have h0 := hb 133
    rw [show sx_sr 133 = (0, 8) from by decide +kernel] at h0
    exact h0
  have b134 : 0 ≤ σ 134 ∧ σ 134 ≤ 12 := by
    have h0 := hb 134
    rw [show sx_sr 134 = (0, 12) from by decide +kernel] at h0
    exact h0
  obtain ⟨hs, ht, hf, hr, hm, hw⟩ := hW
  have e1 : τ 19001 = a1 := by rw [ht 19001 (by decide) (by decide)]; exact h1
  have e2 : τ 19002 = a2 := by rw [ht 19002 (by decide) (by decide)]; exact h2
  have s133 : τ 133 = σ 133 := hs 133 (by decide)
  have s134 : τ 134 = σ 134 := hs 134 (by decide)
  clear hs ht hb
  rw [hx] at hr
  obtain ⟨y, hy, hv⟩ := hr
  cases hy
  replace hv : x.toInt = 1 + 0 := hv
  have f0 : 0 ≤ 0 + ((-1) * τ 18540 + (1 * τ 1000000 + 0)) := hf _ (List.Mem.head _)
  have f1 : 0 ≤ 0 + ((-1) * τ 18543 + (1 * τ 1000001 + 0)) := hf _ (List.Mem.tail _ (List.Mem.head _))
  have f2 : 0 ≤ (-1) + (1 * τ 133 + 0) := hf _ (List.Mem.tail _ (List.Mem.tail _ (List.Mem.head _)))
  have f3 : 0 ≤ 11 + ((-1) * τ 134 + 0) := hf _ (List.Mem.tail _ (List.Mem.tail _ (List.Mem.tail _ (List.Mem.head _))))
  have f4 : 0 ≤ (-7) + (1 * τ 19001 + 0) := hf _ (List.Mem.tail _ (List.Mem.tail _ (List.Mem.tail _ (List.Mem.tail _ (List.Mem.head _)))))
  have f5 : 0 ≤ 7 + ((-1) * τ 19001 + 0) := hf _ (List.Mem.tail _ (List.Mem.tail _ (List.Mem.tail _ (List.Mem.tail _ (List.Mem.tail _ (List.Mem.head _))))))
  have f6 : 0 ≤ (-4) + (1 * τ 19002 + 0) := hf _ (List.Mem.tail _ (List.Mem.tail _ (List.Mem.tail _ (List.Mem.tail _ (List.Mem.tail _ (List.Mem.tail _ (List.Mem.head _)))))))
  have f7 : 0 ≤ 4 + ((-1) * τ 19002 + 0) := hf _ (List.Mem.tail _ (List.Mem.tail _ (List.Mem.tail _ (List.Mem.tail _ (List.Mem.tail _ (List.Mem.tail _ (List.Mem.tail _ (List.Mem.head _))))))))
  have f8 : 0 ≤ 0 + ((-1) * τ 19003 + 0) := hf _ (List.Mem.tail _ (List.Mem.tail _ (List.Mem.tail _ (List.Mem.tail _ (List.Mem.tail _ (List.Mem.tail _ (List.Mem.tail _ (List.Mem.tail _ (List.Mem.head _)))))))))
  have f9 : 0 ≤ 0 + (1 * τ 1000000 + ((-1) * τ 1000003 + 0)) := hf _ (List.Mem.tail _ (List.Mem.tail _ (List.Mem.tail _ (List.Mem.tail _ (List.Mem.tail _ (List.Mem.tail _ (List.Mem.tail _ (List.Mem.tail _ (List.Mem.tail _ (List.Mem.head _))))))))))
  have f10 : 0 ≤ 0 + ((-1) * τ 1000000 + (1 * τ 1000003 + 0)) := hf _ (List.Mem.tail _ (List.Mem.tail _ (List.Mem.tail _ (List.Mem.tail _ (List.Mem.tail _ (List.Mem.tail _ (List.Mem.tail _ (List.Mem.tail _ (List.Mem.tail _ (List.Mem.tail _ (List.Mem.head _)))))))))))
  have f11 : 0 ≤ 0 + (1 * τ 1000001 + ((-1) * τ 1000002 + 0)) := hf _ (List.Mem.tail _ (List.Mem.tail _ (List.Mem.tail _ (List.Mem.tail _ (List.Mem.tail _ (List.Mem.tail _ (List.Mem.tail _ (List.Mem.tail _ (List.Mem.tail _ (List.Mem.tail _ (List.Mem.tail _ (List.Mem.head _))))))))))))
  have f12 : 0 ≤ 0 + ((-1) * τ 1000001 + (1 * τ 1000002 + 0)) := hf _ (List.Mem.tail _ (List.Mem.tail _ (List.Mem.tail _ (List.Mem.tail _ (List.Mem.tail _ (List.Mem.tail _ (List.Mem.tail _ (List.Mem.tail _ (List.Mem.tail _ (List.Mem.tail _ (List.Mem.tail _ (List.Mem.tail _ (List.Mem.head _)))))))))))))
  have f13 : 0 ≤ (-1) + (1 * τ 19001 + ((-1) * τ 19002 + 0)) := hf _ (List.Mem.tail _ (List.Mem.tail _ (List.Mem.tail _ (List.Mem.tail _ (List.Mem.tail _ (List.Mem.tail _ (List.Mem.tail _ (List.Mem.tail _ (List.Mem.tail _ (List.Mem.tail _ (List.Mem.tail _ (List.Mem.tail _ (List.Mem.tail _ (List.Mem.head _))))))))))))))
  have f14 : 0 ≤ (-1) + (1 * τ 133 + ((-1) * τ 19002 + 0)) := hf _ (List.Mem.tail _ (List.Mem.tail _ (List.Mem.tail _ (List.Mem.tail _ (List.Mem.tail _ (List.Mem.tail _ (List.Mem.tail _ (List.Mem.tail _ (List.Mem.tail _ (List.Mem.tail _ (List.Mem.tail _ (List.Mem.tail _ (List.Mem.tail _ (List.Mem.tail _ (List.Mem.head _)))))))))))))))
  have f15 : 0 ≤ (-1) + (1 * τ 133 + ((-1) * τ 19001 + 0)) := hf _ (List.Mem.tail _ (List.Mem.tail _ (List.Mem.tail _ (List.Mem.tail _ (List.Mem.tail _ (List.Mem.tail _ (List.Mem.tail _ (List.Mem.tail _ (List.Mem.tail _ (List.Mem.tail _ (List.Mem.tail _ (List.Mem.tail _ (List.Mem.tail _ (List.Mem.tail _ (List.Mem.tail _ (List.Mem.head _))))))))))))))))
  have m134 : σ' 134 = 1 + (1 * τ 134 + 0) := hm 134 (by decide)
  clear hf hm
  exact Or.inl ⟨by omega, ⟨by omega, by omega, by omega, by omega, by omega, by omega⟩, by omega⟩
theorem lw_mwx_198 {as : List rv_A} {σ σ' : Nat → Int} {o : rv_O} {x : Int32} {a1 a2 : Int} {τ : Nat → Int} (hx : o.1 = some (.inl x)) (h1 : lw_av as 1 = a1) (h2 : lw_av as 2 = a2) (hb : ∀ s, (sx_sr s).1 ≤ σ s ∧ σ s ≤ (sx_sr s).2) (hW : lw_W ([(18548, 128, 255), (18551, 16, 255), (18590, 16, 255), (18593, 128, 255)], [(0, [(18548, (-1)), (1000000, 1)]), (0, [(18551, (-1)), (1000001, 1)]), ((-1), [(133, 1)]), (11, [(134, (-1))]), ((-7), [(19001, 1)]), (7, [(19001, (-1))]), ((-4), [(19002, 1)]), (4, [(19002, (-1))]), ((-1), [(19003, 1)]), (0, [(1000000, 1), (1000003, (-1))]), (0, [(1000000, (-1)), (1000003, 1)]), (0, [(1000001, 1), (1000002, (-1))]), (0, [(1000001, (-1)), (1000002, 1)]), ((-1), [(19001, 1), (19002, (-1))]), ((-1), [(133, 1), (19002, (-1))]), ((-1), [(133, 1), (19001, (-1))])], [(9, (0, [])), (134, (1, [(134, 1)])), (7048, ((-2), [])), (7049, ((-2), [])), (8069, (0, [])), (11396, ((-2), [])), (18548, (0, [(1000000, 1)])), (18551, (0, [(1000001, 1)])), (18588, (0, [(18551, 1)])), (18589, (16, [])), (18590, (0, [(1000002, 1)])), (18591, (0, [(18548, 1)])), (18592, (128, [])), (18593, (0, [(1000003, 1)])), (18594, (2, []))], some (false, (1, []))) as σ σ' τ o) : lw_mwx_C a1 a2 x.toInt σ σ' := by
  unfold lw_mwx_C
  have b133 : 0 ≤ σ 133 ∧ σ 133 ≤ 8 := by
    have h0 := hb 133
    rw [show sx_sr 133 = (0, 8) from by decide +kernel] at h0
    exact h0
  have b134 : 0 ≤ σ 134 ∧ σ 134 ≤ 12 := by
    have h0 := hb 134
    rw [show sx_sr 134 = (0, 12) from by decide +kernel] at h0
    exact h0
  obtain ⟨hs, ht, hf, hr, hm, hw⟩ := hW
  have e1 : τ 19001 = a1 := by rw [ht 19001 (by decide) (by decide)]; exact h1
  have e2 : τ 19002 = a2 := by rw [ht 19002 (by decide) (by decide)]; exact h2
  have s133 : τ 133 = σ 133 := hs 133 (by decide)
  have s134 : τ 134 = σ 134 := hs 134 (by decide)
  clear hs ht hb
  rw [hx] at hr
  obtain ⟨y, hy, hv⟩ := hr
  cases hy
  replace hv : x.toInt = 1 + 0 := hv
  have f0 : 0 ≤ 0 + ((-1) * τ 18548 + (1 * τ 1000000 + 0)) := hf _ (List.Mem.head _)
  have f1 : 0 ≤ 0 + ((-1) * τ 18551 + (1 * τ 1000001 + 0)) := hf _ (List.Mem.tail _ (List.Mem.head _))
  have f2 : 0 ≤ (-1) + (1 * τ 133 + 0) := hf _ (List.Mem.tail _ (List.Mem.tail _ (List.Mem.head _)))
  have f3 : 0 ≤ 11 + ((-1) * τ 134 + 0) := hf _ (List.Mem.tail _ (List.Mem.tail _ (List.Mem.tail _ (List.Mem.head _))))
  have f4 : 0 ≤ (-7) + (1 * τ 19001 + 0) := hf _ (List.Mem.tail _ (List.Mem.tail _ (List.Mem.tail _ (List.Mem.tail _ (List.Mem.head _)))))
  have f5 : 0 ≤ 7 + ((-1) * τ 19001 + 0) := hf _ (List.Mem.tail _ (List.Mem.tail _ (List.Mem.tail _ (List.Mem.tail _ (List.Mem.tail _ (List.Mem.head _))))))
  have f6 : 0 ≤ (-4) + (1 * τ 19002 + 0) := hf _ (List.Mem.tail _ (List.Mem.tail _ (List.Mem.tail _ (List.Mem.tail _ (List.Mem.tail _ (List.Mem.tail _ (List.Mem.head _)))))))
  have f7 : 0 ≤ 4 + ((-1) * τ 19002 + 0) := hf _ (List.Mem.tail _ (List.Mem.tail _ (List.Mem.tail _ (List.Mem.tail _ (List.Mem.tail _ (List.Mem.tail _ (List.Mem.tail _ (List.Mem.head _))))))))
  have f8 : 0 ≤ (-1) + (1 * τ 19003 + 0) := hf _ (List.Mem.tail _ (List.Mem.tail _ (List.Mem.tail _ (List.Mem.tail _ (List.Mem.tail _ (List.Mem.tail _ (List.Mem.tail _ (List.Mem.tail _ (List.Mem.head _)))))))))
  have f9 : 0 ≤ 0 + (1 * τ 1000000 + ((-1) * τ 1000003 + 0)) := hf _ (List.Mem.tail _ (List.Mem.tail _ (List.Mem.tail _ (List.Mem.tail _ (List.Mem.tail _ (List.Mem.tail _ (List.Mem.tail _ (List.Mem.tail _ (List.Mem.tail _ (List.Mem.head _))))))))))
  have f10 : 0 ≤ 0 + ((-1) * τ 1000000 + (1 * τ 1000003 + 0)) := hf _ (List.Mem.tail _ (List.Mem.tail _ (List.Mem.tail _ (List.Mem.tail _ (List.Mem.tail _ (List.Mem.tail _ (List.Mem.tail _ (List.Mem.tail _ (List.Mem.tail _ (List.Mem.tail _ (List.Mem.head _)))))))))))
  have f11 : 0 ≤ 0 + (1 * τ 1000001 + ((-1) * τ 1000002 + 0)) := hf _ (List.Mem.tail _ (List.Mem.tail _ (List.Mem.tail _ (List.Mem.tail _ (List.Mem.tail _ (List.Mem.tail _ (List.Mem.tail _ (List.Mem.tail _ (List.Mem.tail _ (List.Mem.tail _ (List.Mem.tail _ (List.Mem.head _))))))))))))
  have f12 : 0 ≤ 0 + ((-1) * τ 1000001 + (1 * τ 1000002 + 0)) := hf _ (List.Mem.tail _ (List.Mem.tail _ (List.Mem.tail _ (List.Mem.tail _ (List.Mem.tail _ (List.Mem.tail _ (List.Mem.tail _ (List.Mem.tail _ (List.Mem.tail _ (List.Mem.tail _ (List.Mem.tail _ (List.Mem.tail _ (List.Mem.head _)))))))))))))
  have f13 : 0 ≤ (-1) + (1 * τ 19001 + ((-1) * τ 19002 + 0)) := hf _ (List.Mem.tail _ (List.Mem.tail _ (List.Mem.tail _ (List.Mem.tail _ (List.Mem.tail _ (List.Mem.tail _ (List.Mem.tail _ (List.Mem.tail _ (List.Mem.tail _ (List.Mem.tail _ (List.Mem.tail _ (List.Mem.tail _ (List.Mem.tail _ (List.Mem.head _))))))))))))))
  have f14 : 0 ≤ (-1) + (1 * τ 133 + ((-1) * τ 19002 + 0)) := hf _ (List.Mem.tail _ (List.Mem.tail _ (List.Mem.tail _ (List.Mem.tail _ (List.Mem.tail _ (List.Mem.tail _ (List.Mem.tail _ (List.Mem.tail _ (List.Mem.tail _ (List.Mem.tail _ (List.Mem.tail _ (List.Mem.tail _ (List.Mem.tail _ (List.Mem.tail _ (List.Mem.head _)))))))))))))))
  have f15 : 0 ≤ (-1) + (1 * τ 133 + ((-1) * τ 19001 + 0)) := hf _ (List.Mem.tail _ (List.Mem.tail _ (List.Mem.tail _ (List.Mem.tail _ (List.Mem.tail _ (List.Mem.tail _ (List.Mem.tail _ (List.Mem.tail _ (List.Mem.tail _ (List.Mem.tail _ (List.Mem.tail _ (List.Mem.tail _ (List.Mem.tail _ (List.Mem.tail _ (List.Mem.tail _ (List.Mem.head _))))))))))))))))
  have m134 : σ' 134 = 1 + (1 * τ 134 + 0) := hm 134 (by decide)
  clear hf hm
  exact Or.inl ⟨by omega, ⟨by omega, by omega, by omega, by omega, by omega, by omega⟩, by omega⟩
theorem lw_mwx_199 {as : List rv_A} {σ σ' : Nat → Int} {o : rv_O} {x : Int32} {a1 a2 : Int} {τ : Nat → Int} (hx : o.1 = some (.inl x)) (h1 : lw_av as 1 = a1) (h2 : lw_av as 2 = a2) (hb : ∀ s, (sx_sr s).1 ≤ σ s ∧ σ s ≤ (sx_sr s).2) (hW : lw_W ([(18541, 128, 255), (18543, 32, 255), (18590, 32, 255), (18593, 128, 255)], [(0, [(18541, (-1)), (1000000, 1)]), (0, [(18543, (-1)), (1000001, 1)]), ((-1), [(133, 1)]), (11, [(134, (-1))]), ((-7), [(19001, 1)]), (7, [(19001, (-1))]), ((-5), [(19002, 1)]), (5, [(19002, (-1))]), (0, [(19003, (-1))]), (0, [(1000000, 1), (1000003, (-1))]), (0, [(1000000, (-1)), (1000003, 1)]), (0, [(1000001, 1), (1000002, (-1))]), (0, [(1000001, (-1)), (1000002, 1)]), ((-1), [(19001, 1), (19002, (-1))]), ((-1), [(133, 1), (19002, (-1))]), ((-1), [(133, 1), (19001, (-1))])], [(9, (0, [])), (134, (1, [(134, 1)])), (7048, ((-2), [])), (7049, ((-2), [])), (8069, (0, [])), (11396, ((-2), [])), (18541, (0, [(1000000, 1)])), (18543, (0, [(1000001, 1)])), (18588, (0, [(18543, 1)])), (18589, (32, [])), (18590, (0, [(1000002, 1)])), (18591, (0, [(18541, 1)])), (18592, (128, [])), (18593, (0, [(1000003, 1)])), (18594, (2, []))], some (false, (1, []))) as σ σ' τ o) : lw_mwx_C a1 a2 x.toInt σ σ' := by
  unfold lw_mwx_C
  have b133 : 0 ≤ σ 133 ∧ σ 133 ≤ 8 := by
    have h0 := hb 133
    rw [show sx_sr 133 = (0, 8) from by decide +kernel] at h0
    exact h0
  have b134 : 0 ≤ σ 134 ∧ σ 134 ≤ 12 := by
    have h0 := hb 134
    rw [show sx_sr 134 = (0, 12) from by decide +kernel] at h0
    exact h0
  obtain ⟨hs, ht, hf, hr, hm, hw⟩ := hW
  have e1 : τ 19001 = a1 := by rw [ht 19001 (by decide) (by decide)]; exact h1
  have e2 : τ 19002 = a2 := by rw [ht 19002 (by decide) (by decide)]; exact h2
  have s133 : τ 133 = σ 133 := hs 133 (by decide)
  have s134 : τ 134 = σ 134 := hs 134 (by decide)
  clear hs ht hb
  rw [hx] at hr
  obtain ⟨y, hy, hv⟩ := hr
  cases hy
  replace hv : x.toInt = 1 + 0 := hv
  have f0 : 0 ≤ 0 + ((-1) * τ 18541 + (1 * τ 1000000 + 0)) := hf _ (List.Mem.head _)
  have f1 : 0 ≤ 0 + ((-1) * τ 18543 + (1 * τ 1000001 + 0)) := hf _ (List.Mem.tail _ (List.Mem.head _))
  have f2 : 0 ≤ (-1) + (1 * τ 133 + 0) := hf _ (List.Mem.tail _ (List.Mem.tail _ (List.Mem.head _)))
  have f3 : 0 ≤ 11 + ((-1) * τ 134 + 0) := hf _ (List.Mem.tail _ (List.Mem.tail _ (List.Mem.tail _ (List.Mem.head _))))
  have f4 : 0 ≤ (-7) + (1 * τ 19001 + 0) := hf _ (List.Mem.tail _ (List.Mem.tail _ (List.Mem.tail _ (List.Mem.tail _ (List.Mem.head _)))))
  have f5 : 0 ≤ 7 + ((-1) * τ 19001 + 0) := hf _ (List.Mem.tail _ (List.Mem.tail _ (List.Mem.tail _ (List.Mem.tail _ (List.Mem.tail _ (List.Mem.head _))))))
  have f6 : 0 ≤ (-5) + (1 * τ 19002 + 0) := hf _ (List.Mem.tail _ (List.Mem.tail _ (List.Mem.tail _ (List.Mem.tail _ (List.Mem.tail _ (List.Mem.tail _ (List.Mem.head _)))))))
  have f7 : 0 ≤ 5 + ((-1) * τ 19002 + 0) := hf _ (List.Mem.tail _ (List.Mem.tail _ (List.Mem.tail _ (List.Mem.tail _ (List.Mem.tail _ (List.Mem.tail _ (List.Mem.tail _ (List.Mem.head _))))))))
  have f8 : 0 ≤ 0 + ((-1) * τ 19003 + 0) := hf _ (List.Mem.tail _ (List.Mem.tail _ (List.Mem.tail _ (List.Mem.tail _ (List.Mem.tail _ (List.Mem.tail _ (List.Mem.tail _ (List.Mem.tail _ (List.Mem.head _)))))))))
  have f9 : 0 ≤ 0 + (1 * τ 1000000 + ((-1) * τ 1000003 + 0)) := hf _ (List.Mem.tail _ (List.Mem.tail _ (List.Mem.tail _ (List.Mem.tail _ (List.Mem.tail _ (List.Mem.tail _ (List.Mem.tail _ (List.Mem.tail _ (List.Mem.tail _ (List.Mem.head _))))))))))
  have f10 : 0 ≤ 0 + ((-1) * τ 1000000 + (1 * τ 1000003 + 0)) := hf _ (List.Mem.tail _ (List.Mem.tail _ (List.Mem.tail _ (List.Mem.tail _ (List.Mem.tail _ (List.Mem.tail _ (List.Mem.tail _ (List.Mem.tail _ (List.Mem.tail _ (List.Mem.tail _ (List.Mem.head _)))))))))))
  have f11 : 0 ≤ 0 + (1 * τ 1000001 + ((-1) * τ 1000002 + 0)) := hf _ (List.Mem.tail _ (List.Mem.tail _ (List.Mem.tail _ (List.Mem.tail _ (List.Mem.tail _ (List.Mem.tail _ (List.Mem.tail _ (List.Mem.tail _ (List.Mem.tail _ (List.Mem.tail _ (List.Mem.tail _ (List.Mem.head _))))))))))))
  have f12 : 0 ≤ 0 + ((-1) * τ 1000001 + (1 * τ 1000002 + 0)) := hf _ (List.Mem.tail _ (List.Mem.tail _ (List.Mem.tail _ (List.Mem.tail _ (List.Mem.tail _ (List.Mem.tail _ (List.Mem.tail _ (List.Mem.tail _ (List.Mem.tail _ (List.Mem.tail _ (List.Mem.tail _ (List.Mem.tail _ (List.Mem.head _)))))))))))))
  have f13 : 0 ≤ (-1) + (1 * τ 19001 + ((-1) * τ 19002 + 0)) := hf _ (List.Mem.tail _ (List.Mem.tail _ (List.Mem.tail _ (List.Mem.tail _ (List.Mem.tail _ (List.Mem.tail _ (List.Mem.tail _ (List.Mem.tail _ (List.Mem.tail _ (List.Mem.tail _ (List.Mem.tail _ (List.Mem.tail _ (List.Mem.tail _ (List.Mem.head _))))))))))))))
  have f14 : 0 ≤ (-1) + (1 * τ 133 + ((-1) * τ 19002 + 0)) := hf _ (List.Mem.tail _ (List.Mem.tail _ (List.Mem.tail _ (List.Mem.tail _ (List.Mem.tail _ (List.Mem.tail _ (List.Mem.tail _ (List.Mem.tail _ (List.Mem.tail _ (List.Mem.tail _ (List.Mem.tail _ (List.Mem.tail _ (List.Mem.tail _ (List.Mem.tail _ (List.Mem.head _)))))))))))))))
  have f15 : 0 ≤ (-1) + (1 * τ 133 + ((-1) * τ 19001 + 0)) := hf _ (List.Mem.tail _ (List.Mem.tail _ (List.Mem.tail _ (List.Mem.tail _ (List.Mem.tail _ (List.Mem.tail _ (List.Mem.tail _ (List.Mem.tail _ (List.Mem.tail _ (List.Mem.tail _ (List.Mem.tail _ (List.Mem.tail _ (List.Mem.tail _ (List.Mem.tail _ (List.Mem.tail _ (List.Mem.head _))))))))))))))))
  have m134 : σ' 134 = 1 + (1 * τ 134 + 0) := hm 134 (by decide)
  clear hf hm
  exact Or.inl ⟨by omega, ⟨by omega, by omega, by omega, by omega, by omega, by omega⟩, by omega⟩
theorem lw_mwx_200 {as : List rv_A} {σ σ' : Nat → Int} {o : rv_O} {x : Int32} {a1 a2 : Int} {τ : Nat → Int} (hx : o.1 = some (.inl x)) (h1 : lw_av as 1 = a1) (h2 : lw_av as 2 = a2) (hb : ∀ s, (sx_sr s).1 ≤ σ s ∧ σ s ≤ (sx_sr s).2) (hW : lw_W ([(18549, 128, 255), (18551, 32, 255), (18590, 32, 255), (18593, 128, 255)], [(0, [(18549, (-1)), (1000000, 1)]), (0, [(18551, (-1)), (1000001, 1)]), ((-1), [(133, 1)]), (11, [(134, (-1))]), ((-7), [(19001, 1)]), (7, [(19001, (-1))]), ((-5), [(19002, 1)]), (5, [(19002, (-1))]), ((-1), [(19003, 1)]), (0, [(1000000, 1), (1000003, (-1))]), (0, [(1000000, (-1)), (1000003, 1)]), (0, [(1000001, 1), (1000002, (-1))]), (0, [(1000001, (-1)), (1000002, 1)]), ((-1), [(19001, 1), (19002, (-1))]), ((-1), [(133, 1), (19002, (-1))]), ((-1), [(133, 1), (19001, (-1))])], [(9, (0, [])), (134, (1, [(134, 1)])), (7048, ((-2), [])), (7049, ((-2), [])), (8069, (0, [])), (11396, ((-2), [])), (18549, (0, [(1000000, 1)])), (18551, (0, [(1000001, 1)])), (18588, (0, [(18551, 1)])), (18589, (32, [])), (18590, (0, [(1000002, 1)])), (18591, (0, [(18549, 1)])), (18592, (128, [])), (18593, (0, [(1000003, 1)])), (18594, (2, []))], some (false, (1, []))) as σ σ' τ o) : lw_mwx_C a1 a2 x.toInt σ σ' := by
  unfold lw_mwx_C
  have b133 : 0 ≤ σ 133 ∧ σ 133 ≤ 8 := by
    have h0 := hb 133
    rw [show sx_sr 133 = (0, 8) from by decide +kernel] at h0
    exact h0
  have b134 : 0 ≤ σ 134 ∧ σ 134 ≤ 12 := by
    have h0 := hb 134
    rw [show sx_sr 134 = (0, 12) from by decide +kernel] at h0
    exact h0
  obtain ⟨hs, ht, hf, hr, hm, hw⟩ := hW
  have e1 : τ 19001 = a1 := by rw [ht 19001 (by decide) (by decide)]; exact h1
  have e2 : τ 19002 = a2 := by rw [ht 19002 (by decide) (by decide)]; exact h2
  have s133 : τ 133 = σ 133 := hs 133 (by decide)
  have s134 : τ 134 = σ 134 := hs 134 (by decide)
  clear hs ht hb
  rw [hx] at hr
  obtain ⟨y, hy, hv⟩ := hr
  cases hy
  replace hv : x.toInt = 1 + 0 := hv
  have f0 : 0 ≤ 0 + ((-1) * τ 18549 + (1 * τ 1000000 + 0)) := hf _ (List.Mem.head _)
  have f1 : 0 ≤ 0 + ((-1) * τ 18551 + (1 * τ 1000001 + 0)) := hf _ (List.Mem.tail _ (List.Mem.head _))
  have f2 : 0 ≤ (-1) + (1 * τ 133 + 0) := hf _ (List.Mem.tail _ (List.Mem.tail _ (List.Mem.head _)))
  have f3 : 0 ≤ 11 + ((-1) * τ 134 + 0) := hf _ (List.Mem.tail _ (List.Mem.tail _ (List.Mem.tail _ (List.Mem.head _))))
  have f4 : 0 ≤ (-7) + (1 * τ 19001 + 0) := hf _ (List.Mem.tail _ (List.Mem.tail _ (List.Mem.tail _ (List.Mem.tail _ (List.Mem.head _)))))
  have f5 : 0 ≤ 7 + ((-1) * τ 19001 + 0) := hf _ (List.Mem.tail _ (List.Mem.tail _ (List.Mem.tail _ (List.Mem.tail _ (List.Mem.tail _ (List.Mem.head _))))))
  have f6 : 0 ≤ (-5) + (1 * τ 19002 + 0) := hf _ (List.Mem.tail _ (List.Mem.tail _ (List.Mem.tail _ (List.Mem.tail _ (List.Mem.tail _ (List.Mem.tail _ (List.Mem.head _)))))))
  have f7 : 0 ≤ 5 + ((-1) * τ 19002 + 0) := hf _ (List.Mem.tail _ (List.Mem.tail _ (List.Mem.tail _ (List.Mem.tail _ (List.Mem.tail _ (List.Mem.tail _ (List.Mem.tail _ (List.Mem.head _))))))))
  have f8 : 0 ≤ (-1) + (1 * τ 19003 + 0) := hf _ (List.Mem.tail _ (List.Mem.tail _ (List.Mem.tail _ (List.Mem.tail _ (List.Mem.tail _ (List.Mem.tail _ (List.Mem.tail _ (List.Mem.tail _ (List.Mem.head _)))))))))
  have f9 : 0 ≤ 0 + (1 * τ 1000000 + ((-1) * τ 1000003 + 0)) := hf _ (List.Mem.tail _ (List.Mem.tail _ (List.Mem.tail _ (List.Mem.tail _ (List.Mem.tail _ (List.Mem.tail _ (List.Mem.tail _ (List.Mem.tail _ (List.Mem.tail _ (List.Mem.head _))))))))))
  have f10 : 0 ≤ 0 + ((-1) * τ 1000000 + (1 * τ 1000003 + 0)) := hf _ (List.Mem.tail _ (List.Mem.tail _ (List.Mem.tail _ (List.Mem.tail _ (List.Mem.tail _ (List.Mem.tail _ (List.Mem.tail _ (List.Mem.tail _ (List.Mem.tail _ (List.Mem.tail _ (List.Mem.head _)))))))))))
  have f11 : 0 ≤ 0 + (1 * τ 1000001 + ((-1) * τ 1000002 + 0)) := hf _ (List.Mem.tail _ (List.Mem.tail _ (List.Mem.tail _ (List.Mem.tail _ (List.Mem.tail _ (List.Mem.tail _ (List.Mem.tail _ (List.Mem.tail _ (List.Mem.tail _ (List.Mem.tail _ (List.Mem.tail _ (List.Mem.head _))))))))))))
  have f12 : 0 ≤ 0 + ((-1) * τ 1000001 + (1 * τ 1000002 + 0)) := hf _ (List.Mem.tail _ (List.Mem.tail _ (List.Mem.tail _ (List.Mem.tail _ (List.Mem.tail _ (List.Mem.tail _ (List.Mem.tail _ (List.Mem.tail _ (List.Mem.tail _ (List.Mem.tail _ (List.Mem.tail _ (List.Mem.tail _ (List.Mem.head _)))))))))))))
  have f13 : 0 ≤ (-1) + (1 * τ 19001 + ((-1) * τ 19002 + 0)) := hf _ (List.Mem.tail _ (List.Mem.tail _ (List.Mem.tail _ (List.Mem.tail _ (List.Mem.tail _ (List.Mem.tail _ (List.Mem.tail _ (List.Mem.tail _ (List.Mem.tail _ (List.Mem.tail _ (List.Mem.tail _ (List.Mem.tail _ (List.Mem.tail _ (List.Mem.head _))))))))))))))
  have f14 : 0 ≤ (-1) + (1 * τ 133 + ((-1) * τ 19002 + 0)) := hf _ (List.Mem.tail _ (List.Mem.tail _ (List.Mem.tail _ (List.Mem.tail _ (List.Mem.tail _ (List.Mem.tail _ (List.Mem.tail _ (List.Mem.tail _ (List.Mem.tail _ (List.Mem.tail _ (List.Mem.tail _ (List.Mem.tail _ (List.Mem.tail _ (List.Mem.tail _ (List.Mem.head _)))))))))))))))
  have f15 : 0 ≤ (-1) + (1 * τ 133 + ((-1) * τ 19001 + 0)) := hf _ (List.Mem.tail _ (List.Mem.tail _ (List.Mem.tail _ (List.Mem.tail _ (List.Mem.tail _ (List.Mem.tail _ (List.Mem.tail _ (List.Mem.tail _ (List.Mem.tail _ (List.Mem.tail _ (List.Mem.tail _ (List.Mem.tail _ (List.Mem.tail _ (List.Mem.tail _ (List.Mem.tail _ (List.Mem.head _))))))))))))))))
  have m134 : σ' 134 = 1 + (1 * τ 134 + 0) := hm 134 (by decide)
  clear hf hm
  exact Or.inl ⟨by omega, ⟨by omega, by omega, by omega, by omega, by omega, by omega⟩, by omega⟩
theorem lw_mwx_201 {as : List rv_A} {σ σ' : Nat → Int} {o : rv_O} {x : Int32} {a1 a2 : Int} {τ : Nat → Int} (hx : o.1 = some (.inl x)) (h1 : lw_av as 1 = a1) (h2 : lw_av as 2 = a2) (hb : ∀ s, (sx_sr s).1 ≤ σ s ∧ σ s ≤ (sx_sr s).2) (hW : lw_W ([(18542, 128, 255), (18543, 64, 255), (18590, 64, 255), (18593, 128, 255)], [(0, [(18542, (-1)), (1000000, 1)]), (0, [(18543, (-1)), (1000001, 1)]), ((-1), [(133, 1)]), (11, [(134, (-1))]), ((-7), [(19001, 1)]), (7, [(19001, (-1))]), ((-6), [(19002, 1)]), (6, [(19002, (-1))]), (0, [(19003, (-1))]), (0, [(1000000, 1), (1000003, (-1))]), (0, [(1000000, (-1)), (1000003, 1)]), (0, [(1000001, 1), (1000002, (-1))]), (0, [(1000001, (-1)), (1000002, 1)]), ((-1), [(19001, 1), (19002, (-1))]), ((-1), [(133, 1), (19002, (-1))]), ((-1), [(133, 1), (19001, (-1))])], [(9, (0, [])), (134, (1, [(134, 1)])), (7048, ((-2), [])), (7049, ((-2), [])), (8069, (0, [])), (11396, ((-2), [])), (18542, (0, [(1000000, 1)])), (18543, (0, [(1000001, 1)])), (18588, (0, [(18543, 1)])), (18589, (64, [])), (18590, (0, [(1000002, 1)])), (18591, (0, [(18542, 1)])), (18592, (128, [])), (18593, (0, [(1000003, 1)])), (18594, (2, []))], some (false, (1, []))) as σ σ' τ o) : lw_mwx_C a1 a2 x.toInt σ σ' := by
  unfold lw_mwx_C
  have b133 : 0 ≤ σ 133 ∧ σ 133 ≤ 8 := by
    have h0 := hb 133
    rw [show sx_sr 133 = (0, 8) from by decide +kernel] at h0
    exact h0
  have b134 : 0 ≤ σ 134 ∧ σ 134 ≤ 12 := by
    have h0 := hb 134
    rw [show sx_sr 134 = (0, 12) from by decide +kernel] at h0
    exact h0
  obtain ⟨hs, ht, hf, hr, hm, hw⟩ := hW
  have e1 : τ 19001 = a1 := by rw [ht 19001 (by decide) (by decide)]; exact h1
  have e2 : τ 19002 = a2 := by rw [ht 19002 (by decide) (by decide)]; exact h2
  have s133 : τ 133 = σ 133 := hs 133 (by decide)
  have s134 : τ 134 = σ 134 := hs 134 (by decide)
  clear hs ht hb
  rw [hx] at hr
  obtain ⟨y, hy, hv⟩ := hr
  cases hy
  replace hv : x.toInt = 1 + 0 := hv
  have f0 : 0 ≤ 0 + ((-1) * τ 18542 + (1 * τ 1000000 + 0)) := hf _ (List.Mem.head _)
  have f1 : 0 ≤ 0 + ((-1) * τ 18543 + (1 * τ 1000001 + 0)) := hf _ (List.Mem.tail _ (List.Mem.head _))
  have f2 : 0 ≤ (-1) + (1 * τ 133 + 0) := hf _ (List.Mem.tail _ (List.Mem.tail _ (List.Mem.head _)))
  have f3 : 0 ≤ 11 + ((-1) * τ 134 + 0) := hf _ (List.Mem.tail _ (List.Mem.tail _ (List.Mem.tail _ (List.Mem.head _))))
  have f4 : 0 ≤ (-7) + (1 * τ 19001 + 0) := hf _ (List.Mem.tail _ (List.Mem.tail _ (List.Mem.tail _ (List.Mem.tail _ (List.Mem.head _)))))
  have f5 : 0 ≤ 7 + ((-1) * τ 19001 + 0) := hf _ (List.Mem.tail _ (List.Mem.tail _ (List.Mem.tail _ (List.Mem.tail _ (List.Mem.tail _ (List.Mem.head _))))))
  have f6 : 0 ≤ (-6) + (1 * τ 19002 + 0) := hf _ (List.Mem.tail _ (List.Mem.tail _ (List.Mem.tail _ (List.Mem.tail _ (List.Mem.tail _ (List.Mem.tail _ (List.Mem.head _)))))))
  have f7 : 0 ≤ 6 + ((-1) * τ 19002 + 0) := hf _ (List.Mem.tail _ (List.Mem.tail _ (List.Mem.tail _ (List.Mem.tail _ (List.Mem.tail _ (List.Mem.tail _ (List.Mem.tail _ (List.Mem.head _))))))))
  have f8 : 0 ≤ 0 + ((-1) * τ 19003 + 0) := hf _ (List.Mem.tail _ (List.Mem.tail _ (List.Mem.tail _ (List.Mem.tail _ (List.Mem.tail _ (List.Mem.tail _ (List.Mem.tail _ (List.Mem.tail _ (List.Mem.head _)))))))))
  have f9 : 0 ≤ 0 + (1 * τ 1000000 + ((-1) * τ 1000003 + 0)) := hf _ (List.Mem.tail _ (List.Mem.tail _ (List.Mem.tail _ (List.Mem.tail _ (List.Mem.tail _ (List.Mem.tail _ (List.Mem.tail _ (List.Mem.tail _ (List.Mem.tail _ (List.Mem.head _))))))))))
  have f10 : 0 ≤ 0 + ((-1) * τ 1000000 + (1 * τ 1000003 + 0)) := hf _ (List.Mem.tail _ (List.Mem.tail _ (List.Mem.tail _ (List.Mem.tail _ (List.Mem.tail _ (List.Mem.tail _ (List.Mem.tail _ (List.Mem.tail _ (List.Mem.tail _ (List.Mem.tail _ (List.Mem.head _)))))))))))
  have f11 : 0 ≤ 0 + (1 * τ 1000001 + ((-1) * τ 1000002 + 0)) := hf _ (List.Mem.tail _ (List.Mem.tail _ (List.Mem.tail _ (List.Mem.tail _ (List.Mem.tail _ (List.Mem.tail _ (List.Mem.tail _ (List.Mem.tail _ (List.Mem.tail _ (List.Mem.tail _ (List.Mem.tail _ (List.Mem.head _))))))))))))
  have f12 : 0 ≤ 0 + ((-1) * τ 1000001 + (1 * τ 1000002 + 0)) := hf _ (List.Mem.tail _ (List.Mem.tail _ (List.Mem.tail _ (List.Mem.tail _ (List.Mem.tail _ (List.Mem.tail _ (List.Mem.tail _ (List.Mem.tail _ (List.Mem.tail _ (List.Mem.tail _ (List.Mem.tail _ (List.Mem.tail _ (List.Mem.head _)))))))))))))
  have f13 : 0 ≤ (-1) + (1 * τ 19001 + ((-1) * τ 19002 + 0)) := hf _ (List.Mem.tail _ (List.Mem.tail _ (List.Mem.tail _ (List.Mem.tail _ (List.Mem.tail _ (List.Mem.tail _ (List.Mem.tail _ (List.Mem.tail _ (List.Mem.tail _ (List.Mem.tail _ (List.Mem.tail _ (List.Mem.tail _ (List.Mem.tail _ (List.Mem.head _))))))))))))))
  have f14 : 0 ≤ (-1) + (1 * τ 133 + ((-1) * τ 19002 + 0)) := hf _ (List.Mem.tail _ (List.Mem.tail _ (List.Mem.tail _ (List.Mem.tail _ (List.Mem.tail _ (List.Mem.tail _ (List.Mem.tail _ (List.Mem.tail _ (List.Mem.tail _ (List.Mem.tail _ (List.Mem.tail _ (List.Mem.tail _ (List.Mem.tail _ (List.Mem.tail _ (List.Mem.head _)))))))))))))))
  have f15 : 0 ≤ (-1) + (1 * τ 133 + ((-1) * τ 19001 + 0)) := hf _ (List.Mem.tail _ (List.Mem.tail _ (List.Mem.tail _ (List.Mem.tail _ (List.Mem.tail _ (List.Mem.tail _ (List.Mem.tail _ (List.Mem.tail _ (List.Mem.tail _ (List.Mem.tail _ (List.Mem.tail _ (List.Mem.tail _ (List.Mem.tail _ (List.Mem.tail _ (List.Mem.tail _ (List.Mem.head _))))))))))))))))
  have m134 : σ' 134 = 1 + (1 * τ 134 + 0) := hm 134 (by decide)
  clear hf hm
  exact Or.inl ⟨by omega, ⟨by omega, by omega, by omega, by omega, by omega, by omega⟩, by omega⟩
theorem lw_mwx_202 {as : List rv_A} {σ σ' : Nat → Int} {o : rv_O} {x : Int32} {a1 a2 : Int} {τ : Nat → Int} (hx : o.1 = some (.inl x)) (h1 : lw_av as 1 = a1) (h2 : lw_av as 2 = a2) (hb : ∀ s, (sx_sr s).1 ≤ σ s ∧ σ s ≤ (sx_sr s).2) (hW : lw_W ([(18550, 128, 255), (18551, 64, 255), (18590, 64, 255), (18593, 128, 255)], [(0, [(18550, (-1)), (1000000, 1)]), (0, [(18551, (-1)), (1000001, 1)]), ((-1), [(133, 1)]), (11, [(134, (-1))]), ((-7), [(19001, 1)]), (7, [(19001, (-1))]), ((-6), [(19002, 1)]), (6, [(19002, (-1))]), ((-1), [(19003, 1)]), (0, [(1000000, 1), (1000003, (-1))]), (0, [(1000000, (-1)), (1000003, 1)]), (0, [(1000001, 1), (1000002, (-1))]), (0, [(1000001, (-1)), (1000002, 1)]), ((-1), [(19001, 1), (19002, (-1))]), ((-1), [(133, 1), (19002, (-1))]), ((-1), [(133, 1), (19001, (-1))])], [(9, (0, [])), (134, (1, [(134, 1)])), (7048, ((-2), [])), (7049, ((-2), [])), (8069, (0, [])), (11396, ((-2), [])), (18550, (0, [(1000000, 1)])), (18551, (0, [(1000001, 1)])), (18588, (0, [(18551, 1)])), (18589, (64, [])), (18590, (0, [(1000002, 1)])), (18591, (0, [(18550, 1)])), (18592, (128, [])), (18593, (0, [(1000003, 1)])), (18594, (2, []))], some (false, (1, []))) as σ σ' τ o) : lw_mwx_C a1 a2 x.toInt σ σ' := by
  unfold lw_mwx_C
  have b133 : 0 ≤ σ 133 ∧ σ 133 ≤ 8 := by
    have h0 := hb 133
    rw [show sx_sr 133 = (0, 8) from by decide +kernel] at h0
    exact h0
  have b134 : 0 ≤ σ 134 ∧ σ 134 ≤ 12 := by
    have h0 := hb 134
    rw [show sx_sr 134 = (0, 12) from by decide +kernel] at h0
    exact h0
  obtain ⟨hs, ht, hf, hr, hm, hw⟩ := hW
  have e1 : τ 19001 = a1 := by rw [ht 19001 (by decide) (by decide)]; exact h1
  have e2 : τ 19002 = a2 := by rw [ht 19002 (by decide) (by decide)]; exact h2
  have s133 : τ 133 = σ 133 := hs 133 (by decide)
  have s134 : τ 134 = σ 134 := hs 134 (by decide)
  clear hs ht hb
  rw [hx] at hr
  obtain ⟨y, hy, hv⟩ := hr
  cases hy
  replace hv : x.toInt = 1 + 0 := hv
  have f0 : 0 ≤ 0 + ((-1) * τ 18550 + (1 * τ 1000000 + 0)) := hf _ (List.Mem.head _)
  have f1 : 0 ≤ 0 + ((-1) * τ 18551 + (1 * τ 1000001 + 0)) := hf _ (List.Mem.tail _ (List.Mem.head _))
  have f2 : 0 ≤ (-1) + (1 * τ 133 + 0) := hf _ (List.Mem.tail _ (List.Mem.tail _ (List.Mem.head _)))
  have f3 : 0 ≤ 11 + ((-1) * τ 134 + 0) := hf _ (List.Mem.tail _ (List.Mem.tail _ (List.Mem.tail _ (List.Mem.head _))))
  have f4 : 0 ≤ (-7) + (1 * τ 19001 + 0) := hf _ (List.Mem.tail _ (List.Mem.tail _ (List.Mem.tail _ (List.Mem.tail _ (List.Mem.head _)))))
  have f5 : 0 ≤ 7 + ((-1) * τ 19001 + 0) := hf _ (List.Mem.tail _ (List.Mem.tail _ (List.Mem.tail _ (List.Mem.tail _ (List.Mem.tail _ (List.Mem.head _))))))
  have f6 : 0 ≤ (-6) + (1 * τ 19002 + 0) := hf _ (List.Mem.tail _ (List.Mem.tail _ (List.Mem.tail _ (List.Mem.tail _ (List.Mem.tail _ (List.Mem.tail _ (List.Mem.head _)))))))
  have f7 : 0 ≤ 6 + ((-1) * τ 19002 + 0) := hf _ (List.Mem.tail _ (List.Mem.tail _ (List.Mem.tail _ (List.Mem.tail _ (List.Mem.tail _ (List.Mem.tail _ (List.Mem.tail _ (List.Mem.head _))))))))
  have f8 : 0 ≤ (-1) + (1 * τ 19003 + 0) := hf _ (List.Mem.tail _ (List.Mem.tail _ (List.Mem.tail _ (List.Mem.tail _ (List.Mem.tail _ (List.Mem.tail _ (List.Mem.tail _ (List.Mem.tail _ (List.Mem.head _)))))))))
  have f9 : 0 ≤ 0 + (1 * τ 1000000 + ((-1) * τ 1000003 + 0)) := hf _ (List.Mem.tail _ (List.Mem.tail _ (List.Mem.tail _ (List.Mem.tail _ (List.Mem.tail _ (List.Mem.tail _ (List.Mem.tail _ (List.Mem.tail _ (List.Mem.tail _ (List.Mem.head _))))))))))
  have f10 : 0 ≤ 0 + ((-1) * τ 1000000 + (1 * τ 1000003 + 0)) := hf _ (List.Mem.tail _ (List.Mem.tail _ (List.Mem.tail _ (List.Mem.tail _ (List.Mem.tail _ (List.Mem.tail _ (List.Mem.tail _ (List.Mem.tail _ (List.Mem.tail _ (List.Mem.tail _ (List.Mem.head _)))))))))))
  have f11 : 0 ≤ 0 + (1 * τ 1000001 + ((-1) * τ 1000002 + 0)) := hf _ (List.Mem.tail _ (List.Mem.tail _ (List.Mem.tail _ (List.Mem.tail _ (List.Mem.tail _ (List.Mem.tail _ (List.Mem.tail _ (List.Mem.tail _ (List.Mem.tail _ (List.Mem.tail _ (List.Mem.tail _ (List.Mem.head _))))))))))))
  have f12 : 0 ≤ 0 + ((-1) * τ 1000001 + (1 * τ 1000002 + 0)) := hf _ (List.Mem.tail _ (List.Mem.tail _ (List.Mem.tail _ (List.Mem.tail _ (List.Mem.tail _ (List.Mem.tail _ (List.Mem.tail _ (List.Mem.tail _ (List.Mem.tail _ (List.Mem.tail _ (List.Mem.tail _ (List.Mem.tail _ (List.Mem.head _)))))))))))))
  have f13 : 0 ≤ (-1) + (1 * τ 19001 + ((-1) * τ 19002 + 0)) := hf _ (List.Mem.tail _ (List.Mem.tail _ (List.Mem.tail _ (List.Mem.tail _ (List.Mem.tail _ (List.Mem.tail _ (List.Mem.tail _ (List.Mem.tail _ (List.Mem.tail _ (List.Mem.tail _ (List.Mem.tail _ (List.Mem.tail _ (List.Mem.tail _ (List.Mem.head _))))))))))))))
  have f14 : 0 ≤ (-1) + (1 * τ 133 + ((-1) * τ 19002 + 0)) := hf _ (List.Mem.tail _ (List.Mem.tail _ (List.Mem.tail _ (List.Mem.tail _ (List.Mem.tail _ (List.Mem.tail _ (List.Mem.tail _ (List.Mem.tail _ (List.Mem.tail _ (List.Mem.tail _ (List.Mem.tail _ (List.Mem.tail _ (List.Mem.tail _ (List.Mem.tail _ (List.Mem.head _)))))))))))))))
  have f15 : 0 ≤ (-1) + (1 * τ 133 + ((-1) * τ 19001 + 0)) := hf _ (List.Mem.tail _ (List.Mem.tail _ (List.Mem.tail _ (List.Mem.tail _ (List.Mem.tail _ (List.Mem.tail _ (List.Mem.tail _ (List.Mem.tail _ (List.Mem.tail _ (List.Mem.tail _ (List.Mem.tail _ (List.Mem.tail _ (List.Mem.tail _ (List.Mem.tail _ (List.Mem.tail _ (List.Mem.head _))))))))))))))))
  have m134 : σ' 134 = 1 + (1 * τ 134 + 0) := hm 134 (by decide)
  clear hf hm
  exact Or.inl ⟨by omega, ⟨by omega, by omega, by omega, by omega, by omega, by omega⟩, by omega⟩
set_option maxHeartbeats 4000000 in
set_option maxRecDepth 100000 in
theorem lw_mwx {as : List rv_A} {σ σ' : Nat → Int} {o : rv_O} {x : Int32} {a1 a2 : Int} (hx : o.1 = some (.inl x)) (h1 : lw_av as 1 = a1) (h2 : lw_av as 2 = a2) (hb : ∀ s, (sx_sr s).1 ≤ σ s ∧ σ s ≤ (sx_sr s).2) (h : lw_Qc sx_c219 as σ σ' o) : lw_mwx_C a1 a2 x.toInt σ σ' := by
  obtain ⟨g, hg, τ, hW⟩ := h
  simp only [sx_c219, List.mem_cons, List.not_mem_nil, or_false] at hg
  rcases hg with rfl | rfl | rfl | rfl | rfl | rfl | rfl | rfl | rfl | rfl | rfl | rfl | rfl | rfl | rfl | rfl | rfl | rfl | rfl | rfl | rfl | rfl | rfl | rfl | rfl | rfl | rfl | rfl | rfl | rfl | rfl | rfl | rfl | rfl | rfl | rfl | rfl | rfl | rfl | rfl | rfl | rfl | rfl | rfl | rfl | rfl | rfl | rfl | rfl | rfl | rfl | rfl | rfl | rfl | rfl | rfl | rfl | rfl | rfl | rfl | rfl | rfl | rfl | rfl | rfl | rfl | rfl | rfl | rfl | rfl | rfl | rfl | rfl | rfl | rfl | rfl | rfl | rfl | rfl | rfl | rfl | rfl | rfl | rfl | rfl | rfl | rfl | rfl | rfl | rfl | rfl | rfl | rfl | rfl | rfl | rfl | rfl | rfl | rfl | rfl | rfl | rfl | rfl | rfl | rfl | rfl | rfl | rfl | rfl | rfl | rfl | rfl | rfl | rfl | rfl | rfl | rfl | rfl | rfl | rfl | rfl | rfl | rfl | rfl | rfl | rfl | rfl | rfl | rfl | rfl | rfl | rfl | rfl | rfl | rfl | rfl | rfl | rfl | rfl | rfl | rfl | rfl | rfl | rfl | rfl | rfl | rfl | rfl | rfl | rfl | rfl | rfl | rfl | rfl | rfl | rfl | rfl | rfl | rfl | rfl | rfl | rfl | rfl | rfl | rfl | rfl | rfl | rfl | rfl | rfl | rfl | rfl | rfl | rfl | rfl | rfl | rfl | rfl | rfl | rfl | rfl | rfl | rfl | rfl | rfl | rfl | rfl | rfl | rfl | rfl | rfl | rfl | rfl | rfl | rfl | rfl | rfl | rfl | rfl | rfl | rfl | rfl | rfl
  · exact lw_mwx_0 hx h1 h2 hb hW
  · exact lw_mwx_1 hx h1 h2 hb hW
  · exact lw_mwx_2 hx h1 h2 hb hW
  · exact lw_mwx_3 hx h1 h2 hb hW
  · exact lw_mwx_4 hx h1 h2 hb hW
  · exact lw_mwx_5 hx h1 h2 hb hW
  · exact lw_mwx_6 hx h1 h2 hb hW
  · exact lw_mwx_7 hx h1 h2 hb hW
  · exact lw_mwx_8 hx h1 h2 hb hW
  · exact lw_mwx_9 hx h1 h2 hb hW
  · exact lw_mwx_10 hx h1 h2 hb hW
  · exact lw_mwx_11 hx h1 h2 hb hW
  · exact lw_mwx_12 hx h1 h2 hb hW
  · exact lw_mwx_13 hx h1 h2 hb hW
  · exact lw_mwx_14 hx h1 h2 hb hW
  · exact lw_mwx_15 hx h1 h2 hb hW
  · exact lw_mwx_16 hx h1 h2 hb hW
  · exact lw_mwx_17 hx h1 h2 hb hW
  · exact lw_mwx_18 hx h1 h2 hb hW
  · exact lw_mwx_19 hx h1 h2 hb hW
  · exact lw_mwx_20 hx h1 h2 hb hW
  · exact lw_mwx_21 hx h1 h2 hb hW
  · exact lw_mwx_22 hx h1 h2 hb hW
  · exact lw_mwx_23 hx h1 h2 hb hW
  · exact lw_mwx_24 hx h1 h2 hb hW
  · exact lw_mwx_25 hx h1 h2 hb hW
  · exact lw_mwx_26 hx h1 h2 hb hW
  · exact lw_mwx_27 hx h1 h2 hb hW
  · exact lw_mwx_28 hx h1 h2 hb hW
  · exact lw_mwx_29 hx h1 h2 hb hW
  · exact lw_mwx_30 hx h1 h2 hb hW
  · exact lw_mwx_31 hx h1 h2 hb hW
  · exact lw_mwx_32 hx h1 h2 hb hW
  · exact lw_mwx_33 hx h1 h2 hb hW
  · exact lw_mwx_34 hx h1 h2 hb hW
  · exact lw_mwx_35 hx h1 h2 hb hW
  · exact lw_mwx_36 hx h1 h2 hb hW
  · exact lw_mwx_37 hx h1 h2 hb hW
  · exact lw_mwx_38 hx h1 h2 hb hW
  · exact lw_mwx_39 hx h1 h2 hb hW
  · exact lw_mwx_40 hx h1 h2 hb hW
  · exact lw_mwx_41 hx h1 h2 hb hW
  · exact lw_mwx_42 hx h1 h2 hb hW
  · exact lw_mwx_43 hx h1 h2 hb hW
  · exact lw_mwx_44 hx h1 h2 hb hW
  · exact lw_mwx_45 hx h1 h2 hb hW
  · exact lw_mwx_46 hx h1 h2 hb hW
  · exact lw_mwx_47 hx h1 h2 hb hW
  · exact lw_mwx_48 hx h1 h2 hb hW
  · exact lw_mwx_49 hx h1 h2 hb hW
  · exact lw_mwx_50 hx h1 h2 hb hW
  · exact lw_mwx_51 hx h1 h2 hb hW
  · exact lw_mwx_52 hx h1 h2 hb hW
  · exact lw_mwx_53 hx h1 h2 hb hW
  · exact lw_mwx_54 hx h1 h2 hb hW
  · exact lw_mwx_55 hx h1 h2 hb hW
  · exact lw_mwx_56 hx h1 h2 hb hW
  · exact lw_mwx_57 hx h1 h2 hb hW
  · exact lw_mwx_58 hx h1 h2 hb hW
  · exact lw_mwx_59 hx h1 h2 hb hW
  · exact lw_mwx_60 hx h1 h2 hb hW
  · exact lw_mwx_61 hx h1 h2 hb hW
  · exact lw_mwx_62 hx h1 h2 hb hW
  · exact lw_mwx_63 hx h1 h2 hb hW
  · exact lw_mwx_64 hx h1 h2 hb hW
  · exact lw_mwx_65 hx h1 h2 hb hW
  · exact lw_mwx_66 hx h1 h2 hb hW
  · exact lw_mwx_67 hx h1 h2 hb hW
  · exact lw_mwx_68 hx h1 h2 hb hW
  · exact lw_mwx_69 hx h1 h2 hb hW
  · exact lw_mwx_70 hx h1 h2 hb hW
  · exact lw_mwx_71 hx h1 h2 hb hW
  · exact lw_mwx_72 hx h1 h2 hb hW
  · exact lw_mwx_73 hx h1 h2 hb hW
  · exact lw_mwx_74 hx h1 h2 hb hW
  · exact lw_mwx_75 hx h1 h2 hb hW
  · exact lw_mwx_76 hx h1 h2 hb hW
  · exact lw_mwx_77 hx h1 h2 hb hW
  · exact lw_mwx_78 hx h1 h2 hb hW
  · exact lw_mwx_79 hx h1 h2 hb hW
  · exact lw_mwx_80 hx h1 h2 hb hW
  · exact lw_mwx_81 hx h1 h2 hb hW
  · exact lw_mwx_82 hx h1 h2 hb hW
  · exact lw_mwx_83 hx h1 h2 hb hW
  · exact lw_mwx_84 hx h1 h2 hb hW
  · exact lw_mwx_85 hx h1 h2 hb hW
  · exact lw_mwx_86 hx h1 h2 hb hW
  · exact lw_mwx_87 hx h1 h2 hb hW
  · exact lw_mwx_88 hx h1 h2 hb hW
  · exact lw_mwx_89 hx h1 h2 hb hW
  · exact lw_mwx_90 hx h1 h2 hb hW
  · exact lw_mwx_91 hx h1 h2 hb hW
  · exact lw_mwx_92 hx h1 h2 hb hW
  · exact lw_mwx_93 hx h1 h2 hb hW
  · exact lw_mwx_94 hx h1 h2 hb hW
  · exact lw_mwx_95 hx h1 h2 hb hW
  · exact lw_mwx_96 hx h1 h2 hb hW
  · exact lw_mwx_97 hx h1 h2 hb hW
  · exact lw_mwx_98 hx h1 h2 hb hW
  · exact lw_mwx_99 hx h1 h2 hb hW
  · exact lw_mwx_100 hx h1 h2 hb hW
  · exact lw_mwx_101 hx h1 h2 hb hW
  · exact lw_mwx_102 hx h1 h2 hb hW
  · exact lw_mwx_103 hx h1 h2 hb hW
  · exact lw_mwx_104 hx h1 h2 hb hW
  · exact lw_mwx_105 hx h1 h2 hb hW
  · exact lw_mwx_106 hx h1 h2 hb hW
  · exact lw_mwx_107 hx h1 h2 hb hW
  · exact lw_mwx_108 hx h1 h2 hb hW
  · exact lw_mwx_109 hx h1 h2 hb hW
  · exact lw_mwx_110 hx h1 h2 hb hW
  · exact lw_mwx_111 hx h1 h2 hb hW
  · exact lw_mwx_112 hx h1 h2 hb hW
  · exact lw_mwx_113 hx h1 h2 hb hW
  · exact lw_mwx_114 hx h1 h2 hb hW
  · exact lw_mwx_115 hx h1 h2 hb hW
  · exact lw_mwx_116 hx h1 h2 hb hW
  · exact lw_mwx_117 hx h1 h2 hb hW
  · exact lw_mwx_118 hx h1 h2 hb hW
  · exact lw_mwx_119 hx h1 h2 hb hW
  · exact lw_mwx_120 hx h1 h2 hb hW
  · exact lw_mwx_121 hx h1 h2 hb hW
  · exact lw_mwx_122 hx h1 h2 hb hW
  · exact lw_mwx_123 hx h1 h2 hb hW
  · exact lw_mwx_124 hx h1 h2 hb hW
  · exact lw_mwx_125 hx h1 h2 hb hW
  · exact lw_mwx_126 hx h1 h2 hb hW
  · exact lw_mwx_127 hx h1 h2 hb hW
  · exact lw_mwx_128 hx h1 h2 hb hW
  · exact lw_mwx_129 hx h1 h2 hb hW
  · exact lw_mwx_130 hx h1 h2 hb hW
  · exact lw_mwx_131 hx h1 h2 hb hW
  · exact lw_mwx_132 hx h1 h2 hb hW
  · exact lw_mwx_133 hx h1 h2 hb hW
  · exact lw_mwx_134 hx h1 h2 hb hW
  · exact lw_mwx_135 hx h1 h2 hb hW
  · exact lw_mwx_136 hx h1 h2 hb hW
  · exact lw_mwx_137 hx h1 h2 hb hW
  · exact lw_mwx_138 hx h1 h2 hb hW
  · exact lw_mwx_139 hx h1 h2 hb hW
  · exact lw_mwx_140 hx h1 h2 hb hW
  · exact lw_mwx_141 hx h1 h2 hb hW
  · exact lw_mwx_142 hx h1 h2 hb hW
  · exact lw_mwx_143 hx h1 h2 hb hW
  · exact lw_mwx_144 hx h1 h2 hb hW
  · exact lw_mwx_145 hx h1 h2 hb hW
  · exact lw_mwx_146 hx h1 h2 hb hW
  · exact lw_mwx_147 hx h1 h2 hb hW
  · exact lw_mwx_148 hx h1 h2 hb hW
  · exact lw_mwx_149 hx h1 h2 hb hW
  · exact lw_mwx_150 hx h1 h2 hb hW
  · exact lw_mwx_151 hx h1 h2 hb hW
  · exact lw_mwx_152 hx h1 h2 hb hW
  · exact lw_mwx_153 hx h1 h2 hb hW
  · exact lw_mwx_154 hx h1 h2 hb hW
  · exact lw_mwx_155 hx h1 h2 hb hW
  · exact lw_mwx_156 hx h1 h2 hb hW
  · exact lw_mwx_157 hx h1 h2 hb hW
  · exact lw_mwx_158 hx h1 h2 hb hW
  · exact lw_mwx_159 hx h1 h2 hb hW
  · exact lw_mwx_160 hx h1 h2 hb hW
  · exact lw_mwx_161 hx h1 h2 hb hW
  · exact lw_mwx_162 hx h1 h2 hb hW
  · exact lw_mwx_163 hx h1 h2 hb hW
  · exact lw_mwx_164 hx h1 h2 hb hW
  · exact lw_mwx_165 hx h1 h2 hb hW
  · exact lw_mwx_166 hx h1 h2 hb hW
  · exact lw_mwx_167 hx h1 h2 hb hW
  · exact lw_mwx_168 hx h1 h2 hb hW
  · exact lw_mwx_169 hx h1 h2 hb hW
  · exact lw_mwx_170 hx h1 h2 hb hW
  · exact lw_mwx_171 hx h1 h2 hb hW
  · exact lw_mwx_172 hx h1 h2 hb hW
  · exact lw_mwx_173 hx h1 h2 hb hW
  · exact lw_mwx_174 hx h1 h2 hb hW
  · exact lw_mwx_175 hx h1 h2 hb hW
  · exact lw_mwx_176 hx h1 h2 hb hW
  · exact lw_mwx_177 hx h1 h2 hb hW
  · exact lw_mwx_178 hx h1 h2 hb hW
  · exact lw_mwx_179 hx h1 h2 hb hW
  · exact lw_mwx_180 hx h1 h2 hb hW
  · exact lw_mwx_181 hx h1 h2 hb hW
  · exact lw_mwx_182 hx h1 h2 hb hW
  · exact lw_mwx_183 hx h1 h2 hb hW
  · exact lw_mwx_184 hx h1 h2 hb hW
  · exact lw_mwx_185 hx h1 h2 hb hW
  · exact lw_mwx_186 hx h1 h2 hb hW
  · exact lw_mwx_187 hx h1 h2 hb hW
  · exact lw_mwx_188 hx h1 h2 hb hW
  · exact lw_mwx_189 hx h1 h2 hb hW
  · exact lw_mwx_190 hx h1 h2 hb hW
  · exact lw_mwx_191 hx h1 h2 hb hW
  · exact lw_mwx_192 hx h1 h2 hb hW
  · exact lw_mwx_193 hx h1 h2 hb hW
  · exact lw_mwx_194 hx h1 h2 hb hW
  · exact lw_mwx_195 hx h1 h2 hb hW
  · exact lw_mwx_196 hx h1 h2 hb hW
  · exact lw_mwx_197 hx h1 h2 hb hW
  · exact lw_mwx_198 hx h1 h2 hb hW
  · exact lw_mwx_199 hx h1 h2 hb hW
  · exact lw_mwx_200 hx h1 h2 hb hW
  · exact lw_mwx_201 hx h1 h2 hb hW
  · exact lw_mwx_202 hx h1 h2 hb hW
theorem lw_mustx {as : List rv_A} {σ σ' : Nat → Int} {o : rv_O} {x : Int32} {a1 a2 : Int} (hx : o.1 = some (.inl x)) (h1 : lw_av as 1 = a1) (h2 : lw_av as 2 = a2) (hb : ∀ s, (sx_sr s).1 ≤ σ s ∧ σ s ≤ (sx_sr s).2) (h : lw_Qc sx_c219 as σ σ' o) : ((x.toInt = 1 ∧ (0 ≤ a1 ∧ a1 < σ 133 ∧ 0 ≤ a2 ∧ a2 < σ 133 ∧ a1 ≠ a2 ∧ σ 134 ≤ 11) ∧ σ' 134 = σ 134 + 1) ∨ (x.toInt = 0 ∧ ¬ (0 ≤ a1 ∧ a1 < σ 133 ∧ 0 ≤ a2 ∧ a2 < σ 133 ∧ a1 ≠ a2 ∧ σ 134 ≤ 11) ∧ σ' 134 = σ 134)) ∧ σ' 133 = σ 133 ∧ σ' 12804 = σ 12804 ∧ σ' 12805 = σ 12805 ∧ σ' 10250 = σ 10250 ∧ σ' 12814 = σ 12814 ∧ σ' 18520 = σ 18520 ∧ σ' 18528 = σ 18528 ∧ σ' 18521 = σ 18521 ∧ σ' 18529 = σ 18529 ∧ σ' 18522 = σ 18522 ∧ σ' 18530 = σ 18530 ∧ σ' 18523 = σ 18523 ∧ σ' 18531 = σ 18531 ∧ σ' 18524 = σ 18524 ∧ σ' 18532 = σ 18532 ∧ σ' 18525 = σ 18525 ∧ σ' 18533 = σ 18533 ∧ σ' 18526 = σ 18526 ∧ σ' 18534 = σ 18534 ∧ σ' 18527 = σ 18527 ∧ σ' 18535 = σ 18535 := by
  have k := lw_kl (L := [133, 12804, 12805, 10250, 12814, 18520, 18528, 18521, 18529, 18522, 18530, 18523, 18531, 18524, 18532, 18525, 18533, 18526, 18534, 18527, 18535]) (by decide +kernel) h
  exact ⟨lw_mwx hx h1 h2 hb h, k 133 (by decide), k 12804 (by decide), k 12805 (by decide), k 10250 (by decide), k 12814 (by decide), k 18520 (by decide), k 18528 (by decide), k 18521 (by decide), k 18529 (by decide), k 18522 (by decide), k 18530 (by decide), k 18523 (by decide), k 18531 (by decide), k 18524 (by decide), k 18532 (by decide), k 18525 (by decide), k 18533 (by decide), k 18526 (by decide), k 18534 (by decide), k 18527 (by decide), k 18535 (by decide)⟩
def lw_mwm_C (a1 a2 z : Int) (σ σ' : Nat → Int) : Prop := ((z = 1 ∧ (0 ≤ a1 ∧ a1 < σ 12804 ∧ 0 ≤ a2 ∧ a2 < σ 12804 ∧ a1 ≠ a2 ∧ σ 12805 ≤ 11) ∧ σ' 12805 = σ 12805 + 1) ∨ (z = 0 ∧ ¬ (0 ≤ a1 ∧ a1 < σ 12804 ∧ 0 ≤ a2 ∧ a2 < σ 12804 ∧ a1 ≠ a2 ∧ σ 12805 ≤ 11) ∧ σ' 12805 = σ 12805))
theorem lw_mwm_0 {as : List rv_A} {σ σ' : Nat → Int} {o : rv_O} {x : Int32} {a1 a2 : Int} {τ : Nat → Int} (hx : o.1 = some (.inl x)) (h1 : lw_av as 1 = a1) (h2 : lw_av as 2 = a2) (hb : ∀ s, (sx_sr s).1 ≤ σ s ∧ σ s ≤ (sx_sr s).2) (hW : lw_W ([], [((-1), [(12804, 1)]), ((-12), [(12805, 1)]), (0, [(19001, 1)]), (6, [(19001, (-1))]), ((-1), [(19002, 1)]), (7, [(19002, (-1))]), ((-1), [(19001, (-1)), (19002, 1)]), ((-1), [(12804, 1), (19002, (-1))]), ((-1), [(12804, 1), (19001, (-1))])], [(12800, (4, []))], some (false, (0, []))) as σ σ' τ o) : lw_mwm_C a1 a2 x.toInt σ σ' := by
  unfold lw_mwm_C
  have b12804 : 0 ≤ σ 12804 ∧ σ 12804 ≤ 8 := by
    have h0 := hb 12804
    rw [show sx_sr 12804 = (0, 8) from by decide +kernel] at h0
    exact h0
  have b12805 : 0 ≤ σ 12805 ∧ σ 12805 ≤ 12 := by
    have h0 := hb 12805
    rw [show sx_sr 12805 = (0, 12) from by decide +kernel] at h0
    exact h0
  obtain ⟨hs, ht, hf, hr, hm, hw⟩ := hW
  have e1 : τ 19001 = a1 := by rw [ht 19001 (by decide) (by decide)]; exact h1
  have e2 : τ 19002 = a2 := by rw [ht 19002 (by decide) (by decide)]; exact h2
  have s12804 : τ 12804 = σ 12804 := hs 12804 (by decide)
  have s12805 : τ 12805 = σ 12805 := hs 12805 (by decide)
  clear hs ht hb
  rw [hx] at hr
  obtain ⟨y, hy, hv⟩ := hr
  cases hy
  replace hv : x.toInt = 0 + 0 := hv
  have f0 : 0 ≤ (-1) + (1 * τ 12804 + 0) := hf _ (List.Mem.head _)
  have f1 : 0 ≤ (-12) + (1 * τ 12805 + 0) := hf _ (List.Mem.tail _ (List.Mem.head _))
  have f2 : 0 ≤ 0 + (1 * τ 19001 + 0) := hf _ (List.Mem.tail _ (List.Mem.tail _ (List.Mem.head _)))
  have f3 : 0 ≤ 6 + ((-1) * τ 19001 + 0) := hf _ (List.Mem.tail _ (List.Mem.tail _ (List.Mem.tail _ (List.Mem.head _))))
  have f4 : 0 ≤ (-1) + (1 * τ 19002 + 0) := hf _ (List.Mem.tail _ (List.Mem.tail _ (List.Mem.tail _ (List.Mem.tail _ (List.Mem.head _)))))
  have f5 : 0 ≤ 7 + ((-1) * τ 19002 + 0) := hf _ (List.Mem.tail _ (List.Mem.tail _ (List.Mem.tail _ (List.Mem.tail _ (List.Mem.tail _ (List.Mem.head _))))))
  have f6 : 0 ≤ (-1) + ((-1) * τ 19001 + (1 * τ 19002 + 0)) := hf _ (List.Mem.tail _ (List.Mem.tail _ (List.Mem.tail _ (List.Mem.tail _ (List.Mem.tail _ (List.Mem.tail _ (List.Mem.head _)))))))
  have f7 : 0 ≤ (-1) + (1 * τ 12804 + ((-1) * τ 19002 + 0)) := hf _ (List.Mem.tail _ (List.Mem.tail _ (List.Mem.tail _ (List.Mem.tail _ (List.Mem.tail _ (List.Mem.tail _ (List.Mem.tail _ (List.Mem.head _))))))))
  have f8 : 0 ≤ (-1) + (1 * τ 12804 + ((-1) * τ 19001 + 0)) := hf _ (List.Mem.tail _ (List.Mem.tail _ (List.Mem.tail _ (List.Mem.tail _ (List.Mem.tail _ (List.Mem.tail _ (List.Mem.tail _ (List.Mem.tail _ (List.Mem.head _)))))))))
  have m12805 : σ' 12805 = 0 + (1 * τ 12805 + 0) := hm 12805 (by decide)
  clear hf hm
  exact Or.inr ⟨by omega, fun h => (by omega), by omega⟩
theorem lw_mwm_1 {as : List rv_A} {σ σ' : Nat → Int} {o : rv_O} {x : Int32} {a1 a2 : Int} {τ : Nat → Int} (hx : o.1 = some (.inl x)) (h1 : lw_av as 1 = a1) (h2 : lw_av as 2 = a2) (hb : ∀ s, (sx_sr s).1 ≤ σ s ∧ σ s ≤ (sx_sr s).2) (hW : lw_W ([], [((-1), [(12804, 1)]), ((-12), [(12805, 1)]), ((-1), [(19001, 1)]), (7, [(19001, (-1))]), (0, [(19002, 1)]), (6, [(19002, (-1))]), ((-1), [(19001, 1), (19002, (-1))]), ((-1), [(12804, 1), (19002, (-1))]), ((-1), [(12804, 1), (19001, (-1))])], [(12800, (4, []))], some (false, (0, []))) as σ σ' τ o) : lw_mwm_C a1 a2 x.toInt σ σ' := by
  unfold lw_mwm_C
  have b12804 : 0 ≤ σ 12804 ∧ σ 12804 ≤ 8 := by
    have h0 := hb 12804
    rw [show sx_sr 12804 = (0, 8) from by decide +kernel] at h0
    exact h0
  have b12805 : 0 ≤ σ 12805 ∧ σ 12805 ≤ 12 := by
    have h0 := hb 12805
    rw [show sx_sr 12805 = (0, 12) from by decide +kernel] at h0
    exact h0
  obtain ⟨hs, ht, hf, hr, hm, hw⟩ := hW
  have e1 : τ 19001 = a1 := by rw [ht 19001 (by decide) (by decide)]; exact h1
  have e2 : τ 19002 = a2 := by rw [ht 19002 (by decide) (by decide)]; exact h2
  have s12804 : τ 12804 = σ 12804 := hs 12804 (by decide)
  have s12805 : τ 12805 = σ 12805 := hs 12805 (by decide)
  clear hs ht hb
  rw [hx] at hr
  obtain ⟨y, hy, hv⟩ := hr
  cases hy
  replace hv : x.toInt = 0 + 0 := hv
  have f0 : 0 ≤ (-1) + (1 * τ 12804 + 0) := hf _ (List.Mem.head _)
  have f1 : 0 ≤ (-12) + (1 * τ 12805 + 0) := hf _ (List.Mem.tail _ (List.Mem.head _))
  have f2 : 0 ≤ (-1) + (1 * τ 19001 + 0) := hf _ (List.Mem.tail _ (List.Mem.tail _ (List.Mem.head _)))
  have f3 : 0 ≤ 7 + ((-1) * τ 19001 + 0) := hf _ (List.Mem.tail _ (List.Mem.tail _ (List.Mem.tail _ (List.Mem.head _))))
  have f4 : 0 ≤ 0 + (1 * τ 19002 + 0) := hf _ (List.Mem.tail _ (List.Mem.tail _ (List.Mem.tail _ (List.Mem.tail _ (List.Mem.head _)))))
  have f5 : 0 ≤ 6 + ((-1) * τ 19002 + 0) := hf _ (List.Mem.tail _ (List.Mem.tail _ (List.Mem.tail _ (List.Mem.tail _ (List.Mem.tail _ (List.Mem.head _))))))
  have f6 : 0 ≤ (-1) + (1 * τ 19001 + ((-1) * τ 19002 + 0)) := hf _ (List.Mem.tail _ (List.Mem.tail _ (List.Mem.tail _ (List.Mem.tail _ (List.Mem.tail _ (List.Mem.tail _ (List.Mem.head _)))))))
  have f7 : 0 ≤ (-1) + (1 * τ 12804 + ((-1) * τ 19002 + 0)) := hf _ (List.Mem.tail _ (List.Mem.tail _ (List.Mem.tail _ (List.Mem.tail _ (List.Mem.tail _ (List.Mem.tail _ (List.Mem.tail _ (List.Mem.head _))))))))
  have f8 : 0 ≤ (-1) + (1 * τ 12804 + ((-1) * τ 19001 + 0)) := hf _ (List.Mem.tail _ (List.Mem.tail _ (List.Mem.tail _ (List.Mem.tail _ (List.Mem.tail _ (List.Mem.tail _ (List.Mem.tail _ (List.Mem.tail _ (List.Mem.head _)))))))))
  have m12805 : σ' 12805 = 0 + (1 * τ 12805 + 0) := hm 12805 (by decide)
  clear hf hm
  exact Or.inr ⟨by omega, fun h => (by omega), by omega⟩
theorem lw_mwm_2 {as : List rv_A} {σ σ' : Nat → Int} {o : rv_O} {x : Int32} {a1 a2 : Int} {τ : Nat → Int} (hx : o.1 = some (.inl x)) (h1 : lw_av as 1 = a1) (h2 : lw_av as 2 = a2) (hb : ∀ s, (sx_sr s).1 ≤ σ s ∧ σ s ≤ (sx_sr s).2) (hW : lw_W ([], [((-1), [(12804, 1)]), (0, [(19001, 1)]), (7, [(19001, (-1))]), ((-1), [(19002, (-1))]), ((-1), [(12804, 1), (19001, (-1))])], [(12800, (1, []))], some (false, (0, []))) as σ σ' τ o) : lw_mwm_C a1 a2 x.toInt σ σ' := by
  unfold lw_mwm_C
  have b12804 : 0 ≤ σ 12804 ∧ σ 12804 ≤ 8 := by
    have h0 := hb 12804
    rw [show sx_sr 12804 = (0, 8) from by decide +kernel] at h0
    exact h0
  have b12805 : 0 ≤ σ 12805 ∧ σ 12805 ≤ 12 := by
    have h0 := hb 12805
    rw [show sx_sr 12805 = (0, 12) from by decide +kernel] at h0
    exact h0
  obtain ⟨hs, ht, hf, hr, hm, hw⟩ := hW
  have e1 : τ 19001 = a1 := by rw [ht 19001 (by decide) (by decide)]; exact h1
  have e2 : τ 19002 = a2 := by rw [ht 19002 (by decide) (by decide)]; exact h2
  have s12804 : τ 12804 = σ 12804 := hs 12804 (by decide)
  have s12805 : τ 12805 = σ 12805 := hs 12805 (by decide)
  clear hs ht hb
  rw [hx] at hr
  obtain ⟨y, hy, hv⟩ := hr
  cases hy
  replace hv : x.toInt = 0 + 0 := hv
  have f0 : 0 ≤ (-1) + (1 * τ 12804 + 0) := hf _ (List.Mem.head _)
  have f1 : 0 ≤ 0 + (1 * τ 19001 + 0) := hf _ (List.Mem.tail _ (List.Mem.head _))
  have f2 : 0 ≤ 7 + ((-1) * τ 19001 + 0) := hf _ (List.Mem.tail _ (List.Mem.tail _ (List.Mem.head _)))
  have f3 : 0 ≤ (-1) + ((-1) * τ 19002 + 0) := hf _ (List.Mem.tail _ (List.Mem.tail _ (List.Mem.tail _ (List.Mem.head _))))
  have f4 : 0 ≤ (-1) + (1 * τ 12804 + ((-1) * τ 19001 + 0)) := hf _ (List.Mem.tail _ (List.Mem.tail _ (List.Mem.tail _ (List.Mem.tail _ (List.Mem.head _)))))
  have m12805 : σ' 12805 = 0 + (1 * τ 12805 + 0) := hm 12805 (by decide)
  clear hf hm
  exact Or.inr ⟨by omega, fun h => (by omega), by omega⟩
theorem lw_mwm_3 {as : List rv_A} {σ σ' : Nat → Int} {o : rv_O} {x : Int32} {a1 a2 : Int} {τ : Nat → Int} (hx : o.1 = some (.inl x)) (h1 : lw_av as 1 = a1) (h2 : lw_av as 2 = a2) (hb : ∀ s, (sx_sr s).1 ≤ σ s ∧ σ s ≤ (sx_sr s).2) (hW : lw_W ([], [((-1), [(12804, 1)]), (0, [(19001, 1)]), (7, [(19001, (-1))]), (0, [(19002, 1)]), (7, [(19002, (-1))]), (0, [(19001, (-1)), (19002, 1)]), (0, [(19001, 1), (19002, (-1))]), ((-1), [(12804, 1), (19002, (-1))]), ((-1), [(12804, 1), (19001, (-1))])], [(12800, (1, []))], some (false, (0, []))) as σ σ' τ o) : lw_mwm_C a1 a2 x.toInt σ σ' := by
  unfold lw_mwm_C
  have b12804 : 0 ≤ σ 12804 ∧ σ 12804 ≤ 8 := by
    have h0 := hb 12804
    rw [show sx_sr 12804 = (0, 8) from by decide +kernel] at h0
    exact h0
  have b12805 : 0 ≤ σ 12805 ∧ σ 12805 ≤ 12 := by
    have h0 := hb 12805
    rw [show sx_sr 12805 = (0, 12) from by decide +kernel] at h0
    exact h0
  obtain ⟨hs, ht, hf, hr, hm, hw⟩ := hW
  have e1 : τ 19001 = a1 := by rw [ht 19001 (by decide) (by decide)]; exact h1
  have e2 : τ 19002 = a2 := by rw [ht 19002 (by decide) (by decide)]; exact h2
  have s12804 : τ 12804 = σ 12804 := hs 12804 (by decide)
  have s12805 : τ 12805 = σ 12805 := hs 12805 (by decide)
  clear hs ht hb
  rw [hx] at hr
  obtain ⟨y, hy, hv⟩ := hr
  cases hy
  replace hv : x.toInt = 0 + 0 := hv
  have f0 : 0 ≤ (-1) + (1 * τ 12804 + 0) := hf _ (List.Mem.head _)
  have f1 : 0 ≤ 0 + (1 * τ 19001 + 0) := hf _ (List.Mem.tail _ (List.Mem.head _))
  have f2 : 0 ≤ 7 + ((-1) * τ 19001 + 0) := hf _ (List.Mem.tail _ (List.Mem.tail _ (List.Mem.head _)))
  have f3 : 0 ≤ 0 + (1 * τ 19002 + 0) := hf _ (List.Mem.tail _ (List.Mem.tail _ (List.Mem.tail _ (List.Mem.head _))))
  have f4 : 0 ≤ 7 + ((-1) * τ 19002 + 0) := hf _ (List.Mem.tail _ (List.Mem.tail _ (List.Mem.tail _ (List.Mem.tail _ (List.Mem.head _)))))
  have f5 : 0 ≤ 0 + ((-1) * τ 19001 + (1 * τ 19002 + 0)) := hf _ (List.Mem.tail _ (List.Mem.tail _ (List.Mem.tail _ (List.Mem.tail _ (List.Mem.tail _ (List.Mem.head _))))))
  have f6 : 0 ≤ 0 + (1 * τ 19001 + ((-1) * τ 19002 + 0)) := hf _ (List.Mem.tail _ (List.Mem.tail _ (List.Mem.tail _ (List.Mem.tail _ (List.Mem.tail _ (List.Mem.tail _ (List.Mem.head _)))))))
  have f7 : 0 ≤ (-1) + (1 * τ 12804 + ((-1) * τ 19002 + 0)) := hf _ (List.Mem.tail _ (List.Mem.tail _ (List.Mem.tail _ (List.Mem.tail _ (List.Mem.tail _ (List.Mem.tail _ (List.Mem.tail _ (List.Mem.head _))))))))
  have f8 : 0 ≤ (-1) + (1 * τ 12804 + ((-1) * τ 19001 + 0)) := hf _ (List.Mem.tail _ (List.Mem.tail _ (List.Mem.tail _ (List.Mem.tail _ (List.Mem.tail _ (List.Mem.tail _ (List.Mem.tail _ (List.Mem.tail _ (List.Mem.head _)))))))))
  have m12805 : σ' 12805 = 0 + (1 * τ 12805 + 0) := hm 12805 (by decide)
  clear hf hm
  exact Or.inr ⟨by omega, fun h => (by omega), by omega⟩
theorem lw_mwm_4 {as : List rv_A} {σ σ' : Nat → Int} {o : rv_O} {x : Int32} {a1 a2 : Int} {τ : Nat → Int} (hx : o.1 = some (.inl x)) (h1 : lw_av as 1 = a1) (h2 : lw_av as 2 = a2) (hb : ∀ s, (sx_sr s).1 ≤ σ s ∧ σ s ≤ (sx_sr s).2) (hW : lw_W ([], [((-1), [(12804, 1)]), (0, [(19001, 1)]), (7, [(19001, (-1))]), ((-1), [(19002, 1)]), (0, [(12804, (-1)), (19002, 1)]), ((-1), [(12804, 1), (19001, (-1))])], [(12800, (1, []))], some (false, (0, []))) as σ σ' τ o) : lw_mwm_C a1 a2 x.toInt σ σ' := by
  unfold lw_mwm_C
  have b12804 : 0 ≤ σ 12804 ∧ σ 12804 ≤ 8 := by
    have h0 := hb 12804
    rw [show sx_sr 12804 = (0, 8) from by decide +kernel] at h0
    exact h0
  have b12805 : 0 ≤ σ 12805 ∧ σ 12805 ≤ 12 := by
    have h0 := hb 12805
    rw [show sx_sr 12805 = (0, 12) from by decide +kernel] at h0
    exact h0
  obtain ⟨hs, ht, hf, hr, hm, hw⟩ := hW
  have e1 : τ 19001 = a1 := by rw [ht 19001 (by decide) (by decide)]; exact h1
  have e2 : τ 19002 = a2 := by rw [ht 19002 (by decide) (by decide)]; exact h2
  have s12804 : τ 12804 = σ 12804 := hs 12804 (by decide)
  have s12805 : τ 12805 = σ 12805 := hs 12805 (by decide)
  clear hs ht hb
  rw [hx] at hr
  obtain ⟨y, hy, hv⟩ := hr
  cases hy
  replace hv : x.toInt = 0 + 0 := hv
  have f0 : 0 ≤ (-1) + (1 * τ 12804 + 0) := hf _ (List.Mem.head _)
  have f1 : 0 ≤ 0 + (1 * τ 19001 + 0) := hf _ (List.Mem.tail _ (List.Mem.head _))
  have f2 : 0 ≤ 7 + ((-1) * τ 19001 + 0) := hf _ (List.Mem.tail _ (List.Mem.tail _ (List.Mem.head _)))
  have f3 : 0 ≤ (-1) + (1 * τ 19002 + 0) := hf _ (List.Mem.tail _ (List.Mem.tail _ (List.Mem.tail _ (List.Mem.head _))))
  have f4 : 0 ≤ 0 + ((-1) * τ 12804 + (1 * τ 19002 + 0)) := hf _ (List.Mem.tail _ (List.Mem.tail _ (List.Mem.tail _ (List.Mem.tail _ (List.Mem.head _)))))
  have f5 : 0 ≤ (-1) + (1 * τ 12804 + ((-1) * τ 19001 + 0)) := hf _ (List.Mem.tail _ (List.Mem.tail _ (List.Mem.tail _ (List.Mem.tail _ (List.Mem.tail _ (List.Mem.head _))))))
  have m12805 : σ' 12805 = 0 + (1 * τ 12805 + 0) := hm 12805 (by decide)
  clear hf hm
  exact Or.inr ⟨by omega, fun h => (by omega), by omega⟩
theorem lw_mwm_5 {as : List rv_A} {σ σ' : Nat → Int} {o : rv_O} {x : Int32} {a1 a2 : Int} {τ : Nat → Int} (hx : o.1 = some (.inl x)) (h1 : lw_av as 1 = a1) (h2 : lw_av as 2 = a2) (hb : ∀ s, (sx_sr s).1 ≤ σ s ∧ σ s ≤ (sx_sr s).2) (hW : lw_W ([], [((-1), [(19001, (-1))])], [(12800, (1, []))], some (false, (0, []))) as σ σ' τ o) : lw_mwm_C a1 a2 x.toInt σ σ' := by
  unfold lw_mwm_C
  have b12804 : 0 ≤ σ 12804 ∧ σ 12804 ≤ 8 := by
    have h0 := hb 12804
    rw [show sx_sr 12804 = (0, 8) from by decide +kernel] at h0
    exact h0
  have b12805 : 0 ≤ σ 12805 ∧ σ 12805 ≤ 12 := by
    have h0 := hb 12805
    rw [show sx_sr 12805 = (0, 12) from by decide +kernel] at h0
    exact h0
  obtain ⟨hs, ht, hf, hr, hm, hw⟩ := hW
  have e1 : τ 19001 = a1 := by rw [ht 19001 (by decide) (by decide)]; exact h1
  have e2 : τ 19002 = a2 := by rw [ht 19002 (by decide) (by decide)]; exact h2
  have s12804 : τ 12804 = σ 12804 := hs 12804 (by decide)
  have s12805 : τ 12805 = σ 12805 := hs 12805 (by decide)
  clear hs ht hb
  rw [hx] at hr
  obtain ⟨y, hy, hv⟩ := hr
  cases hy
  replace hv : x.toInt = 0 + 0 := hv
  have f0 : 0 ≤ (-1) + ((-1) * τ 19001 + 0) := hf _ (List.Mem.head _)
  have m12805 : σ' 12805 = 0 + (1 * τ 12805 + 0) := hm 12805 (by decide)
  clear hf hm
  exact Or.inr ⟨by omega, fun h => (by omega), by omega⟩
theorem lw_mwm_6 {as : List rv_A} {σ σ' : Nat → Int} {o : rv_O} {x : Int32} {a1 a2 : Int} {τ : Nat → Int} (hx : o.1 = some (.inl x)) (h1 : lw_av as 1 = a1) (h2 : lw_av as 2 = a2) (hb : ∀ s, (sx_sr s).1 ≤ σ s ∧ σ s ≤ (sx_sr s).2) (hW : lw_W ([], [(0, [(19001, 1)]), (0, [(12804, (-1)), (19001, 1)])], [(12800, (1, []))], some (false, (0, []))) as σ σ' τ o) : lw_mwm_C a1 a2 x.toInt σ σ' := by
  unfold lw_mwm_C
  have b12804 : 0 ≤ σ 12804 ∧ σ 12804 ≤ 8 := by
    have h0 := hb 12804
    rw [show sx_sr 12804 = (0, 8) from by decide +kernel] at h0
    exact h0
  have b12805 : 0 ≤ σ 12805 ∧ σ 12805 ≤ 12 := by
    have h0 := hb 12805
    rw [show sx_sr 12805 = (0, 12) from by decide +kernel] at h0
    exact h0
  obtain ⟨hs, ht, hf, hr, hm, hw⟩ := hW
  have e1 : τ 19001 = a1 := by rw [ht 19001 (by decide) (by decide)]; exact h1
  have e2 : τ 19002 = a2 := by rw [ht 19002 (by decide) (by decide)]; exact h2
  have s12804 : τ 12804 = σ 12804 := hs 12804 (by decide)
  have s12805 : τ 12805 = σ 12805 := hs 12805 (by decide)
  clear hs ht hb
  rw [hx] at hr
  obtain ⟨y, hy, hv⟩ := hr
  cases hy
  replace hv : x.toInt = 0 + 0 := hv
  have f0 : 0 ≤ 0 + (1 * τ 19001 + 0) := hf _ (List.Mem.head _)
  have f1 : 0 ≤ 0 + ((-1) * τ 12804 + (1 * τ 19001 + 0)) := hf _ (List.Mem.tail _ (List.Mem.head _))
  have m12805 : σ' 12805 = 0 + (1 * τ 12805 + 0) := hm 12805 (by decide)
  clear hf hm
  exact Or.inr ⟨by omega, fun h => (by omega), by omega⟩
theorem lw_mwm_7 {as : List rv_A} {σ σ' : Nat → Int} {o : rv_O} {x : Int32} {a1 a2 : Int} {τ : Nat → Int} (hx : o.1 = some (.inl x)) (h1 : lw_av as 1 = a1) (h2 : lw_av as 2 = a2) (hb : ∀ s, (sx_sr s).1 ≤ σ s ∧ σ s ≤ (sx_sr s).2) (hW : lw_W ([], [((-1), [(12804, 1)]), (0, [(12805, (-1))]), (0, [(19001, 1)]), (6, [(19001, (-1))]), ((-1), [(19002, 1)]), (7, [(19002, (-1))]), ((-1), [(19001, (-1)), (19002, 1)]), ((-1), [(12804, 1), (19002, (-1))]), ((-1), [(12804, 1), (19001, (-1))])], [(12800, (0, [])), (12805, (1, [(12805, 1)])), (18552, (0, [(19001, 1)])), (18564, (0, [(19002, 1)])), (18576, (0, [(19003, 1)]))], some (false, (1, []))) as σ σ' τ o) : lw_mwm_C a1 a2 x.toInt σ σ' := by
  unfold lw_mwm_C
  have b12804 : 0 ≤ σ 12804 ∧ σ 12804 ≤ 8 := by
    have h0 := hb 12804
    rw [show sx_sr 12804 = (0, 8) from by decide +kernel] at h0
    exact h0
  have b12805 : 0 ≤ σ 12805 ∧ σ 12805 ≤ 12 := by
    have h0 := hb 12805
    rw [show sx_sr 12805 = (0, 12) from by decide +kernel] at h0
    exact h0
  obtain ⟨hs, ht, hf, hr, hm, hw⟩ := hW
  have e1 : τ 19001 = a1 := by rw [ht 19001 (by decide) (by decide)]; exact h1
  have e2 : τ 19002 = a2 := by rw [ht 19002 (by decide) (by decide)]; exact h2
  have s12804 : τ 12804 = σ 12804 := hs 12804 (by decide)
  have s12805 : τ 12805 = σ 12805 := hs 12805 (by decide)
  clear hs ht hb
  rw [hx] at hr
  obtain ⟨y, hy, hv⟩ := hr
  cases hy
  replace hv : x.toInt = 1 + 0 := hv
  have f0 : 0 ≤ (-1) + (1 * τ 12804 + 0) := hf _ (List.Mem.head _)
  have f1 : 0 ≤ 0 + ((-1) * τ 12805 + 0) := hf _ (List.Mem.tail _ (List.Mem.head _))
  have f2 : 0 ≤ 0 + (1 * τ 19001 + 0) := hf _ (List.Mem.tail _ (List.Mem.tail _ (List.Mem.head _)))
  have f3 : 0 ≤ 6 + ((-1) * τ 19001 + 0) := hf _ (List.Mem.tail _ (List.Mem.tail _ (List.Mem.tail _ (List.Mem.head _))))
  have f4 : 0 ≤ (-1) + (1 * τ 19002 + 0) := hf _ (List.Mem.tail _ (List.Mem.tail _ (List.Mem.tail _ (List.Mem.tail _ (List.Mem.head _)))))
  have f5 : 0 ≤ 7 + ((-1) * τ 19002 + 0) := hf _ (List.Mem.tail _ (List.Mem.tail _ (List.Mem.tail _ (List.Mem.tail _ (List.Mem.tail _ (List.Mem.head _))))))
  have f6 : 0 ≤ (-1) + ((-1) * τ 19001 + (1 * τ 19002 + 0)) := hf _ (List.Mem.tail _ (List.Mem.tail _ (List.Mem.tail _ (List.Mem.tail _ (List.Mem.tail _ (List.Mem.tail _ (List.Mem.head _)))))))
  have f7 : 0 ≤ (-1) + (1 * τ 12804 + ((-1) * τ 19002 + 0)) := hf _ (List.Mem.tail _ (List.Mem.tail _ (List.Mem.tail _ (List.Mem.tail _ (List.Mem.tail _ (List.Mem.tail _ (List.Mem.tail _ (List.Mem.head _))))))))
  have f8 : 0 ≤ (-1) + (1 * τ 12804 + ((-1) * τ 19001 + 0)) := hf _ (List.Mem.tail _ (List.Mem.tail _ (List.Mem.tail _ (List.Mem.tail _ (List.Mem.tail _ (List.Mem.tail _ (List.Mem.tail _ (List.Mem.tail _ (List.Mem.head _)))))))))
  have m12805 : σ' 12805 = 1 + (1 * τ 12805 + 0) := hm 12805 (by decide)
  clear hf hm
  exact Or.inl ⟨by omega, ⟨by omega, by omega, by omega, by omega, by omega, by omega⟩, by omega⟩
theorem lw_mwm_8 {as : List rv_A} {σ σ' : Nat → Int} {o : rv_O} {x : Int32} {a1 a2 : Int} {τ : Nat → Int} (hx : o.1 = some (.inl x)) (h1 : lw_av as 1 = a1) (h2 : lw_av as 2 = a2) (hb : ∀ s, (sx_sr s).1 ≤ σ s ∧ σ s ≤ (sx_sr s).2) (hW : lw_W ([], [((-1), [(12804, 1)]), (0, [(12805, (-1))]), ((-1), [(19001, 1)]), (7, [(19001, (-1))]), (0, [(19002, 1)]), (6, [(19002, (-1))]), ((-1), [(19001, 1), (19002, (-1))]), ((-1), [(12804, 1), (19002, (-1))]), ((-1), [(12804, 1), (19001, (-1))])], [(12800, (0, [])), (12805, (1, [(12805, 1)])), (18552, (0, [(19001, 1)])), (18564, (0, [(19002, 1)])), (18576, (0, [(19003, 1)]))], some (false, (1, []))) as σ σ' τ o) : lw_mwm_C a1 a2 x.toInt σ σ' := by
  unfold lw_mwm_C
  have b12804 : 0 ≤ σ 12804 ∧ σ 12804 ≤ 8 := by
    have h0 := hb 12804
    rw [show sx_sr 12804 = (0, 8) from by decide +kernel] at h0
    exact h0
  have b12805 : 0 ≤ σ 12805 ∧ σ 12805 ≤ 12 := by
    have h0 := hb 12805
    rw [show sx_sr 12805 = (0, 12) from by decide +kernel] at h0
    exact h0
  obtain ⟨hs, ht, hf, hr, hm, hw⟩ := hW
  have e1 : τ 19001 = a1 := by rw [ht 19001 (by decide) (by decide)]; exact h1
  have e2 : τ 19002 = a2 := by rw [ht 19002 (by decide) (by decide)]; exact h2
  have s12804 : τ 12804 = σ 12804 := hs 12804 (by decide)
  have s12805 : τ 12805 = σ 12805 := hs 12805 (by decide)
  clear hs ht hb
  rw [hx] at hr
  obtain ⟨y, hy, hv⟩ := hr
  cases hy
  replace hv : x.toInt = 1 + 0 := hv
  have f0 : 0 ≤ (-1) + (1 * τ 12804 + 0) := hf _ (List.Mem.head _)
  have f1 : 0 ≤ 0 + ((-1) * τ 12805 + 0) := hf _ (List.Mem.tail _ (List.Mem.head _))
  have f2 : 0 ≤ (-1) + (1 * τ 19001 + 0) := hf _ (List.Mem.tail _ (List.Mem.tail _ (List.Mem.head _)))
  have f3 : 0 ≤ 7 + ((-1) * τ 19001 + 0) := hf _ (List.Mem.tail _ (List.Mem.tail _ (List.Mem.tail _ (List.Mem.head _))))
  have f4 : 0 ≤ 0 + (1 * τ 19002 + 0) := hf _ (List.Mem.tail _ (List.Mem.tail _ (List.Mem.tail _ (List.Mem.tail _ (List.Mem.head _)))))
  have f5 : 0 ≤ 6 + ((-1) * τ 19002 + 0) := hf _ (List.Mem.tail _ (List.Mem.tail _ (List.Mem.tail _ (List.Mem.tail _ (List.Mem.tail _ (List.Mem.head _))))))
  have f6 : 0 ≤ (-1) + (1 * τ 19001 + ((-1) * τ 19002 + 0)) := hf _ (List.Mem.tail _ (List.Mem.tail _ (List.Mem.tail _ (List.Mem.tail _ (List.Mem.tail _ (List.Mem.tail _ (List.Mem.head _)))))))
  have f7 : 0 ≤ (-1) + (1 * τ 12804 + ((-1) * τ 19002 + 0)) := hf _ (List.Mem.tail _ (List.Mem.tail _ (List.Mem.tail _ (List.Mem.tail _ (List.Mem.tail _ (List.Mem.tail _ (List.Mem.tail _ (List.Mem.head _))))))))
  have f8 : 0 ≤ (-1) + (1 * τ 12804 + ((-1) * τ 19001 + 0)) := hf _ (List.Mem.tail _ (List.Mem.tail _ (List.Mem.tail _ (List.Mem.tail _ (List.Mem.tail _ (List.Mem.tail _ (List.Mem.tail _ (List.Mem.tail _ (List.Mem.head _)))))))))
  have m12805 : σ' 12805 = 1 + (1 * τ 12805 + 0) := hm 12805 (by decide)
  clear hf hm
  exact Or.inl ⟨by omega, ⟨by omega, by omega, by omega, by omega, by omega, by omega⟩, by omega⟩
theorem lw_mwm_9 {as : List rv_A} {σ σ' : Nat → Int} {o : rv_O} {x : Int32} {a1 a2 : Int} {τ : Nat → Int} (hx : o.1 = some (.inl x)) (h1 : lw_av as 1 = a1) (h2 : lw_av as 2 = a2) (hb : ∀ s, (sx_sr s).1 ≤ σ s ∧ σ s ≤ (sx_sr s).2) (hW : lw_W ([], [((-1), [(12804, 1)]), ((-1), [(12805, 1)]), (1, [(12805, (-1))]), (0, [(19001, 1)]), (6, [(19001, (-1))]), ((-1), [(19002, 1)]), (7, [(19002, (-1))]), ((-1), [(19001, (-1)), (19002, 1)]), ((-1), [(12804, 1), (19002, (-1))]), ((-1), [(12804, 1), (19001, (-1))])], [(12800, (0, [])), (12805, (1, [(12805, 1)])), (18553, (0, [(19001, 1)])), (18565, (0, [(19002, 1)])), (18577, (0, [(19003, 1)]))], some (false, (1, []))) as σ σ' τ o) : lw_mwm_C a1 a2 x.toInt σ σ' := by
  unfold lw_mwm_C
  have b12804 : 0 ≤ σ 12804 ∧ σ 12804 ≤ 8 := by
    have h0 := hb 12804
    rw [show sx_sr 12804 = (0, 8) from by decide +kernel] at h0
    exact h0
  have b12805 : 0 ≤ σ 12805 ∧ σ 12805 ≤ 12 := by
    have h0 := hb 12805
    rw [show sx_sr 12805 = (0, 12) from by decide +kernel] at h0
    exact h0
  obtain ⟨hs, ht, hf, hr, hm, hw⟩ := hW
  have e1 : τ 19001 = a1 := by rw [ht 19001 (by decide) (by decide)]; exact h1
  have e2 : τ 19002 = a2 := by rw [ht 19002 (by decide) (by decide)]; exact h2
  have s12804 : τ 12804 = σ 12804 := hs 12804 (by decide)
  have s12805 : τ 12805 = σ 12805 := hs 12805 (by decide)
  clear hs ht hb
  rw [hx] at hr
  obtain ⟨y, hy, hv⟩ := hr
  cases hy
  replace hv : x.toInt = 1 + 0 := hv
  have f0 : 0 ≤ (-1) + (1 * τ 12804 + 0) := hf _ (List.Mem.head _)
  have f1 : 0 ≤ (-1) + (1 * τ 12805 + 0) := hf _ (List.Mem.tail _ (List.Mem.head _))
  have f2 : 0 ≤ 1 + ((-1) * τ 12805 + 0) := hf _ (List.Mem.tail _ (List.Mem.tail _ (List.Mem.head _)))
  have f3 : 0 ≤ 0 + (1 * τ 19001 + 0) := hf _ (List.Mem.tail _ (List.Mem.tail _ (List.Mem.tail _ (List.Mem.head _))))
  have f4 : 0 ≤ 6 + ((-1) * τ 19001 + 0) := hf _ (List.Mem.tail _ (List.Mem.tail _ (List.Mem.tail _ (List.Mem.tail _ (List.Mem.head _)))))
  have f5 : 0 ≤ (-1) + (1 * τ 19002 + 0) := hf _ (List.Mem.tail _ (List.Mem.tail _ (List.Mem.tail _ (List.Mem.tail _ (List.Mem.tail _ (List.Mem.head _))))))
  have f6 : 0 ≤ 7 + ((-1) * τ 19002 + 0) := hf _ (List.Mem.tail _ (List.Mem.tail _ (List.Mem.tail _ (List.Mem.tail _ (List.Mem.tail _ (List.Mem.tail _ (List.Mem.head _)))))))
  have f7 : 0 ≤ (-1) + ((-1) * τ 19001 + (1 * τ 19002 + 0)) := hf _ (List.Mem.tail _ (List.Mem.tail _ (List.Mem.tail _ (List.Mem.tail _ (List.Mem.tail _ (List.Mem.tail _ (List.Mem.tail _ (List.Mem.head _))))))))
  have f8 : 0 ≤ (-1) + (1 * τ 12804 + ((-1) * τ 19002 + 0)) := hf _ (List.Mem.tail _ (List.Mem.tail _ (List.Mem.tail _ (List.Mem.tail _ (List.Mem.tail _ (List.Mem.tail _ (List.Mem.tail _ (List.Mem.tail _ (List.Mem.head _)))))))))
  have f9 : 0 ≤ (-1) + (1 * τ 12804 + ((-1) * τ 19001 + 0)) := hf _ (List.Mem.tail _ (List.Mem.tail _ (List.Mem.tail _ (List.Mem.tail _ (List.Mem.tail _ (List.Mem.tail _ (List.Mem.tail _ (List.Mem.tail _ (List.Mem.tail _ (List.Mem.head _))))))))))
  have m12805 : σ' 12805 = 1 + (1 * τ 12805 + 0) := hm 12805 (by decide)
  clear hf hm
  exact Or.inl ⟨by omega, ⟨by omega, by omega, by omega, by omega, by omega, by omega⟩, by omega⟩
theorem lw_mwm_10 {as : List rv_A} {σ σ' : Nat → Int} {o : rv_O} {x : Int32} {a1 a2 : Int} {τ : Nat → Int} (hx : o.1 = some (.inl x)) (h1 : lw_av as 1 = a1) (h2 : lw_av as 2 = a2) (hb : ∀ s, (sx_sr s).1 ≤ σ s ∧ σ s ≤ (sx_sr s).2) (hW : lw_W ([], [((-1), [(12804, 1)]), ((-1), [(12805, 1)]), (1, [(12805, (-1))]), ((-1), [(19001, 1)]), (7, [(19001, (-1))]), (0, [(19002, 1)]), (6, [(19002, (-1))]), ((-1), [(19001, 1), (19002, (-1))]), ((-1), [(12804, 1), (19002, (-1))]), ((-1), [(12804, 1), (19001, (-1))])], [(12800, (0, [])), (12805, (1, [(12805, 1)])), (18553, (0, [(19001, 1)])), (18565, (0, [(19002, 1)])), (18577, (0, [(19003, 1)]))], some (false, (1, []))) as σ σ' τ o) : lw_mwm_C a1 a2 x.toInt σ σ' := by
  unfold lw_mwm_C
  have b12804 : 0 ≤ σ 12804 ∧ σ 12804 ≤ 8 := by
    have h0 := hb 12804
    rw [show sx_sr 12804 = (0, 8) from by decide +kernel] at h0
    exact h0
  have b12805 : 0 ≤ σ 12805 ∧ σ 12805 ≤ 12 := by
    have h0 := hb 12805
    rw [show sx_sr 12805 = (0, 12) from by decide +kernel] at h0
    exact h0
  obtain ⟨hs, ht, hf, hr, hm, hw⟩ := hW
  have e1 : τ 19001 = a1 := by rw [ht 19001 (by decide) (by decide)]; exact h1
  have e2 : τ 19002 = a2 := by rw [ht 19002 (by decide) (by decide)]; exact h2
  have s12804 : τ 12804 = σ 12804 := hs 12804 (by decide)
  have s12805 : τ 12805 = σ 12805 := hs 12805 (by decide)
  clear hs ht hb
  rw [hx] at hr
  obtain ⟨y, hy, hv⟩ := hr
  cases hy
  replace hv : x.toInt = 1 + 0 := hv
  have f0 : 0 ≤ (-1) + (1 * τ 12804 + 0) := hf _ (List.Mem.head _)
  have f1 : 0 ≤ (-1) + (1 * τ 12805 + 0) := hf _ (List.Mem.tail _ (List.Mem.head _))
  have f2 : 0 ≤ 1 + ((-1) * τ 12805 + 0) := hf _ (List.Mem.tail _ (List.Mem.tail _ (List.Mem.head _)))
  have f3 : 0 ≤ (-1) + (1 * τ 19001 + 0) := hf _ (List.Mem.tail _ (List.Mem.tail _ (List.Mem.tail _ (List.Mem.head _))))
  have f4 : 0 ≤ 7 + ((-1) * τ 19001 + 0) := hf _ (List.Mem.tail _ (List.Mem.tail _ (List.Mem.tail _ (List.Mem.tail _ (List.Mem.head _)))))
  have f5 : 0 ≤ 0 + (1 * τ 19002 + 0) := hf _ (List.Mem.tail _ (List.Mem.tail _ (List.Mem.tail _ (List.Mem.tail _ (List.Mem.tail _ (List.Mem.head _))))))
  have f6 : 0 ≤ 6 + ((-1) * τ 19002 + 0) := hf _ (List.Mem.tail _ (List.Mem.tail _ (List.Mem.tail _ (List.Mem.tail _ (List.Mem.tail _ (List.Mem.tail _ (List.Mem.head _)))))))
  have f7 : 0 ≤ (-1) + (1 * τ 19001 + ((-1) * τ 19002 + 0)) := hf _ (List.Mem.tail _ (List.Mem.tail _ (List.Mem.tail _ (List.Mem.tail _ (List.Mem.tail _ (List.Mem.tail _ (List.Mem.tail _ (List.Mem.head _))))))))
  have f8 : 0 ≤ (-1) + (1 * τ 12804 + ((-1) * τ 19002 + 0)) := hf _ (List.Mem.tail _ (List.Mem.tail _ (List.Mem.tail _ (List.Mem.tail _ (List.Mem.tail _ (List.Mem.tail _ (List.Mem.tail _ (List.Mem.tail _ (List.Mem.head _)))))))))
  have f9 : 0 ≤ (-1) + (1 * τ 12804 + ((-1) * τ 19001 + 0)) := hf _ (List.Mem.tail _ (List.Mem.tail _ (List.Mem.tail _ (List.Mem.tail _ (List.Mem.tail _ (List.Mem.tail _ (List.Mem.tail _ (List.Mem.tail _ (List.Mem.tail _ (List.Mem.head _))))))))))
  have m12805 : σ' 12805 = 1 + (1 * τ 12805 + 0) := hm 12805 (by decide)
  clear hf hm
  exact Or.inl ⟨by omega, ⟨by omega, by omega, by omega, by omega, by omega, by omega⟩, by omega⟩
theorem lw_mwm_11 {as : List rv_A} {σ σ' : Nat → Int} {o : rv_O} {x : Int32} {a1 a2 : Int} {τ : Nat → Int} (hx : o.1 = some (.inl x)) (h1 : lw_av as 1 = a1) (h2 : lw_av as 2 = a2) (hb : ∀ s, (sx_sr s).1 ≤ σ s ∧ σ s ≤ (sx_sr s).2) (hW : lw_W ([], [((-1), [(12804, 1)]), ((-10), [(12805, 1)]), (10, [(12805, (-1))]), (0, [(19001, 1)]), (6, [(19001, (-1))]), ((-1), [(19002, 1)]), (7, [(19002, (-1))]), ((-1), [(19001, (-1)), (19002, 1)]), ((-1), [(12804, 1), (19002, (-1))]), ((-1), [(12804, 1), (19001, (-1))])], [(12800, (0, [])), (12805, (1, [(12805, 1)])), (18562, (0, [(19001, 1)])), (18574, (0, [(19002, 1)])), (18586, (0, [(19003, 1)]))], some (false, (1, []))) as σ σ' τ o) : lw_mwm_C a1 a2 x.toInt σ σ' := by
  unfold lw_mwm_C
  have b12804 : 0 ≤ σ 12804 ∧ σ 12804 ≤ 8 := by
    have h0 := hb 12804
    rw [show sx_sr 12804 = (0, 8) from by decide +kernel] at h0
    exact h0
  have b12805 : 0 ≤ σ 12805 ∧ σ 12805 ≤ 12 := by
    have h0 := hb 12805
    rw [show sx_sr 12805 = (0, 12) from by decide +kernel] at h0
    exact h0
  obtain ⟨hs, ht, hf, hr, hm, hw⟩ := hW
  have e1 : τ 19001 = a1 := by rw [ht 19001 (by decide) (by decide)]; exact h1
  have e2 : τ 19002 = a2 := by rw [ht 19002 (by decide) (by decide)]; exact h2
  have s12804 : τ 12804 = σ 12804 := hs 12804 (by decide)
  have s12805 : τ 12805 = σ 12805 := hs 12805 (by decide)
  clear hs ht hb
  rw [hx] at hr
  obtain ⟨y, hy, hv⟩ := hr
  cases hy
  replace hv : x.toInt = 1 + 0 := hv
  have f0 : 0 ≤ (-1) + (1 * τ 12804 + 0) := hf _ (List.Mem.head _)
  have f1 : 0 ≤ (-10) + (1 * τ 12805 + 0) := hf _ (List.Mem.tail _ (List.Mem.head _))
  have f2 : 0 ≤ 10 + ((-1) * τ 12805 + 0) := hf _ (List.Mem.tail _ (List.Mem.tail _ (List.Mem.head _)))
  have f3 : 0 ≤ 0 + (1 * τ 19001 + 0) := hf _ (List.Mem.tail _ (List.Mem.tail _ (List.Mem.tail _ (List.Mem.head _))))
  have f4 : 0 ≤ 6 + ((-1) * τ 19001 + 0) := hf _ (List.Mem.tail _ (List.Mem.tail _ (List.Mem.tail _ (List.Mem.tail _ (List.Mem.head _)))))
  have f5 : 0 ≤ (-1) + (1 * τ 19002 + 0) := hf _ (List.Mem.tail _ (List.Mem.tail _ (List.Mem.tail _ (List.Mem.tail _ (List.Mem.tail _ (List.Mem.head _))))))
  have f6 : 0 ≤ 7 + ((-1) * τ 19002 + 0) := hf _ (List.Mem.tail _ (List.Mem.tail _ (List.Mem.tail _ (List.Mem.tail _ (List.Mem.tail _ (List.Mem.tail _ (List.Mem.head _)))))))
  have f7 : 0 ≤ (-1) + ((-1) * τ 19001 + (1 * τ 19002 + 0)) := hf _ (List.Mem.tail _ (List.Mem.tail _ (List.Mem.tail _ (List.Mem.tail _ (List.Mem.tail _ (List.Mem.tail _ (List.Mem.tail _ (List.Mem.head _))))))))
  have f8 : 0 ≤ (-1) + (1 * τ 12804 + ((-1) * τ 19002 + 0)) := hf _ (List.Mem.tail _ (List.Mem.tail _ (List.Mem.tail _ (List.Mem.tail _ (List.Mem.tail _ (List.Mem.tail _ (List.Mem.tail _ (List.Mem.tail _ (List.Mem.head _)))))))))
  have f9 : 0 ≤ (-1) + (1 * τ 12804 + ((-1) * τ 19001 + 0)) := hf _ (List.Mem.tail _ (List.Mem.tail _ (List.Mem.tail _ (List.Mem.tail _ (List.Mem.tail _ (List.Mem.tail _ (List.Mem.tail _ (List.Mem.tail _ (List.Mem.tail _ (List.Mem.head _))))))))))
  have m12805 : σ' 12805 = 1 + (1 * τ 12805 + 0) := hm 12805 (by decide)
  clear hf hm
  exact Or.inl ⟨by omega, ⟨by omega, by omega, by omega, by omega, by omega, by omega⟩, by omega⟩
theorem lw_mwm_12 {as : List rv_A} {σ σ' : Nat → Int} {o : rv_O} {x : Int32} {a1 a2 : Int} {τ : Nat → Int} (hx : o.1 = some (.inl x)) (h1 : lw_av as 1 = a1) (h2 : lw_av as 2 = a2) (hb : ∀ s, (sx_sr s).1 ≤ σ s ∧ σ s ≤ (sx_sr s).2) (hW : lw_W ([], [((-1), [(12804, 1)]), ((-10), [(12805, 1)]), (10, [(12805, (-1))]), ((-1), [(19001, 1)]), (7, [(19001, (-1))]), (0, [(19002, 1)]), (6, [(19002, (-1))]), ((-1), [(19001, 1), (19002, (-1))]), ((-1), [(12804, 1), (19002, (-1))]), ((-1), [(12804, 1), (19001, (-1))])], [(12800, (0, [])), (12805, (1, [(12805, 1)])), (18562, (0, [(19001, 1)])), (18574, (0, [(19002, 1)])), (18586, (0, [(19003, 1)]))], some (false, (1, []))) as σ σ' τ o) : lw_mwm_C a1 a2 x.toInt σ σ' := by
  unfold lw_mwm_C
  have b12804 : 0 ≤ σ 12804 ∧ σ 12804 ≤ 8 := by
    have h0 := hb 12804
    rw [show sx_sr 12804 = (0, 8) from by decide +kernel] at h0
    exact h0
  have b12805 : 0 ≤ σ 12805 ∧ σ 12805 ≤ 12 := by
    have h0 := hb 12805
    rw [show sx_sr 12805 = (0, 12) from by decide +kernel] at h0
    exact h0
  obtain ⟨hs, ht, hf, hr, hm, hw⟩ := hW
  have e1 : τ 19001 = a1 := by rw [ht 19001 (by decide) (by decide)]; exact h1
  have e2 : τ 19002 = a2 := by rw [ht 19002 (by decide) (by decide)]; exact h2
  have s12804 : τ 12804 = σ 12804 := hs 12804 (by decide)
  have s12805 : τ 12805 = σ 12805 := hs 12805 (by decide)
  clear hs ht hb
  rw [hx] at hr
  obtain ⟨y, hy, hv⟩ := hr
  cases hy
  replace hv : x.toInt = 1 + 0 := hv
  have f0 : 0 ≤ (-1) + (1 * τ 12804 + 0) := hf _ (List.Mem.head _)
  have f1 : 0 ≤ (-10) + (1 * τ 12805 + 0) := hf _ (List.Mem.tail _ (List.Mem.head _))
  have f2 : 0 ≤ 10 + ((-1) * τ 12805 + 0) := hf _ (List.Mem.tail _ (List.Mem.tail _ (List.Mem.head _)))
  have f3 : 0 ≤ (-1) + (1 * τ 19001 + 0) := hf _ (List.Mem.tail _ (List.Mem.tail _ (List.Mem.tail _ (List.Mem.head _))))
  have f4 : 0 ≤ 7 + ((-1) * τ 19001 + 0) := hf _ (List.Mem.tail _ (List.Mem.tail _ (List.Mem.tail _ (List.Mem.tail _ (List.Mem.head _)))))
  have f5 : 0 ≤ 0 + (1 * τ 19002 + 0) := hf _ (List.Mem.tail _ (List.Mem.tail _ (List.Mem.tail _ (List.Mem.tail _ (List.Mem.tail _ (List.Mem.head _))))))
  have f6 : 0 ≤ 6 + ((-1) * τ 19002 + 0) := hf _ (List.Mem.tail _ (List.Mem.tail _ (List.Mem.tail _ (List.Mem.tail _ (List.Mem.tail _ (List.Mem.tail _ (List.Mem.head _)))))))
  have f7 : 0 ≤ (-1) + (1 * τ 19001 + ((-1) * τ 19002 + 0)) := hf _ (List.Mem.tail _ (List.Mem.tail _ (List.Mem.tail _ (List.Mem.tail _ (List.Mem.tail _ (List.Mem.tail _ (List.Mem.tail _ (List.Mem.head _))))))))
  have f8 : 0 ≤ (-1) + (1 * τ 12804 + ((-1) * τ 19002 + 0)) := hf _ (List.Mem.tail _ (List.Mem.tail _ (List.Mem.tail _ (List.Mem.tail _ (List.Mem.tail _ (List.Mem.tail _ (List.Mem.tail _ (List.Mem.tail _ (List.Mem.head _)))))))))
  have f9 : 0 ≤ (-1) + (1 * τ 12804 + ((-1) * τ 19001 + 0)) := hf _ (List.Mem.tail _ (List.Mem.tail _ (List.Mem.tail _ (List.Mem.tail _ (List.Mem.tail _ (List.Mem.tail _ (List.Mem.tail _ (List.Mem.tail _ (List.Mem.tail _ (List.Mem.head _))))))))))
  have m12805 : σ' 12805 = 1 + (1 * τ 12805 + 0) := hm 12805 (by decide)
  clear hf hm
  exact Or.inl ⟨by omega, ⟨by omega, by omega, by omega, by omega, by omega, by omega⟩, by omega⟩
theorem lw_mwm_13 {as : List rv_A} {σ σ' : Nat → Int} {o : rv_O} {x : Int32} {a1 a2 : Int} {τ : Nat → Int} (hx : o.1 = some (.inl x)) (h1 : lw_av as 1 = a1) (h2 : lw_av as 2 = a2) (hb : ∀ s, (sx_sr s).1 ≤ σ s ∧ σ s ≤ (sx_sr s).2) (hW : lw_W ([], [((-1), [(12804, 1)]), ((-11), [(12805, 1)]), (11, [(12805, (-1))]), (0, [(19001, 1)]), (6, [(19001, (-1))]), ((-1), [(19002, 1)]), (7, [(19002, (-1))]), ((-1), [(19001, (-1)), (19002, 1)]), ((-1), [(12804, 1), (19002, (-1))]), ((-1), [(12804, 1), (19001, (-1))])], [(12800, (0, [])), (12805, (1, [(12805, 1)])), (18563, (0, [(19001, 1)])), (18575, (0, [(19002, 1)])), (18587, (0, [(19003, 1)]))], some (false, (1, []))) as σ σ' τ o) : lw_mwm_C a1 a2 x.toInt σ σ' := by
  unfold lw_mwm_C
  have b12804 : 0 ≤ σ 12804 ∧ σ 12804 ≤ 8 := by
    have h0 := hb 12804
    rw [show sx_sr 12804 = (0, 8) from by decide +kernel] at h0
    exact h0
  have b12805 : 0 ≤ σ 12805 ∧ σ 12805 ≤ 12 := by
    have h0 := hb 12805
    rw [show sx_sr 12805 = (0, 12) from by decide +kernel] at h0
    exact h0
  obtain ⟨hs, ht, hf, hr, hm, hw⟩ := hW
  have e1 : τ 19001 = a1 := by rw [ht 19001 (by decide) (by decide)]; exact h1
  have e2 : τ 19002 = a2 := by rw [ht 19002 (by decide) (by decide)]; exact h2
  have s12804 : τ 12804 = σ 12804 := hs 12804 (by decide)
  have s12805 : τ 12805 = σ 12805 := hs 12805 (by decide)
  clear hs ht hb
  rw [hx] at hr
  obtain ⟨y, hy, hv⟩ := hr
  cases hy
  replace hv : x.toInt = 1 + 0 := hv
  have f0 : 0 ≤ (-1) + (1 * τ 12804 + 0) := hf _ (List.Mem.head _)
  have f1 : 0 ≤ (-11) + (1 * τ 12805 + 0) := hf _ (List.Mem.tail _ (List.Mem.head _))
  have f2 : 0 ≤ 11 + ((-1) * τ 12805 + 0) := hf _ (List.Mem.tail _ (List.Mem.tail _ (List.Mem.head _)))
  have f3 : 0 ≤ 0 + (1 * τ 19001 + 0) := hf _ (List.Mem.tail _ (List.Mem.tail _ (List.Mem.tail _ (List.Mem.head _))))
  have f4 : 0 ≤ 6 + ((-1) * τ 19001 + 0) := hf _ (List.Mem.tail _ (List.Mem.tail _ (List.Mem.tail _ (List.Mem.tail _ (List.Mem.head _)))))
  have f5 : 0 ≤ (-1) + (1 * τ 19002 + 0) := hf _ (List.Mem.tail _ (List.Mem.tail _ (List.Mem.tail _ (List.Mem.tail _ (List.Mem.tail _ (List.Mem.head _))))))
  have f6 : 0 ≤ 7 + ((-1) * τ 19002 + 0) := hf _ (List.Mem.tail _ (List.Mem.tail _ (List.Mem.tail _ (List.Mem.tail _ (List.Mem.tail _ (List.Mem.tail _ (List.Mem.head _)))))))
  have f7 : 0 ≤ (-1) + ((-1) * τ 19001 + (1 * τ 19002 + 0)) := hf _ (List.Mem.tail _ (List.Mem.tail _ (List.Mem.tail _ (List.Mem.tail _ (List.Mem.tail _ (List.Mem.tail _ (List.Mem.tail _ (List.Mem.head _))))))))
  have f8 : 0 ≤ (-1) + (1 * τ 12804 + ((-1) * τ 19002 + 0)) := hf _ (List.Mem.tail _ (List.Mem.tail _ (List.Mem.tail _ (List.Mem.tail _ (List.Mem.tail _ (List.Mem.tail _ (List.Mem.tail _ (List.Mem.tail _ (List.Mem.head _)))))))))
  have f9 : 0 ≤ (-1) + (1 * τ 12804 + ((-1) * τ 19001 + 0)) := hf _ (List.Mem.tail _ (List.Mem.tail _ (List.Mem.tail _ (List.Mem.tail _ (List.Mem.tail _ (List.Mem.tail _ (List.Mem.tail _ (List.Mem.tail _ (List.Mem.tail _ (List.Mem.head _))))))))))
  have m12805 : σ' 12805 = 1 + (1 * τ 12805 + 0) := hm 12805 (by decide)
  clear hf hm
  exact Or.inl ⟨by omega, ⟨by omega, by omega, by omega, by omega, by omega, by omega⟩, by omega⟩
theorem lw_mwm_14 {as : List rv_A} {σ σ' : Nat → Int} {o : rv_O} {x : Int32} {a1 a2 : Int} {τ : Nat → Int} (hx : o.1 = some (.inl x)) (h1 : lw_av as 1 = a1) (h2 : lw_av as 2 = a2) (hb : ∀ s, (sx_sr s).1 ≤ σ s ∧ σ s ≤ (sx_sr s).2) (hW : lw_W ([], [((-1), [(12804, 1)]), ((-11), [(12805, 1)]), (11, [(12805, (-1))]), ((-1), [(19001, 1)]), (7, [(19001, (-1))]), (0, [(19002, 1)]), (6, [(19002, (-1))]), ((-1), [(19001, 1), (19002, (-1))]), ((-1), [(12804, 1), (19002, (-1))]), ((-1), [(12804, 1), (19001, (-1))])], [(12800, (0, [])), (12805, (1, [(12805, 1)])), (18563, (0, [(19001, 1)])), (18575, (0, [(19002, 1)])), (18587, (0, [(19003, 1)]))], some (false, (1, []))) as σ σ' τ o) : lw_mwm_C a1 a2 x.toInt σ σ' := by
  unfold lw_mwm_C
  have b12804 : 0 ≤ σ 12804 ∧ σ 12804 ≤ 8 := by
    have h0 := hb 12804
    rw [show sx_sr 12804 = (0, 8) from by decide +kernel] at h0
    exact h0
  have b12805 : 0 ≤ σ 12805 ∧ σ 12805 ≤ 12 := by
    have h0 := hb 12805
    rw [show sx_sr 12805 = (0, 12) from by decide +kernel] at h0
    exact h0
  obtain ⟨hs, ht, hf, hr, hm, hw⟩ := hW
  have e1 : τ 19001 = a1 := by rw [ht 19001 (by decide) (by decide)]; exact h1
  have e2 : τ 19002 = a2 := by rw [ht 19002 (by decide) (by decide)]; exact h2
  have s12804 : τ 12804 = σ 12804 := hs 12804 (by decide)
  have s12805 : τ 12805 = σ 12805 := hs 12805 (by decide)
  clear hs ht hb
  rw [hx] at hr
  obtain ⟨y, hy, hv⟩ := hr
  cases hy
  replace hv : x.toInt = 1 + 0 := hv
  have f0 : 0 ≤ (-1) + (1 * τ 12804 + 0) := hf _ (List.Mem.head _)
  have f1 : 0 ≤ (-11) + (1 * τ 12805 + 0) := hf _ (List.Mem.tail _ (List.Mem.head _))
  have f2 : 0 ≤ 11 + ((-1) * τ 12805 + 0) := hf _ (List.Mem.tail _ (List.Mem.tail _ (List.Mem.head _)))
  have f3 : 0 ≤ (-1) + (1 * τ 19001 + 0) := hf _ (List.Mem.tail _ (List.Mem.tail _ (List.Mem.tail _ (List.Mem.head _))))
  have f4 : 0 ≤ 7 + ((-1) * τ 19001 + 0) := hf _ (List.Mem.tail _ (List.Mem.tail _ (List.Mem.tail _ (List.Mem.tail _ (List.Mem.head _)))))
  have f5 : 0 ≤ 0 + (1 * τ 19002 + 0) := hf _ (List.Mem.tail _ (List.Mem.tail _ (List.Mem.tail _ (List.Mem.tail _ (List.Mem.tail _ (List.Mem.head _))))))
  have f6 : 0 ≤ 6 + ((-1) * τ 19002 + 0) := hf _ (List.Mem.tail _ (List.Mem.tail _ (List.Mem.tail _ (List.Mem.tail _ (List.Mem.tail _ (List.Mem.tail _ (List.Mem.head _)))))))
  have f7 : 0 ≤ (-1) + (1 * τ 19001 + ((-1) * τ 19002 + 0)) := hf _ (List.Mem.tail _ (List.Mem.tail _ (List.Mem.tail _ (List.Mem.tail _ (List.Mem.tail _ (List.Mem.tail _ (List.Mem.tail _ (List.Mem.head _))))))))
  have f8 : 0 ≤ (-1) + (1 * τ 12804 + ((-1) * τ 19002 + 0)) := hf _ (List.Mem.tail _ (List.Mem.tail _ (List.Mem.tail _ (List.Mem.tail _ (List.Mem.tail _ (List.Mem.tail _ (List.Mem.tail _ (List.Mem.tail _ (List.Mem.head _)))))))))
  have f9 : 0 ≤ (-1) + (1 * τ 12804 + ((-1) * τ 19001 + 0)) := hf _ (List.Mem.tail _ (List.Mem.tail _ (List.Mem.tail _ (List.Mem.tail _ (List.Mem.tail _ (List.Mem.tail _ (List.Mem.tail _ (List.Mem.tail _ (List.Mem.tail _ (List.Mem.head _))))))))))
  have m12805 : σ' 12805 = 1 + (1 * τ 12805 + 0) := hm 12805 (by decide)
  clear hf hm
  exact Or.inl ⟨by omega, ⟨by omega, by omega, by omega, by omega, by omega, by omega⟩, by omega⟩
theorem lw_mwm_15 {as : List rv_A} {σ σ' : Nat → Int} {o : rv_O} {x : Int32} {a1 a2 : Int} {τ : Nat → Int} (hx : o.1 = some (.inl x)) (h1 : lw_av as 1 = a1) (h2 : lw_av as 2 = a2) (hb : ∀ s, (sx_sr s).1 ≤ σ s ∧ σ s ≤ (sx_sr s).2) (hW : lw_W ([], [((-1), [(12804, 1)]), ((-2), [(12805, 1)]), (2, [(12805, (-1))]), (0, [(19001, 1)]), (6, [(19001, (-1))]), ((-1), [(19002, 1)]), (7, [(19002, (-1))]), ((-1), [(19001, (-1)), (19002, 1)]), ((-1), [(12804, 1), (19002, (-1))]), ((-1), [(12804, 1), (19001, (-1))])], [(12800, (0, [])), (12805, (1, [(12805, 1)])), (18554, (0, [(19001, 1)])), (18566, (0, [(19002, 1)])), (18578, (0, [(19003, 1)]))], some (false, (1, []))) as σ σ' τ o) : lw_mwm_C a1 a2 x.toInt σ σ' := by
  unfold lw_mwm_C
  have b12804 : 0 ≤ σ 12804 ∧ σ 12804 ≤ 8 := by
    have h0 := hb 12804
    rw [show sx_sr 12804 = (0, 8) from by decide +kernel] at h0
    exact h0
  have b12805 : 0 ≤ σ 12805 ∧ σ 12805 ≤ 12 := by
    have h0 := hb 12805
    rw [show sx_sr 12805 = (0, 12) from by decide +kernel] at h0
    exact h0
  obtain ⟨hs, ht, hf, hr, hm, hw⟩ := hW
  have e1 : τ 19001 = a1 := by rw [ht 19001 (by decide) (by decide)]; exact h1
  have e2 : τ 19002 = a2 := by rw [ht 19002 (by decide) (by decide)]; exact h2
  have s12804 : τ 12804 = σ 12804 := hs 12804 (by decide)
  have s12805 : τ 12805 = σ 12805 := hs 12805 (by decide)
  clear hs ht hb
  rw [hx] at hr
  obtain ⟨y, hy, hv⟩ := hr
  cases hy
  replace hv : x.toInt = 1 + 0 := hv
  have f0 : 0 ≤ (-1) + (1 * τ 12804 + 0) := hf _ (List.Mem.head _)
  have f1 : 0 ≤ (-2) + (1 * τ 12805 + 0) := hf _ (List.Mem.tail _ (List.Mem.head _))
  have f2 : 0 ≤ 2 + ((-1) * τ 12805 + 0) := hf _ (List.Mem.tail _ (List.Mem.tail _ (List.Mem.head _)))
  have f3 : 0 ≤ 0 + (1 * τ 19001 + 0) := hf _ (List.Mem.tail _ (List.Mem.tail _ (List.Mem.tail _ (List.Mem.head _))))
  have f4 : 0 ≤ 6 + ((-1) * τ 19001 + 0) := hf _ (List.Mem.tail _ (List.Mem.tail _ (List.Mem.tail _ (List.Mem.tail _ (List.Mem.head _)))))
  have f5 : 0 ≤ (-1) + (1 * τ 19002 + 0) := hf _ (List.Mem.tail _ (List.Mem.tail _ (List.Mem.tail _ (List.Mem.tail _ (List.Mem.tail _ (List.Mem.head _))))))
  have f6 : 0 ≤ 7 + ((-1) * τ 19002 + 0) := hf _ (List.Mem.tail _ (List.Mem.tail _ (List.Mem.tail _ (List.Mem.tail _ (List.Mem.tail _ (List.Mem.tail _ (List.Mem.head _)))))))
  have f7 : 0 ≤ (-1) + ((-1) * τ 19001 + (1 * τ 19002 + 0)) := hf _ (List.Mem.tail _ (List.Mem.tail _ (List.Mem.tail _ (List.Mem.tail _ (List.Mem.tail _ (List.Mem.tail _ (List.Mem.tail _ (List.Mem.head _))))))))
  have f8 : 0 ≤ (-1) + (1 * τ 12804 + ((-1) * τ 19002 + 0)) := hf _ (List.Mem.tail _ (List.Mem.tail _ (List.Mem.tail _ (List.Mem.tail _ (List.Mem.tail _ (List.Mem.tail _ (List.Mem.tail _ (List.Mem.tail _ (List.Mem.head _)))))))))
  have f9 : 0 ≤ (-1) + (1 * τ 12804 + ((-1) * τ 19001 + 0)) := hf _ (List.Mem.tail _ (List.Mem.tail _ (List.Mem.tail _ (List.Mem.tail _ (List.Mem.tail _ (List.Mem.tail _ (List.Mem.tail _ (List.Mem.tail _ (List.Mem.tail _ (List.Mem.head _))))))))))
  have m12805 : σ' 12805 = 1 + (1 * τ 12805 + 0) := hm 12805 (by decide)
  clear hf hm
  exact Or.inl ⟨by omega, ⟨by omega, by omega, by omega, by omega, by omega, by omega⟩, by omega⟩
theorem lw_mwm_16 {as : List rv_A} {σ σ' : Nat → Int} {o : rv_O} {x : Int32} {a1 a2 : Int} {τ : Nat → Int} (hx : o.1 = some (.inl x)) (h1 : lw_av as 1 = a1) (h2 : lw_av as 2 = a2) (hb : ∀ s, (sx_sr s).1 ≤ σ s ∧ σ s ≤ (sx_sr s).2) (hW : lw_W ([], [((-1), [(12804, 1)]), ((-2), [(12805, 1)]), (2, [(12805, (-1))]), ((-1), [(19001, 1)]), (7, [(19001, (-1))]), (0, [(19002, 1)]), (6, [(19002, (-1))]), ((-1), [(19001, 1), (19002, (-1))]), ((-1), [(12804, 1), (19002, (-1))]), ((-1), [(12804, 1), (19001, (-1))])], [(12800, (0, [])), (12805, (1, [(12805, 1)])), (18554, (0, [(19001, 1)])), (18566, (0, [(19002, 1)])), (18578, (0, [(19003, 1)]))], some (false, (1, []))) as σ σ' τ o) : lw_mwm_C a1 a2 x.toInt σ σ' := by
  unfold lw_mwm_C
  have b12804 : 0 ≤ σ 12804 ∧ σ 12804 ≤ 8 := by
    have h0 := hb 12804
    rw [show sx_sr 12804 = (0, 8) from by decide +kernel] at h0
    exact h0
  have b12805 : 0 ≤ σ 12805 ∧ σ 12805 ≤ 12 := by
    have h0 := hb 12805
    rw [show sx_sr 12805 = (0, 12) from by decide +kernel] at h0
    exact h0
  obtain ⟨hs, ht, hf, hr, hm, hw⟩ := hW
  have e1 : τ 19001 = a1 := by rw [ht 19001 (by decide) (by decide)]; exact h1
  have e2 : τ 19002 = a2 := by rw [ht 19002 (by decide) (by decide)]; exact h2
  have s12804 : τ 12804 = σ 12804 := hs 12804 (by decide)
  have s12805 : τ 12805 = σ 12805 := hs 12805 (by decide)
  clear hs ht hb
  rw [hx] at hr
  obtain ⟨y, hy, hv⟩ := hr
  cases hy
  replace hv : x.toInt = 1 + 0 := hv
  have f0 : 0 ≤ (-1) + (1 * τ 12804 + 0) := hf _ (List.Mem.head _)
  have f1 : 0 ≤ (-2) + (1 * τ 12805 + 0) := hf _ (List.Mem.tail _ (List.Mem.head _))
  have f2 : 0 ≤ 2 + ((-1) * τ 12805 + 0) := hf _ (List.Mem.tail _ (List.Mem.tail _ (List.Mem.head _)))
  have f3 : 0 ≤ (-1) + (1 * τ 19001 + 0) := hf _ (List.Mem.tail _ (List.Mem.tail _ (List.Mem.tail _ (List.Mem.head _))))
  have f4 : 0 ≤ 7 + ((-1) * τ 19001 + 0) := hf _ (List.Mem.tail _ (List.Mem.tail _ (List.Mem.tail _ (List.Mem.tail _ (List.Mem.head _)))))
  have f5 : 0 ≤ 0 + (1 * τ 19002 + 0) := hf _ (List.Mem.tail _ (List.Mem.tail _ (List.Mem.tail _ (List.Mem.tail _ (List.Mem.tail _ (List.Mem.head _))))))
  have f6 : 0 ≤ 6 + ((-1) * τ 19002 + 0) := hf _ (List.Mem.tail _ (List.Mem.tail _ (List.Mem.tail _ (List.Mem.tail _ (List.Mem.tail _ (List.Mem.tail _ (List.Mem.head _)))))))
  have f7 : 0 ≤ (-1) + (1 * τ 19001 + ((-1) * τ 19002 + 0)) := hf _ (List.Mem.tail _ (List.Mem.tail _ (List.Mem.tail _ (List.Mem.tail _ (List.Mem.tail _ (List.Mem.tail _ (List.Mem.tail _ (List.Mem.head _))))))))
  have f8 : 0 ≤ (-1) + (1 * τ 12804 + ((-1) * τ 19002 + 0)) := hf _ (List.Mem.tail _ (List.Mem.tail _ (List.Mem.tail _ (List.Mem.tail _ (List.Mem.tail _ (List.Mem.tail _ (List.Mem.tail _ (List.Mem.tail _ (List.Mem.head _)))))))))
  have f9 : 0 ≤ (-1) + (1 * τ 12804 + ((-1) * τ 19001 + 0)) := hf _ (List.Mem.tail _ (List.Mem.tail _ (List.Mem.tail _ (List.Mem.tail _ (List.Mem.tail _ (List.Mem.tail _ (List.Mem.tail _ (List.Mem.tail _ (List.Mem.tail _ (List.Mem.head _))))))))))
  have m12805 : σ' 12805 = 1 + (1 * τ 12805 + 0) := hm 12805 (by decide)
  clear hf hm
  exact Or.inl ⟨by omega, ⟨by omega, by omega, by omega, by omega, by omega, by omega⟩, by omega⟩
theorem lw_mwm_17 {as : List rv_A} {σ σ' : Nat → Int} {o : rv_O} {x : Int32} {a1 a2 : Int} {τ : Nat → Int} (hx : o.1 = some (.inl x)) (h1 : lw_av as 1 = a1) (h2 : lw_av as 2 = a2) (hb : ∀ s, (sx_sr s).1 ≤ σ s ∧ σ s ≤ (sx_sr s).2) (hW : lw_W ([], [((-1), [(12804, 1)]), ((-3), [(12805, 1)]), (3, [(12805, (-1))]), (0, [(19001, 1)]), (6, [(19001, (-1))]), ((-1), [(19002, 1)]), (7, [(19002, (-1))]), ((-1), [(19001, (-1)), (19002, 1)]), ((-1), [(12804, 1), (19002, (-1))]), ((-1), [(12804, 1), (19001, (-1))])], [(12800, (0, [])), (12805, (1, [(12805, 1)])), (18555, (0, [(19001, 1)])), (18567, (0, [(19002, 1)])), (18579, (0, [(19003, 1)]))], some (false, (1, []))) as σ σ' τ o) : lw_mwm_C a1 a2 x.toInt σ σ' := by
  unfold lw_mwm_C
  have b12804 : 0 ≤ σ 12804 ∧ σ 12804 ≤ 8 := by
    have h0 := hb 12804
    rw [show sx_sr 12804 = (0, 8) from by decide +kernel] at h0
    exact h0
  have b12805 : 0 ≤ σ 12805 ∧ σ 12805 ≤ 12 := by
    have h0 := hb 12805
    rw [show sx_sr 12805 = (0, 12) from by decide +kernel] at h0
    exact h0
  obtain ⟨hs, ht, hf, hr, hm, hw⟩ := hW
  have e1 : τ 19001 = a1 := by rw [ht 19001 (by decide) (by decide)]; exact h1
  have e2 : τ 19002 = a2 := by rw [ht 19002 (by decide) (by decide)]; exact h2
  have s12804 : τ 12804 = σ 12804 := hs 12804 (by decide)
  have s12805 : τ 12805 = σ 12805 := hs 12805 (by decide)
  clear hs ht hb
  rw [hx] at hr
  obtain ⟨y, hy, hv⟩ := hr
  cases hy
  replace hv : x.toInt = 1 + 0 := hv
  have f0 : 0 ≤ (-1) + (1 * τ 12804 + 0) := hf _ (List.Mem.head _)
  have f1 : 0 ≤ (-3) + (1 * τ 12805 + 0) := hf _ (List.Mem.tail _ (List.Mem.head _))
  have f2 : 0 ≤ 3 + ((-1) * τ 12805 + 0) := hf _ (List.Mem.tail _ (List.Mem.tail _ (List.Mem.head _)))
  have f3 : 0 ≤ 0 + (1 * τ 19001 + 0) := hf _ (List.Mem.tail _ (List.Mem.tail _ (List.Mem.tail _ (List.Mem.head _))))
  have f4 : 0 ≤ 6 + ((-1) * τ 19001 + 0) := hf _ (List.Mem.tail _ (List.Mem.tail _ (List.Mem.tail _ (List.Mem.tail _ (List.Mem.head _)))))
  have f5 : 0 ≤ (-1) + (1 * τ 19002 + 0) := hf _ (List.Mem.tail _ (List.Mem.tail _ (List.Mem.tail _ (List.Mem.tail _ (List.Mem.tail _ (List.Mem.head _))))))
  have f6 : 0 ≤ 7 + ((-1) * τ 19002 + 0) := hf _ (List.Mem.tail _ (List.Mem.tail _ (List.Mem.tail _ (List.Mem.tail _ (List.Mem.tail _ (List.Mem.tail _ (List.Mem.head _)))))))
  have f7 : 0 ≤ (-1) + ((-1) * τ 19001 + (1 * τ 19002 + 0)) := hf _ (List.Mem.tail _ (List.Mem.tail _ (List.Mem.tail _ (List.Mem.tail _ (List.Mem.tail _ (List.Mem.tail _ (List.Mem.tail _ (List.Mem.head _))))))))
  have f8 : 0 ≤ (-1) + (1 * τ 12804 + ((-1) * τ 19002 + 0)) := hf _ (List.Mem.tail _ (List.Mem.tail _ (List.Mem.tail _ (List.Mem.tail _ (List.Mem.tail _ (List.Mem.tail _ (List.Mem.tail _ (List.Mem.tail _ (List.Mem.head _)))))))))
  have f9 : 0 ≤ (-1) + (1 * τ 12804 + ((-1) * τ 19001 + 0)) := hf _ (List.Mem.tail _ (List.Mem.tail _ (List.Mem.tail _ (List.Mem.tail _ (List.Mem.tail _ (List.Mem.tail _ (List.Mem.tail _ (List.Mem.tail _ (List.Mem.tail _ (List.Mem.head _))))))))))
  have m12805 : σ' 12805 = 1 + (1 * τ 12805 + 0) := hm 12805 (by decide)
  clear hf hm
  exact Or.inl ⟨by omega, ⟨by omega, by omega, by omega, by omega, by omega, by omega⟩, by omega⟩
theorem lw_mwm_18 {as : List rv_A} {σ σ' : Nat → Int} {o : rv_O} {x : Int32} {a1 a2 : Int} {τ : Nat → Int} (hx : o.1 = some (.inl x)) (h1 : lw_av as 1 = a1) (h2 : lw_av as 2 = a2) (hb : ∀ s, (sx_sr s).1 ≤ σ s ∧ σ s ≤ (sx_sr s).2) (hW : lw_W ([], [((-1), [(12804, 1)]), ((-3), [(12805, 1)]), (3, [(12805, (-1))]), ((-1), [(19001, 1)]), (7, [(19001, (-1))]), (0, [(19002, 1)]), (6, [(19002, (-1))]), ((-1), [(19001, 1), (19002, (-1))]), ((-1), [(12804, 1), (19002, (-1))]), ((-1), [(12804, 1), (19001, (-1))])], [(12800, (0, [])), (12805, (1, [(12805, 1)])), (18555, (0, [(19001, 1)])), (18567, (0, [(19002, 1)])), (18579, (0, [(19003, 1)]))], some (false, (1, []))) as σ σ' τ o) : lw_mwm_C a1 a2 x.toInt σ σ' := by
  unfold lw_mwm_C
  have b12804 : 0 ≤ σ 12804 ∧ σ 12804 ≤ 8 := by
    have h0 := hb 12804
    rw [show sx_sr 12804 = (0, 8) from by decide +kernel] at h0
    exact h0
  have b12805 : 0 ≤ σ 12805 ∧ σ 12805 ≤ 12 := by
    have h0 := hb 12805
    rw [show sx_sr 12805 = (0, 12) from by decide +kernel] at h0
    exact h0
  obtain ⟨hs, ht, hf, hr, hm, hw⟩ := hW
  have e1 : τ 19001 = a1 := by rw [ht 19001 (by decide) (by decide)]; exact h1
  have e2 : τ 19002 = a2 := by rw [ht 19002 (by decide) (by decide)]; exact h2
  have s12804 : τ 12804 = σ 12804 := hs 12804 (by decide)
  have s12805 : τ 12805 = σ 12805 := hs 12805 (by decide)
  clear hs ht hb
  rw [hx] at hr
  obtain ⟨y, hy, hv⟩ := hr
  cases hy
  replace hv : x.toInt = 1 + 0 := hv
  have f0 : 0 ≤ (-1) + (1 * τ 12804 + 0) := hf _ (List.Mem.head _)
  have f1 : 0 ≤ (-3) + (1 * τ 12805 + 0) := hf _ (List.Mem.tail _ (List.Mem.head _))
  have f2 : 0 ≤ 3 + ((-1) * τ 12805 + 0) := hf _ (List.Mem.tail _ (List.Mem.tail _ (List.Mem.head _)))
  have f3 : 0 ≤ (-1) + (1 * τ 19001 + 0) := hf _ (List.Mem.tail _ (List.Mem.tail _ (List.Mem.tail _ (List.Mem.head _))))
  have f4 : 0 ≤ 7 + ((-1) * τ 19001 + 0) := hf _ (List.Mem.tail _ (List.Mem.tail _ (List.Mem.tail _ (List.Mem.tail _ (List.Mem.head _)))))
  have f5 : 0 ≤ 0 + (1 * τ 19002 + 0) := hf _ (List.Mem.tail _ (List.Mem.tail _ (List.Mem.tail _ (List.Mem.tail _ (List.Mem.tail _ (List.Mem.head _))))))
  have f6 : 0 ≤ 6 + ((-1) * τ 19002 + 0) := hf _ (List.Mem.tail _ (List.Mem.tail _ (List.Mem.tail _ (List.Mem.tail _ (List.Mem.tail _ (List.Mem.tail _ (List.Mem.head _)))))))
  have f7 : 0 ≤ (-1) + (1 * τ 19001 + ((-1) * τ 19002 + 0)) := hf _ (List.Mem.tail _ (List.Mem.tail _ (List.Mem.tail _ (List.Mem.tail _ (List.Mem.tail _ (List.Mem.tail _ (List.Mem.tail _ (List.Mem.head _))))))))
  have f8 : 0 ≤ (-1) + (1 * τ 12804 + ((-1) * τ 19002 + 0)) := hf _ (List.Mem.tail _ (List.Mem.tail _ (List.Mem.tail _ (List.Mem.tail _ (List.Mem.tail _ (List.Mem.tail _ (List.Mem.tail _ (List.Mem.tail _ (List.Mem.head _)))))))))
  have f9 : 0 ≤ (-1) + (1 * τ 12804 + ((-1) * τ 19001 + 0)) := hf _ (List.Mem.tail _ (List.Mem.tail _ (List.Mem.tail _ (List.Mem.tail _ (List.Mem.tail _ (List.Mem.tail _ (List.Mem.tail _ (List.Mem.tail _ (List.Mem.tail _ (List.Mem.head _))))))))))
  have m12805 : σ' 12805 = 1 + (1 * τ 12805 + 0) := hm 12805 (by decide)
  clear hf hm
  exact Or.inl ⟨by omega, ⟨by omega, by omega, by omega, by omega, by omega, by omega⟩, by omega⟩
theorem lw_mwm_19 {as : List rv_A} {σ σ' : Nat → Int} {o : rv_O} {x : Int32} {a1 a2 : Int} {τ : Nat → Int} (hx : o.1 = some (.inl x)) (h1 : lw_av as 1 = a1) (h2 : lw_av as 2 = a2) (hb : ∀ s, (sx_sr s).1 ≤ σ s ∧ σ s ≤ (sx_sr s).2) (hW : lw_W ([], [((-1), [(12804, 1)]), ((-4), [(12805, 1)]), (4, [(12805, (-1))]), (0, [(19001, 1)]), (6, [(19001, (-1))]), ((-1), [(19002, 1)]), (7, [(19002, (-1))]), ((-1), [(19001, (-1)), (19002, 1)]), ((-1), [(12804, 1), (19002, (-1))]), ((-1), [(12804, 1), (19001, (-1))])], [(12800, (0, [])), (12805, (1, [(12805, 1)])), (18556, (0, [(19001, 1)])), (18568, (0, [(19002, 1)])), (18580, (0, [(19003, 1)]))], some (false, (1, []))) as σ σ' τ o) : lw_mwm_C a1 a2 x.toInt σ σ' := by
  unfold lw_mwm_C
  have b12804 : 0 ≤ σ 12804 ∧ σ 12804 ≤ 8 := by
    have h0 := hb 12804
    rw [show sx_sr 12804 = (0, 8) from by decide +kernel] at h0
    exact h0
  have b12805 : 0 ≤ σ 12805 ∧ σ 12805 ≤ 12 := by
    have h0 := hb 12805
    rw [show sx_sr 12805 = (0, 12) from by decide +kernel] at h0
    exact h0
  obtain ⟨hs, ht, hf, hr, hm, hw⟩ := hW
  have e1 : τ 19001 = a1 := by rw [ht 19001 (by decide) (by decide)]; exact h1
  have e2 : τ 19002 = a2 := by rw [ht 19002 (by decide) (by decide)]; exact h2
  have s12804 : τ 12804 = σ 12804 := hs 12804 (by decide)
  have s12805 : τ 12805 = σ 12805 := hs 12805 (by decide)
  clear hs ht hb
  rw [hx] at hr
  obtain ⟨y, hy, hv⟩ := hr
  cases hy
  replace hv : x.toInt = 1 + 0 := hv
  have f0 : 0 ≤ (-1) + (1 * τ 12804 + 0) := hf _ (List.Mem.head _)
  have f1 : 0 ≤ (-4) + (1 * τ 12805 + 0) := hf _ (List.Mem.tail _ (List.Mem.head _))
  have f2 : 0 ≤ 4 + ((-1) * τ 12805 + 0) := hf _ (List.Mem.tail _ (List.Mem.tail _ (List.Mem.head _)))
  have f3 : 0 ≤ 0 + (1 * τ 19001 + 0) := hf _ (List.Mem.tail _ (List.Mem.tail _ (List.Mem.tail _ (List.Mem.head _))))
  have f4 : 0 ≤ 6 + ((-1) * τ 19001 + 0) := hf _ (List.Mem.tail _ (List.Mem.tail _ (List.Mem.tail _ (List.Mem.tail _ (List.Mem.head _)))))
  have f5 : 0 ≤ (-1) + (1 * τ 19002 + 0) := hf _ (List.Mem.tail _ (List.Mem.tail _ (List.Mem.tail _ (List.Mem.tail _ (List.Mem.tail _ (List.Mem.head _))))))
  have f6 : 0 ≤ 7 + ((-1) * τ 19002 + 0) := hf _ (List.Mem.tail _ (List.Mem.tail _ (List.Mem.tail _ (List.Mem.tail _ (List.Mem.tail _ (List.Mem.tail _ (List.Mem.head _)))))))
  have f7 : 0 ≤ (-1) + ((-1) * τ 19001 + (1 * τ 19002 + 0)) := hf _ (List.Mem.tail _ (List.Mem.tail _ (List.Mem.tail _ (List.Mem.tail _ (List.Mem.tail _ (List.Mem.tail _ (List.Mem.tail _ (List.Mem.head _))))))))
  have f8 : 0 ≤ (-1) + (1 * τ 12804 + ((-1) * τ 19002 + 0)) := hf _ (List.Mem.tail _ (List.Mem.tail _ (List.Mem.tail _ (List.Mem.tail _ (List.Mem.tail _ (List.Mem.tail _ (List.Mem.tail _ (List.Mem.tail _ (List.Mem.head _)))))))))
  have f9 : 0 ≤ (-1) + (1 * τ 12804 + ((-1) * τ 19001 + 0)) := hf _ (List.Mem.tail _ (List.Mem.tail _ (List.Mem.tail _ (List.Mem.tail _ (List.Mem.tail _ (List.Mem.tail _ (List.Mem.tail _ (List.Mem.tail _ (List.Mem.tail _ (List.Mem.head _))))))))))
  have m12805 : σ' 12805 = 1 + (1 * τ 12805 + 0) := hm 12805 (by decide)
  clear hf hm
  exact Or.inl ⟨by omega, ⟨by omega, by omega, by omega, by omega, by omega, by omega⟩, by omega⟩
theorem lw_mwm_20 {as : List rv_A} {σ σ' : Nat → Int} {o : rv_O} {x : Int32} {a1 a2 : Int} {τ : Nat → Int} (hx : o.1 = some (.inl x)) (h1 : lw_av as 1 = a1) (h2 : lw_av as 2 = a2) (hb : ∀ s, (sx_sr s).1 ≤ σ s ∧ σ s ≤ (sx_sr s).2) (hW : lw_W ([], [((-1), [(12804, 1)]), ((-4), [(12805, 1)]), (4, [(12805, (-1))]), ((-1), [(19001, 1)]), (7, [(19001, (-1))]), (0, [(19002, 1)]), (6, [(19002, (-1))]), ((-1), [(19001, 1), (19002, (-1))]), ((-1), [(12804, 1), (19002, (-1))]), ((-1), [(12804, 1), (19001, (-1))])], [(12800, (0, [])), (12805, (1, [(12805, 1)])), (18556, (0, [(19001, 1)])), (18568, (0, [(19002, 1)])), (18580, (0, [(19003, 1)]))], some (false, (1, []))) as σ σ' τ o) : lw_mwm_C a1 a2 x.toInt σ σ' := by
  unfold lw_mwm_C
  have b12804 : 0 ≤ σ 12804 ∧ σ 12804 ≤ 8 := by
    have h0 := hb 12804
    rw [show sx_sr 12804 = (0, 8) from by decide +kernel] at h0
    exact h0
  have b12805 : 0 ≤ σ 12805 ∧ σ 12805 ≤ 12 := by
    have h0 := hb 12805
    rw [show sx_sr 12805 = (0, 12) from by decide +kernel] at h0
    exact h0
  obtain ⟨hs, ht, hf, hr, hm, hw⟩ := hW
  have e1 : τ 19001 = a1 := by rw [ht 19001 (by decide) (by decide)]; exact h1
  have e2 : τ 19002 = a2 := by rw [ht 19002 (by decide) (by decide)]; exact h2
  have s12804 : τ 12804 = σ 12804 := hs 12804 (by decide)
  have s12805 : τ 12805 = σ 12805 := hs 12805 (by decide)
  clear hs ht hb
  rw [hx] at hr
  obtain ⟨y, hy, hv⟩ := hr
  cases hy
  replace hv : x.toInt = 1 + 0 := hv
  have f0 : 0 ≤ (-1) + (1 * τ 12804 + 0) := hf _ (List.Mem.head _)
  have f1 : 0 ≤ (-4) + (1 * τ 12805 + 0) := hf _ (List.Mem.tail _ (List.Mem.head _))
  have f2 : 0 ≤ 4 + ((-1) * τ 12805 + 0) := hf _ (List.Mem.tail _ (List.Mem.tail _ (List.Mem.head _)))
  have f3 : 0 ≤ (-1) + (1 * τ 19001 + 0) := hf _ (List.Mem.tail _ (List.Mem.tail _ (List.Mem.tail _ (List.Mem.head _))))
  have f4 : 0 ≤ 7 + ((-1) * τ 19001 + 0) := hf _ (List.Mem.tail _ (List.Mem.tail _ (List.Mem.tail _ (List.Mem.tail _ (List.Mem.head _)))))
  have f5 : 0 ≤ 0 + (1 * τ 19002 + 0) := hf _ (List.Mem.tail _ (List.Mem.tail _ (List.Mem.tail _ (List.Mem.tail _ (List.Mem.tail _ (List.Mem.head _))))))
  have f6 : 0 ≤ 6 + ((-1) * τ 19002 + 0) := hf _ (List.Mem.tail _ (List.Mem.tail _ (List.Mem.tail _ (List.Mem.tail _ (List.Mem.tail _ (List.Mem.tail _ (List.Mem.head _)))))))
  have f7 : 0 ≤ (-1) + (1 * τ 19001 + ((-1) * τ 19002 + 0)) := hf _ (List.Mem.tail _ (List.Mem.tail _ (List.Mem.tail _ (List.Mem.tail _ (List.Mem.tail _ (List.Mem.tail _ (List.Mem.tail _ (List.Mem.head _))))))))
  have f8 : 0 ≤ (-1) + (1 * τ 12804 + ((-1) * τ 19002 + 0)) := hf _ (List.Mem.tail _ (List.Mem.tail _ (List.Mem.tail _ (List.Mem.tail _ (List.Mem.tail _ (List.Mem.tail _ (List.Mem.tail _ (List.Mem.tail _ (List.Mem.head _)))))))))
  have f9 : 0 ≤ (-1) + (1 * τ 12804 + ((-1) * τ 19001 + 0)) := hf _ (List.Mem.tail _ (List.Mem.tail _ (List.Mem.tail _ (List.Mem.tail _ (List.Mem.tail _ (List.Mem.tail _ (List.Mem.tail _ (List.Mem.tail _ (List.Mem.tail _ (List.Mem.head _))))))))))
  have m12805 : σ' 12805 = 1 + (1 * τ 12805 + 0) := hm 12805 (by decide)
  clear hf hm
  exact Or.inl ⟨by omega, ⟨by omega, by omega, by omega, by omega, by omega, by omega⟩, by omega⟩
theorem lw_mwm_21 {as : List rv_A} {σ σ' : Nat → Int} {o : rv_O} {x : Int32} {a1 a2 : Int} {τ : Nat → Int} (hx : o.1 = some (.inl x)) (h1 : lw_av as 1 = a1) (h2 : lw_av as 2 = a2) (hb : ∀ s, (sx_sr s).1 ≤ σ s ∧ σ s ≤ (sx_sr s).2) (hW : lw_W ([], [((-1), [(12804, 1)]), ((-5), [(12805, 1)]), (5, [(12805, (-1))]), (0, [(19001, 1)]), (6, [(19001, (-1))]), ((-1), [(19002, 1)]), (7, [(19002, (-1))]), ((-1), [(19001, (-1)), (19002, 1)]), ((-1), [(12804, 1), (19002, (-1))]), ((-1), [(12804, 1), (19001, (-1))])], [(12800, (0, [])), (12805, (1, [(12805, 1)])), (18557, (0, [(19001, 1)])), (18569, (0, [(19002, 1)])), (18581, (0, [(19003, 1)]))], some (false, (1, []))) as σ σ' τ o) : lw_mwm_C a1 a2 x.toInt σ σ' := by
  unfold lw_mwm_C
  have b12804 : 0 ≤ σ 12804 ∧ σ 12804 ≤ 8 := by
    have h0 := hb 12804
    rw [show sx_sr 12804 = (0, 8) from by decide +kernel] at h0
    exact h0
  have b12805 : 0 ≤ σ 12805 ∧ σ 12805 ≤ 12 := by
    have h0 := hb 12805
    rw [show sx_sr 12805 = (0, 12) from by decide +kernel] at h0
    exact h0
  obtain ⟨hs, ht, hf, hr, hm, hw⟩ := hW
  have e1 : τ 19001 = a1 := by rw [ht 19001 (by decide) (by decide)]; exact h1
  have e2 : τ 19002 = a2 := by rw [ht 19002 (by decide) (by decide)]; exact h2
  have s12804 : τ 12804 = σ 12804 := hs 12804 (by decide)
  have s12805 : τ 12805 = σ 12805 := hs 12805 (by decide)
  clear hs ht hb
  rw [hx] at hr
  obtain ⟨y, hy, hv⟩ := hr
  cases hy
  replace hv : x.toInt = 1 + 0 := hv
  have f0 : 0 ≤ (-1) + (1 * τ 12804 + 0) := hf _ (List.Mem.head _)
  have f1 : 0 ≤ (-5) + (1 * τ 12805 + 0) := hf _ (List.Mem.tail _ (List.Mem.head _))
  have f2 : 0 ≤ 5 + ((-1) * τ 12805 + 0) := hf _ (List.Mem.tail _ (List.Mem.tail _ (List.Mem.head _)))
  have f3 : 0 ≤ 0 + (1 * τ 19001 + 0) := hf _ (List.Mem.tail _ (List.Mem.tail _ (List.Mem.tail _ (List.Mem.head _))))
  have f4 : 0 ≤ 6 + ((-1) * τ 19001 + 0) := hf _ (List.Mem.tail _ (List.Mem.tail _ (List.Mem.tail _ (List.Mem.tail _ (List.Mem.head _)))))
  have f5 : 0 ≤ (-1) + (1 * τ 19002 + 0) := hf _ (List.Mem.tail _ (List.Mem.tail _ (List.Mem.tail _ (List.Mem.tail _ (List.Mem.tail _ (List.Mem.head _))))))
  have f6 : 0 ≤ 7 + ((-1) * τ 19002 + 0) := hf _ (List.Mem.tail _ (List.Mem.tail _ (List.Mem.tail _ (List.Mem.tail _ (List.Mem.tail _ (List.Mem.tail _ (List.Mem.head _)))))))
  have f7 : 0 ≤ (-1) + ((-1) * τ 19001 + (1 * τ 19002 + 0)) := hf _ (List.Mem.tail _ (List.Mem.tail _ (List.Mem.tail _ (List.Mem.tail _ (List.Mem.tail _ (List.Mem.tail _ (List.Mem.tail _ (List.Mem.head _))))))))
  have f8 : 0 ≤ (-1) + (1 * τ 12804 + ((-1) * τ 19002 + 0)) := hf _ (List.Mem.tail _ (List.Mem.tail _ (List.Mem.tail _ (List.Mem.tail _ (List.Mem.tail _ (List.Mem.tail _ (List.Mem.tail _ (List.Mem.tail _ (List.Mem.head _)))))))))
  have f9 : 0 ≤ (-1) + (1 * τ 12804 + ((-1) * τ 19001 + 0)) := hf _ (List.Mem.tail _ (List.Mem.tail _ (List.Mem.tail _ (List.Mem.tail _ (List.Mem.tail _ (List.Mem.tail _ (List.Mem.tail _ (List.Mem.tail _ (List.Mem.tail _ (List.Mem.head _))))))))))
  have m12805 : σ' 12805 = 1 + (1 * τ 12805 + 0) := hm 12805 (by decide)
  clear hf hm
  exact Or.inl ⟨by omega, ⟨by omega, by omega, by omega, by omega, by omega, by omega⟩, by omega⟩
