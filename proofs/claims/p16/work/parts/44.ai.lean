theorem lw_mwx_121 {as : List rv_A} {σ σ' : Nat → Int} {o : rv_O} {x : Int32} {a1 a2 : Int} {τ : Nat → Int} (hx : o.1 = some (.inl x)) (h1 : lw_av as 1 = a1) (h2 : lw_av as 2 = a2) (hb : ∀ s, (sx_sr s).1 ≤ σ s ∧ σ s ≤ (sx_sr s).2) (hW : lw_W ([(18548, 16, 255), (18590, 16, 255), (18591, 16, 255), (18593, 16, 255)], [(0, [(18548, (-1)), (1000000, 1)]), ((-1), [(133, 1)]), (11, [(134, (-1))]), ((-4), [(19001, 1)]), (4, [(19001, (-1))]), ((-4), [(19002, 1)]), (4, [(19002, (-1))]), ((-1), [(19003, 1)]), (0, [(1000000, 1), (1000001, (-1))]), (0, [(1000000, 1), (1000003, (-1))]), (0, [(1000000, (-1)), (1000003, 1)]), ((-1), [(19001, (-1)), (19002, 1)]), ((-1), [(133, 1), (19002, (-1))]), ((-1), [(133, 1), (19001, (-1))])], [(9, (0, [])), (134, (1, [(134, 1)])), (7048, ((-2), [])), (7049, ((-2), [])), (8069, (0, [])), (11396, ((-2), [])), (18548, (0, [(1000000, 1)])), (18588, (0, [(18548, 1)])), (18589, (16, [])), (18590, (0, [(1000001, 1)])), (18591, (0, [(1000002, 1)])), (18592, (16, [])), (18593, (0, [(1000003, 1)])), (18594, (2, []))], some (false, (1, []))) as σ σ' τ o) : lw_mwx_C a1 a2 x.toInt σ σ' := by
  unfold lw_mwx_C
  have b133 : 0 ≤ σ 133 ∧ σ 133 ≤ 8 := by
    have h0 := hb 133
    rw [show sx_sr 133 = (0, 8) from by decide +kernel] at h0
    exact h0
  have b134 : 0 ≤ σ 134 ∧ σ 134 ≤ 12 := by
    have h0 := hb 134
    rw [show sx_sr 134 = (0, 12) from by decide +kernel] at h0
    exact h0
  obtain ⟨hs, ht, hf, hr, hm, hw⟩ := hW
  have e1 : τ 19001 = a1 := by rw [ht 19001 (by decide) (by decide)]; exact h1
  have e2 : τ 19002 = a2 := by rw [ht 19002 (by decide) (by decide)]; exact h2
  have s133 : τ 133 = σ 133 := hs 133 (by decide)
  have s134 : τ 134 = σ 134 := hs 134 (by decide)
  clear hs ht hb
  rw [hx] at hr
  obtain ⟨y, hy, hv⟩ := hr
  cases hy
  replace hv : x.toInt = 1 + 0 := hv
  have f0 : 0 ≤ 0 + ((-1) * τ 18548 + (1 * τ 1000000 + 0)) := hf _ (List.Mem.head _)
  have f1 : 0 ≤ (-1) + (1 * τ 133 + 0) := hf _ (List.Mem.tail _ (List.Mem.head _))
  have f2 : 0 ≤ 11 + ((-1) * τ 134 + 0) := hf _ (List.Mem.tail _ (List.Mem.tail _ (List.Mem.head _)))
  have f3 : 0 ≤ (-4) + (1 * τ 19001 + 0) := hf _ (List.Mem.tail _ (List.Mem.tail _ (List.Mem.tail _ (List.Mem.head _))))
  have f4 : 0 ≤ 4 + ((-1) * τ 19001 + 0) := hf _ (List.Mem.tail _ (List.Mem.tail _ (List.Mem.tail _ (List.Mem.tail _ (List.Mem.head _)))))
  have f5 : 0 ≤ (-4) + (1 * τ 19002 + 0) := hf _ (List.Mem.tail _ (List.Mem.tail _ (List.Mem.tail _ (List.Mem.tail _ (List.Mem.tail _ (List.Mem.head _))))))
  have f6 : 0 ≤ 4 + ((-1) * τ 19002 + 0) := hf _ (List.Mem.tail _ (List.Mem.tail _ (List.Mem.tail _ (List.Mem.tail _ (List.Mem.tail _ (List.Mem.tail _ (List.Mem.head _)))))))
  have f7 : 0 ≤ (-1) + (1 * τ 19003 + 0) := hf _ (List.Mem.tail _ (List.Mem.tail _ (List.Mem.tail _ (List.Mem.tail _ (List.Mem.tail _ (List.Mem.tail _ (List.Mem.tail _ (List.Mem.head _))))))))
  have f8 : 0 ≤ 0 + (1 * τ 1000000 + ((-1) * τ 1000001 + 0)) := hf _ (List.Mem.tail _ (List.Mem.tail _ (List.Mem.tail _ (List.Mem.tail _ (List.Mem.tail _ (List.Mem.tail _ (List.Mem.tail _ (List.Mem.tail _ (List.Mem.head _)))))))))
  have f9 : 0 ≤ 0 + (1 * τ 1000000 + ((-1) * τ 1000003 + 0)) := hf _ (List.Mem.tail _ (List.Mem.tail _ (List.Mem.tail _ (List.Mem.tail _ (List.Mem.tail _ (List.Mem.tail _ (List.Mem.tail _ (List.Mem.tail _ (List.Mem.tail _ (List.Mem.head _))))))))))
  have f10 : 0 ≤ 0 + ((-1) * τ 1000000 + (1 * τ 1000003 + 0)) := hf _ (List.Mem.tail _ (List.Mem.tail _ (List.Mem.tail _ (List.Mem.tail _ (List.Mem.tail _ (List.Mem.tail _ (List.Mem.tail _ (List.Mem.tail _ (List.Mem.tail _ (List.Mem.tail _ (List.Mem.head _)))))))))))
  have f11 : 0 ≤ (-1) + ((-1) * τ 19001 + (1 * τ 19002 + 0)) := hf _ (List.Mem.tail _ (List.Mem.tail _ (List.Mem.tail _ (List.Mem.tail _ (List.Mem.tail _ (List.Mem.tail _ (List.Mem.tail _ (List.Mem.tail _ (List.Mem.tail _ (List.Mem.tail _ (List.Mem.tail _ (List.Mem.head _))))))))))))
  have f12 : 0 ≤ (-1) + (1 * τ 133 + ((-1) * τ 19002 + 0)) := hf _ (List.Mem.tail _ (List.Mem.tail _ (List.Mem.tail _ (List.Mem.tail _ (List.Mem.tail _ (List.Mem.tail _ (List.Mem.tail _ (List.Mem.tail _ (List.Mem.tail _ (List.Mem.tail _ (List.Mem.tail _ (List.Mem.tail _ (List.Mem.head _)))))))))))))
  have f13 : 0 ≤ (-1) + (1 * τ 133 + ((-1) * τ 19001 + 0)) := hf _ (List.Mem.tail _ (List.Mem.tail _ (List.Mem.tail _ (List.Mem.tail _ (List.Mem.tail _ (List.Mem.tail _ (List.Mem.tail _ (List.Mem.tail _ (List.Mem.tail _ (List.Mem.tail _ (List.Mem.tail _ (List.Mem.tail _ (List.Mem.tail _ (List.Mem.head _))))))))))))))
  have m134 : σ' 134 = 1 + (1 * τ 134 + 0) := hm 134 (by decide)
  clear hf hm
  exact Or.inl ⟨by omega, ⟨by omega, by omega, by omega, by omega, by omega, by omega⟩, by omega⟩
theorem lw_mwx_122 {as : List rv_A} {σ σ' : Nat → Int} {o : rv_O} {x : Int32} {a1 a2 : Int} {τ : Nat → Int} (hx : o.1 = some (.inl x)) (h1 : lw_av as 1 = a1) (h2 : lw_av as 2 = a2) (hb : ∀ s, (sx_sr s).1 ≤ σ s ∧ σ s ≤ (sx_sr s).2) (hW : lw_W ([(18548, 16, 255), (18590, 16, 255), (18591, 16, 255), (18593, 16, 255)], [(0, [(18548, (-1)), (1000000, 1)]), ((-1), [(133, 1)]), (11, [(134, (-1))]), ((-4), [(19001, 1)]), (4, [(19001, (-1))]), ((-4), [(19002, 1)]), (4, [(19002, (-1))]), ((-1), [(19003, 1)]), (0, [(1000000, 1), (1000001, (-1))]), (0, [(1000000, 1), (1000003, (-1))]), (0, [(1000000, (-1)), (1000003, 1)]), ((-1), [(19001, 1), (19002, (-1))]), ((-1), [(133, 1), (19002, (-1))]), ((-1), [(133, 1), (19001, (-1))])], [(9, (0, [])), (134, (1, [(134, 1)])), (7048, ((-2), [])), (7049, ((-2), [])), (8069, (0, [])), (11396, ((-2), [])), (18548, (0, [(1000000, 1)])), (18588, (0, [(18548, 1)])), (18589, (16, [])), (18590, (0, [(1000001, 1)])), (18591, (0, [(1000002, 1)])), (18592, (16, [])), (18593, (0, [(1000003, 1)])), (18594, (2, []))], some (false, (1, []))) as σ σ' τ o) : lw_mwx_C a1 a2 x.toInt σ σ' := by
  unfold lw_mwx_C
  have b133 : 0 ≤ σ 133 ∧ σ 133 ≤ 8 := by
    have h0 := hb 133
    rw [show sx_sr 133 = (0, 8) from by decide +kernel] at h0
    exact h0
  have b134 : 0 ≤ σ 134 ∧ σ 134 ≤ 12 := by
    have h0 := hb 134
    rw [show sx_sr 134 = (0, 12) from by decide +kernel] at h0
    exact h0
  obtain ⟨hs, ht, hf, hr, hm, hw⟩ := hW
  have e1 : τ 19001 = a1 := by rw [ht 19001 (by decide) (by decide)]; exact h1
  have e2 : τ 19002 = a2 := by rw [ht 19002 (by decide) (by decide)]; exact h2
  have s133 : τ 133 = σ 133 := hs 133 (by decide)
  have s134 : τ 134 = σ 134 := hs 134 (by decide)
  clear hs ht hb
  rw [hx] at hr
  obtain ⟨y, hy, hv⟩ := hr
  cases hy
  replace hv : x.toInt = 1 + 0 := hv
  have f0 : 0 ≤ 0 + ((-1) * τ 18548 + (1 * τ 1000000 + 0)) := hf _ (List.Mem.head _)
  have f1 : 0 ≤ (-1) + (1 * τ 133 + 0) := hf _ (List.Mem.tail _ (List.Mem.head _))
  have f2 : 0 ≤ 11 + ((-1) * τ 134 + 0) := hf _ (List.Mem.tail _ (List.Mem.tail _ (List.Mem.head _)))
  have f3 : 0 ≤ (-4) + (1 * τ 19001 + 0) := hf _ (List.Mem.tail _ (List.Mem.tail _ (List.Mem.tail _ (List.Mem.head _))))
  have f4 : 0 ≤ 4 + ((-1) * τ 19001 + 0) := hf _ (List.Mem.tail _ (List.Mem.tail _ (List.Mem.tail _ (List.Mem.tail _ (List.Mem.head _)))))
  have f5 : 0 ≤ (-4) + (1 * τ 19002 + 0) := hf _ (List.Mem.tail _ (List.Mem.tail _ (List.Mem.tail _ (List.Mem.tail _ (List.Mem.tail _ (List.Mem.head _))))))
  have f6 : 0 ≤ 4 + ((-1) * τ 19002 + 0) := hf _ (List.Mem.tail _ (List.Mem.tail _ (List.Mem.tail _ (List.Mem.tail _ (List.Mem.tail _ (List.Mem.tail _ (List.Mem.head _)))))))
  have f7 : 0 ≤ (-1) + (1 * τ 19003 + 0) := hf _ (List.Mem.tail _ (List.Mem.tail _ (List.Mem.tail _ (List.Mem.tail _ (List.Mem.tail _ (List.Mem.tail _ (List.Mem.tail _ (List.Mem.head _))))))))
  have f8 : 0 ≤ 0 + (1 * τ 1000000 + ((-1) * τ 1000001 + 0)) := hf _ (List.Mem.tail _ (List.Mem.tail _ (List.Mem.tail _ (List.Mem.tail _ (List.Mem.tail _ (List.Mem.tail _ (List.Mem.tail _ (List.Mem.tail _ (List.Mem.head _)))))))))
  have f9 : 0 ≤ 0 + (1 * τ 1000000 + ((-1) * τ 1000003 + 0)) := hf _ (List.Mem.tail _ (List.Mem.tail _ (List.Mem.tail _ (List.Mem.tail _ (List.Mem.tail _ (List.Mem.tail _ (List.Mem.tail _ (List.Mem.tail _ (List.Mem.tail _ (List.Mem.head _))))))))))
  have f10 : 0 ≤ 0 + ((-1) * τ 1000000 + (1 * τ 1000003 + 0)) := hf _ (List.Mem.tail _ (List.Mem.tail _ (List.Mem.tail _ (List.Mem.tail _ (List.Mem.tail _ (List.Mem.tail _ (List.Mem.tail _ (List.Mem.tail _ (List.Mem.tail _ (List.Mem.tail _ (List.Mem.head _)))))))))))
  have f11 : 0 ≤ (-1) + (1 * τ 19001 + ((-1) * τ 19002 + 0)) := hf _ (List.Mem.tail _ (List.Mem.tail _ (List.Mem.tail _ (List.Mem.tail _ (List.Mem.tail _ (List.Mem.tail _ (List.Mem.tail _ (List.Mem.tail _ (List.Mem.tail _ (List.Mem.tail _ (List.Mem.tail _ (List.Mem.head _))))))))))))
  have f12 : 0 ≤ (-1) + (1 * τ 133 + ((-1) * τ 19002 + 0)) := hf _ (List.Mem.tail _ (List.Mem.tail _ (List.Mem.tail _ (List.Mem.tail _ (List.Mem.tail _ (List.Mem.tail _ (List.Mem.tail _ (List.Mem.tail _ (List.Mem.tail _ (List.Mem.tail _ (List.Mem.tail _ (List.Mem.tail _ (List.Mem.head _)))))))))))))
  have f13 : 0 ≤ (-1) + (1 * τ 133 + ((-1) * τ 19001 + 0)) := hf _ (List.Mem.tail _ (List.Mem.tail _ (List.Mem.tail _ (List.Mem.tail _ (List.Mem.tail _ (List.Mem.tail _ (List.Mem.tail _ (List.Mem.tail _ (List.Mem.tail _ (List.Mem.tail _ (List.Mem.tail _ (List.Mem.tail _ (List.Mem.tail _ (List.Mem.head _))))))))))))))
  have m134 : σ' 134 = 1 + (1 * τ 134 + 0) := hm 134 (by decide)
  clear hf hm
  exact Or.inl ⟨by omega, ⟨by omega, by omega, by omega, by omega, by omega, by omega⟩, by omega⟩
theorem lw_mwx_123 {as : List rv_A} {σ σ' : Nat → Int} {o : rv_O} {x : Int32} {a1 a2 : Int} {τ : Nat → Int} (hx : o.1 = some (.inl x)) (h1 : lw_av as 1 = a1) (h2 : lw_av as 2 = a2) (hb : ∀ s, (sx_sr s).1 ≤ σ s ∧ σ s ≤ (sx_sr s).2) (hW : lw_W ([(18540, 32, 255), (18541, 16, 255), (18590, 32, 255), (18593, 16, 255)], [(0, [(18540, (-1)), (1000000, 1)]), (0, [(18541, (-1)), (1000001, 1)]), ((-1), [(133, 1)]), (11, [(134, (-1))]), ((-4), [(19001, 1)]), (4, [(19001, (-1))]), ((-5), [(19002, 1)]), (5, [(19002, (-1))]), (0, [(19003, (-1))]), (0, [(1000000, 1), (1000002, (-1))]), (0, [(1000000, (-1)), (1000002, 1)]), (0, [(1000001, 1), (1000003, (-1))]), (0, [(1000001, (-1)), (1000003, 1)]), ((-1), [(19001, (-1)), (19002, 1)]), ((-1), [(133, 1), (19002, (-1))]), ((-1), [(133, 1), (19001, (-1))])], [(9, (0, [])), (134, (1, [(134, 1)])), (7048, ((-2), [])), (7049, ((-2), [])), (8069, (0, [])), (11396, ((-2), [])), (18540, (0, [(1000000, 1)])), (18541, (0, [(1000001, 1)])), (18588, (0, [(18540, 1)])), (18589, (32, [])), (18590, (0, [(1000002, 1)])), (18591, (0, [(18541, 1)])), (18592, (16, [])), (18593, (0, [(1000003, 1)])), (18594, (2, []))], some (false, (1, []))) as σ σ' τ o) : lw_mwx_C a1 a2 x.toInt σ σ' := by
  unfold lw_mwx_C
  have b133 : 0 ≤ σ 133 ∧ σ 133 ≤ 8 := by
    have h0 := hb 133
    rw [show sx_sr 133 = (0, 8) from by decide +kernel] at h0
    exact h0
  have b134 : 0 ≤ σ 134 ∧ σ 134 ≤ 12 := by
    have h0 := hb 134
    rw [show sx_sr 134 = (0, 12) from by decide +kernel] at h0
    exact h0
  obtain ⟨hs, ht, hf, hr, hm, hw⟩ := hW
  have e1 : τ 19001 = a1 := by rw [ht 19001 (by decide) (by decide)]; exact h1
  have e2 : τ 19002 = a2 := by rw [ht 19002 (by decide) (by decide)]; exact h2
  have s133 : τ 133 = σ 133 := hs 133 (by decide)
  have s134 : τ 134 = σ 134 := hs 134 (by decide)
  clear hs ht hb
  rw [hx] at hr
  obtain ⟨y, hy, hv⟩ := hr
  cases hy
  replace hv : x.toInt = 1 + 0 := hv
  have f0 : 0 ≤ 0 + ((-1) * τ 18540 + (1 * τ 1000000 + 0)) := hf _ (List.Mem.head _)
  have f1 : 0 ≤ 0 + ((-1) * τ 18541 + (1 * τ 1000001 + 0)) := hf _ (List.Mem.tail _ (List.Mem.head _))
  have f2 : 0 ≤ (-1) + (1 * τ 133 + 0) := hf _ (List.Mem.tail _ (List.Mem.tail _ (List.Mem.head _)))
  have f3 : 0 ≤ 11 + ((-1) * τ 134 + 0) := hf _ (List.Mem.tail _ (List.Mem.tail _ (List.Mem.tail _ (List.Mem.head _))))
  have f4 : 0 ≤ (-4) + (1 * τ 19001 + 0) := hf _ (List.Mem.tail _ (List.Mem.tail _ (List.Mem.tail _ (List.Mem.tail _ (List.Mem.head _)))))
  have f5 : 0 ≤ 4 + ((-1) * τ 19001 + 0) := hf _ (List.Mem.tail _ (List.Mem.tail _ (List.Mem.tail _ (List.Mem.tail _ (List.Mem.tail _ (List.Mem.head _))))))
  have f6 : 0 ≤ (-5) + (1 * τ 19002 + 0) := hf _ (List.Mem.tail _ (List.Mem.tail _ (List.Mem.tail _ (List.Mem.tail _ (List.Mem.tail _ (List.Mem.tail _ (List.Mem.head _)))))))
  have f7 : 0 ≤ 5 + ((-1) * τ 19002 + 0) := hf _ (List.Mem.tail _ (List.Mem.tail _ (List.Mem.tail _ (List.Mem.tail _ (List.Mem.tail _ (List.Mem.tail _ (List.Mem.tail _ (List.Mem.head _))))))))
  have f8 : 0 ≤ 0 + ((-1) * τ 19003 + 0) := hf _ (List.Mem.tail _ (List.Mem.tail _ (List.Mem.tail _ (List.Mem.tail _ (List.Mem.tail _ (List.Mem.tail _ (List.Mem.tail _ (List.Mem.tail _ (List.Mem.head _)))))))))
  have f9 : 0 ≤ 0 + (1 * τ 1000000 + ((-1) * τ 1000002 + 0)) := hf _ (List.Mem.tail _ (List.Mem.tail _ (List.Mem.tail _ (List.Mem.tail _ (List.Mem.tail _ (List.Mem.tail _ (List.Mem.tail _ (List.Mem.tail _ (List.Mem.tail _ (List.Mem.head _))))))))))
  have f10 : 0 ≤ 0 + ((-1) * τ 1000000 + (1 * τ 1000002 + 0)) := hf _ (List.Mem.tail _ (List.Mem.tail _ (List.Mem.tail _ (List.Mem.tail _ (List.Mem.tail _ (List.Mem.tail _ (List.Mem.tail _ (List.Mem.tail _ (List.Mem.tail _ (List.Mem.tail _ (List.Mem.head _)))))))))))
  have f11 : 0 ≤ 0 + (1 * τ 1000001 + ((-1) * τ 1000003 + 0)) := hf _ (List.Mem.tail _ (List.Mem.tail _ (List.Mem.tail _ (List.Mem.tail _ (List.Mem.tail _ (List.Mem.tail _ (List.Mem.tail _ (List.Mem.tail _ (List.Mem.tail _ (List.Mem.tail _ (List.Mem.tail _ (List.Mem.head _))))))))))))
  have f12 : 0 ≤ 0 + ((-1) * τ 1000001 + (1 * τ 1000003 + 0)) := hf _ (List.Mem.tail _ (List.Mem.tail _ (List.Mem.tail _ (List.Mem.tail _ (List.Mem.tail _ (List.Mem.tail _ (List.Mem.tail _ (List.Mem.tail _ (List.Mem.tail _ (List.Mem.tail _ (List.Mem.tail _ (List.Mem.tail _ (List.Mem.head _)))))))))))))
  have f13 : 0 ≤ (-1) + ((-1) * τ 19001 + (1 * τ 19002 + 0)) := hf _ (List.Mem.tail _ (List.Mem.tail _ (List.Mem.tail _ (List.Mem.tail _ (List.Mem.tail _ (List.Mem.tail _ (List.Mem.tail _ (List.Mem.tail _ (List.Mem.tail _ (List.Mem.tail _ (List.Mem.tail _ (List.Mem.tail _ (List.Mem.tail _ (List.Mem.head _))))))))))))))
  have f14 : 0 ≤ (-1) + (1 * τ 133 + ((-1) * τ 19002 + 0)) := hf _ (List.Mem.tail _ (List.Mem.tail _ (List.Mem.tail _ (List.Mem.tail _ (List.Mem.tail _ (List.Mem.tail _ (List.Mem.tail _ (List.Mem.tail _ (List.Mem.tail _ (List.Mem.tail _ (List.Mem.tail _ (List.Mem.tail _ (List.Mem.tail _ (List.Mem.tail _ (List.Mem.head _)))))))))))))))
  have f15 : 0 ≤ (-1) + (1 * τ 133 + ((-1) * τ 19001 + 0)) := hf _ (List.Mem.tail _ (List.Mem.tail _ (List.Mem.tail _ (List.Mem.tail _ (List.Mem.tail _ (List.Mem.tail _ (List.Mem.tail _ (List.Mem.tail _ (List.Mem.tail _ (List.Mem.tail _ (List.Mem.tail _ (List.Mem.tail _ (List.Mem.tail _ (List.Mem.tail _ (List.Mem.tail _ (List.Mem.head _))))))))))))))))
  have m134 : σ' 134 = 1 + (1 * τ 134 + 0) := hm 134 (by decide)
  clear hf hm
  exact Or.inl ⟨by omega, ⟨by omega, by omega, by omega, by omega, by omega, by omega⟩, by omega⟩
theorem lw_mwx_124 {as : List rv_A} {σ σ' : Nat → Int} {o : rv_O} {x : Int32} {a1 a2 : Int} {τ : Nat → Int} (hx : o.1 = some (.inl x)) (h1 : lw_av as 1 = a1) (h2 : lw_av as 2 = a2) (hb : ∀ s, (sx_sr s).1 ≤ σ s ∧ σ s ≤ (sx_sr s).2) (hW : lw_W ([(18540, 32, 255), (18541, 16, 255), (18590, 32, 255), (18593, 16, 255)], [(0, [(18540, (-1)), (1000000, 1)]), (0, [(18541, (-1)), (1000001, 1)]), ((-1), [(133, 1)]), (11, [(134, (-1))]), ((-4), [(19001, 1)]), (4, [(19001, (-1))]), ((-5), [(19002, 1)]), (5, [(19002, (-1))]), (0, [(19003, (-1))]), (0, [(1000000, 1), (1000002, (-1))]), (0, [(1000000, (-1)), (1000002, 1)]), (0, [(1000001, 1), (1000003, (-1))]), (0, [(1000001, (-1)), (1000003, 1)]), ((-1), [(19001, 1), (19002, (-1))]), ((-1), [(133, 1), (19002, (-1))]), ((-1), [(133, 1), (19001, (-1))])], [(9, (0, [])), (134, (1, [(134, 1)])), (7048, ((-2), [])), (7049, ((-2), [])), (8069, (0, [])), (11396, ((-2), [])), (18540, (0, [(1000000, 1)])), (18541, (0, [(1000001, 1)])), (18588, (0, [(18540, 1)])), (18589, (32, [])), (18590, (0, [(1000002, 1)])), (18591, (0, [(18541, 1)])), (18592, (16, [])), (18593, (0, [(1000003, 1)])), (18594, (2, []))], some (false, (1, []))) as σ σ' τ o) : lw_mwx_C a1 a2 x.toInt σ σ' := by
  unfold lw_mwx_C
  have b133 : 0 ≤ σ 133 ∧ σ 133 ≤ 8 := by
    have h0 := hb 133
    rw [show sx_sr 133 = (0, 8) from by decide +kernel] at h0
    exact h0
  have b134 : 0 ≤ σ 134 ∧ σ 134 ≤ 12 := by
    have h0 := hb 134
    rw [show sx_sr 134 = (0, 12) from by decide +kernel] at h0
    exact h0
  obtain ⟨hs, ht, hf, hr, hm, hw⟩ := hW
  have e1 : τ 19001 = a1 := by rw [ht 19001 (by decide) (by decide)]; exact h1
  have e2 : τ 19002 = a2 := by rw [ht 19002 (by decide) (by decide)]; exact h2
  have s133 : τ 133 = σ 133 := hs 133 (by decide)
  have s134 : τ 134 = σ 134 := hs 134 (by decide)
  clear hs ht hb
  rw [hx] at hr
  obtain ⟨y, hy, hv⟩ := hr
  cases hy
  replace hv : x.toInt = 1 + 0 := hv
  have f0 : 0 ≤ 0 + ((-1) * τ 18540 + (1 * τ 1000000 + 0)) := hf _ (List.Mem.head _)
  have f1 : 0 ≤ 0 + ((-1) * τ 18541 + (1 * τ 1000001 + 0)) := hf _ (List.Mem.tail _ (List.Mem.head _))
  have f2 : 0 ≤ (-1) + (1 * τ 133 + 0) := hf _ (List.Mem.tail _ (List.Mem.tail _ (List.Mem.head _)))
  have f3 : 0 ≤ 11 + ((-1) * τ 134 + 0) := hf _ (List.Mem.tail _ (List.Mem.tail _ (List.Mem.tail _ (List.Mem.head _))))
  have f4 : 0 ≤ (-4) + (1 * τ 19001 + 0) := hf _ (List.Mem.tail _ (List.Mem.tail _ (List.Mem.tail _ (List.Mem.tail _ (List.Mem.head _)))))
  have f5 : 0 ≤ 4 + ((-1) * τ 19001 + 0) := hf _ (List.Mem.tail _ (List.Mem.tail _ (List.Mem.tail _ (List.Mem.tail _ (List.Mem.tail _ (List.Mem.head _))))))
  have f6 : 0 ≤ (-5) + (1 * τ 19002 + 0) := hf _ (List.Mem.tail _ (List.Mem.tail _ (List.Mem.tail _ (List.Mem.tail _ (List.Mem.tail _ (List.Mem.tail _ (List.Mem.head _)))))))
  have f7 : 0 ≤ 5 + ((-1) * τ 19002 + 0) := hf _ (List.Mem.tail _ (List.Mem.tail _ (List.Mem.tail _ (List.Mem.tail _ (List.Mem.tail _ (List.Mem.tail _ (List.Mem.tail _ (List.Mem.head _))))))))
  have f8 : 0 ≤ 0 + ((-1) * τ 19003 + 0) := hf _ (List.Mem.tail _ (List.Mem.tail _ (List.Mem.tail _ (List.Mem.tail _ (List.Mem.tail _ (List.Mem.tail _ (List.Mem.tail _ (List.Mem.tail _ (List.Mem.head _)))))))))
  have f9 : 0 ≤ 0 + (1 * τ 1000000 + ((-1) * τ 1000002 + 0)) := hf _ (List.Mem.tail _ (List.Mem.tail _ (List.Mem.tail _ (List.Mem.tail _ (List.Mem.tail _ (List.Mem.tail _ (List.Mem.tail _ (List.Mem.tail _ (List.Mem.tail _ (List.Mem.head _))))))))))
  have f10 : 0 ≤ 0 + ((-1) * τ 1000000 + (1 * τ 1000002 + 0)) := hf _ (List.Mem.tail _ (List.Mem.tail _ (List.Mem.tail _ (List.Mem.tail _ (List.Mem.tail _ (List.Mem.tail _ (List.Mem.tail _ (List.Mem.tail _ (List.Mem.tail _ (List.Mem.tail _ (List.Mem.head _)))))))))))
  have f11 : 0 ≤ 0 + (1 * τ 1000001 + ((-1) * τ 1000003 + 0)) := hf _ (List.Mem.tail _ (List.Mem.tail _ (List.Mem.tail _ (List.Mem.tail _ (List.Mem.tail _ (List.Mem.tail _ (List.Mem.tail _ (List.Mem.tail _ (List.Mem.tail _ (List.Mem.tail _ (List.Mem.tail _ (List.Mem.head _))))))))))))
  have f12 : 0 ≤ 0 + ((-1) * τ 1000001 + (1 * τ 1000003 + 0)) := hf _ (List.Mem.tail _ (List.Mem.tail _ (List.Mem.tail _ (List.Mem.tail _ (List.Mem.tail _ (List.Mem.tail _ (List.Mem.tail _ (List.Mem.tail _ (List.Mem.tail _ (List.Mem.tail _ (List.Mem.tail _ (List.Mem.tail _ (List.Mem.head _)))))))))))))
  have f13 : 0 ≤ (-1) + (1 * τ 19001 + ((-1) * τ 19002 + 0)) := hf _ (List.Mem.tail _ (List.Mem.tail _ (List.Mem.tail _ (List.Mem.tail _ (List.Mem.tail _ (List.Mem.tail _ (List.Mem.tail _ (List.Mem.tail _ (List.Mem.tail _ (List.Mem.tail _ (List.Mem.tail _ (List.Mem.tail _ (List.Mem.tail _ (List.Mem.head _))))))))))))))
  have f14 : 0 ≤ (-1) + (1 * τ 133 + ((-1) * τ 19002 + 0)) := hf _ (List.Mem.tail _ (List.Mem.tail _ (List.Mem.tail _ (List.Mem.tail _ (List.Mem.tail _ (List.Mem.tail _ (List.Mem.tail _ (List.Mem.tail _ (List.Mem.tail _ (List.Mem.tail _ (List.Mem.tail _ (List.Mem.tail _ (List.Mem.tail _ (List.Mem.tail _ (List.Mem.head _)))))))))))))))
  have f15 : 0 ≤ (-1) + (1 * τ 133 + ((-1) * τ 19001 + 0)) := hf _ (List.Mem.tail _ (List.Mem.tail _ (List.Mem.tail _ (List.Mem.tail _ (List.Mem.tail _ (List.Mem.tail _ (List.Mem.tail _ (List.Mem.tail _ (List.Mem.tail _ (List.Mem.tail _ (List.Mem.tail _ (List.Mem.tail _ (List.Mem.tail _ (List.Mem.tail _ (List.Mem.tail _ (List.Mem.head _))))))))))))))))
  have m134 : σ' 134 = 1 + (1 * τ 134 + 0) := hm 134 (by decide)
  clear hf hm
  exact Or.inl ⟨by omega, ⟨by omega, by omega, by omega, by omega, by omega, by omega⟩, by omega⟩
theorem lw_mwx_125 {as : List rv_A} {σ σ' : Nat → Int} {o : rv_O} {x : Int32} {a1 a2 : Int} {τ : Nat → Int} (hx : o.1 = some (.inl x)) (h1 : lw_av as 1 = a1) (h2 : lw_av as 2 = a2) (hb : ∀ s, (sx_sr s).1 ≤ σ s ∧ σ s ≤ (sx_sr s).2) (hW : lw_W ([(18548, 32, 255), (18549, 16, 255), (18590, 32, 255), (18593, 16, 255)], [(0, [(18548, (-1)), (1000000, 1)]), (0, [(18549, (-1)), (1000001, 1)]), ((-1), [(133, 1)]), (11, [(134, (-1))]), ((-4), [(19001, 1)]), (4, [(19001, (-1))]), ((-5), [(19002, 1)]), (5, [(19002, (-1))]), ((-1), [(19003, 1)]), (0, [(1000000, 1), (1000002, (-1))]), (0, [(1000000, (-1)), (1000002, 1)]), (0, [(1000001, 1), (1000003, (-1))]), (0, [(1000001, (-1)), (1000003, 1)]), ((-1), [(19001, (-1)), (19002, 1)]), ((-1), [(133, 1), (19002, (-1))]), ((-1), [(133, 1), (19001, (-1))])], [(9, (0, [])), (134, (1, [(134, 1)])), (7048, ((-2), [])), (7049, ((-2), [])), (8069, (0, [])), (11396, ((-2), [])), (18548, (0, [(1000000, 1)])), (18549, (0, [(1000001, 1)])), (18588, (0, [(18548, 1)])), (18589, (32, [])), (18590, (0, [(1000002, 1)])), (18591, (0, [(18549, 1)])), (18592, (16, [])), (18593, (0, [(1000003, 1)])), (18594, (2, []))], some (false, (1, []))) as σ σ' τ o) : lw_mwx_C a1 a2 x.toInt σ σ' := by
  unfold lw_mwx_C
  have b133 : 0 ≤ σ 133 ∧ σ 133 ≤ 8 := by
    have h0 := hb 133
    rw [show sx_sr 133 = (0, 8) from by decide +kernel] at h0
    exact h0
  have b134 : 0 ≤ σ 134 ∧ σ 134 ≤ 12 := by
    have h0 := hb 134
    rw [show sx_sr 134 = (0, 12) from by decide +kernel] at h0
    exact h0
  obtain ⟨hs, ht, hf, hr, hm, hw⟩ := hW
  have e1 : τ 19001 = a1 := by rw [ht 19001 (by decide) (by decide)]; exact h1
  have e2 : τ 19002 = a2 := by rw [ht 19002 (by decide) (by decide)]; exact h2
  have s133 : τ 133 = σ 133 := hs 133 (by decide)
  have s134 : τ 134 = σ 134 := hs 134 (by decide)
  clear hs ht hb
  rw [hx] at hr
  obtain ⟨y, hy, hv⟩ := hr
  cases hy
  replace hv : x.toInt = 1 + 0 := hv
  have f0 : 0 ≤ 0 + ((-1) * τ 18548 + (1 * τ 1000000 + 0)) := hf _ (List.Mem.head _)
  have f1 : 0 ≤ 0 + ((-1) * τ 18549 + (1 * τ 1000001 + 0)) := hf _ (List.Mem.tail _ (List.Mem.head _))
  have f2 : 0 ≤ (-1) + (1 * τ 133 + 0) := hf _ (List.Mem.tail _ (List.Mem.tail _ (List.Mem.head _)))
  have f3 : 0 ≤ 11 + ((-1) * τ 134 + 0) := hf _ (List.Mem.tail _ (List.Mem.tail _ (List.Mem.tail _ (List.Mem.head _))))
  have f4 : 0 ≤ (-4) + (1 * τ 19001 + 0) := hf _ (List.Mem.tail _ (List.Mem.tail _ (List.Mem.tail _ (List.Mem.tail _ (List.Mem.head _)))))
  have f5 : 0 ≤ 4 + ((-1) * τ 19001 + 0) := hf _ (List.Mem.tail _ (List.Mem.tail _ (List.Mem.tail _ (List.Mem.tail _ (List.Mem.tail _ (List.Mem.head _))))))
  have f6 : 0 ≤ (-5) + (1 * τ 19002 + 0) := hf _ (List.Mem.tail _ (List.Mem.tail _ (List.Mem.tail _ (List.Mem.tail _ (List.Mem.tail _ (List.Mem.tail _ (List.Mem.head _)))))))
  have f7 : 0 ≤ 5 + ((-1) * τ 19002 + 0) := hf _ (List.Mem.tail _ (List.Mem.tail _ (List.Mem.tail _ (List.Mem.tail _ (List.Mem.tail _ (List.Mem.tail _ (List.Mem.tail _ (List.Mem.head _))))))))
  have f8 : 0 ≤ (-1) + (1 * τ 19003 + 0) := hf _ (List.Mem.tail _ (List.Mem.tail _ (List.Mem.tail _ (List.Mem.tail _ (List.Mem.tail _ (List.Mem.tail _ (List.Mem.tail _ (List.Mem.tail _ (List.Mem.head _)))))))))
  have f9 : 0 ≤ 0 + (1 * τ 1000000 + ((-1) * τ 1000002 + 0)) := hf _ (List.Mem.tail _ (List.Mem.tail _ (List.Mem.tail _ (List.Mem.tail _ (List.Mem.tail _ (List.Mem.tail _ (List.Mem.tail _ (List.Mem.tail _ (List.Mem.tail _ (List.Mem.head _))))))))))
  have f10 : 0 ≤ 0 + ((-1) * τ 1000000 + (1 * τ 1000002 + 0)) := hf _ (List.Mem.tail _ (List.Mem.tail _ (List.Mem.tail _ (List.Mem.tail _ (List.Mem.tail _ (List.Mem.tail _ (List.Mem.tail _ (List.Mem.tail _ (List.Mem.tail _ (List.Mem.tail _ (List.Mem.head _)))))))))))
  have f11 : 0 ≤ 0 + (1 * τ 1000001 + ((-1) * τ 1000003 + 0)) := hf _ (List.Mem.tail _ (List.Mem.tail _ (List.Mem.tail _ (List.Mem.tail _ (List.Mem.tail _ (List.Mem.tail _ (List.Mem.tail _ (List.Mem.tail _ (List.Mem.tail _ (List.Mem.tail _ (List.Mem.tail _ (List.Mem.head _))))))))))))
  have f12 : 0 ≤ 0 + ((-1) * τ 1000001 + (1 * τ 1000003 + 0)) := hf _ (List.Mem.tail _ (List.Mem.tail _ (List.Mem.tail _ (List.Mem.tail _ (List.Mem.tail _ (List.Mem.tail _ (List.Mem.tail _ (List.Mem.tail _ (List.Mem.tail _ (List.Mem.tail _ (List.Mem.tail _ (List.Mem.tail _ (List.Mem.head _)))))))))))))
  have f13 : 0 ≤ (-1) + ((-1) * τ 19001 + (1 * τ 19002 + 0)) := hf _ (List.Mem.tail _ (List.Mem.tail _ (List.Mem.tail _ (List.Mem.tail _ (List.Mem.tail _ (List.Mem.tail _ (List.Mem.tail _ (List.Mem.tail _ (List.Mem.tail _ (List.Mem.tail _ (List.Mem.tail _ (List.Mem.tail _ (List.Mem.tail _ (List.Mem.head _))))))))))))))
  have f14 : 0 ≤ (-1) + (1 * τ 133 + ((-1) * τ 19002 + 0)) := hf _ (List.Mem.tail _ (List.Mem.tail _ (List.Mem.tail _ (List.Mem.tail _ (List.Mem.tail _ (List.Mem.tail _ (List.Mem.tail _ (List.Mem.tail _ (List.Mem.tail _ (List.Mem.tail _ (List.Mem.tail _ (List.Mem.tail _ (List.Mem.tail _ (List.Mem.tail _ (List.Mem.head _)))))))))))))))
  have f15 : 0 ≤ (-1) + (1 * τ 133 + ((-1) * τ 19001 + 0)) := hf _ (List.Mem.tail _ (List.Mem.tail _ (List.Mem.tail _ (List.Mem.tail _ (List.Mem.tail _ (List.Mem.tail _ (List.Mem.tail _ (List.Mem.tail _ (List.Mem.tail _ (List.Mem.tail _ (List.Mem.tail _ (List.Mem.tail _ (List.Mem.tail _ (List.Mem.tail _ (List.Mem.tail _ (List.Mem.head _))))))))))))))))
  have m134 : σ' 134 = 1 + (1 * τ 134 + 0) := hm 134 (by decide)
  clear hf hm
  exact Or.inl ⟨by omega, ⟨by omega, by omega, by omega, by omega, by omega, by omega⟩, by omega⟩
theorem lw_mwx_126 {as : List rv_A} {σ σ' : Nat → Int} {o : rv_O} {x : Int32} {a1 a2 : Int} {τ : Nat → Int} (hx : o.1 = some (.inl x)) (h1 : lw_av as 1 = a1) (h2 : lw_av as 2 = a2) (hb : ∀ s, (sx_sr s).1 ≤ σ s ∧ σ s ≤ (sx_sr s).2) (hW : lw_W ([(18548, 32, 255), (18549, 16, 255), (18590, 32, 255), (18593, 16, 255)], [(0, [(18548, (-1)), (1000000, 1)]), (0, [(18549, (-1)), (1000001, 1)]), ((-1), [(133, 1)]), (11, [(134, (-1))]), ((-4), [(19001, 1)]), (4, [(19001, (-1))]), ((-5), [(19002, 1)]), (5, [(19002, (-1))]), ((-1), [(19003, 1)]), (0, [(1000000, 1), (1000002, (-1))]), (0, [(1000000, (-1)), (1000002, 1)]), (0, [(1000001, 1), (1000003, (-1))]), (0, [(1000001, (-1)), (1000003, 1)]), ((-1), [(19001, 1), (19002, (-1))]), ((-1), [(133, 1), (19002, (-1))]), ((-1), [(133, 1), (19001, (-1))])], [(9, (0, [])), (134, (1, [(134, 1)])), (7048, ((-2), [])), (7049, ((-2), [])), (8069, (0, [])), (11396, ((-2), [])), (18548, (0, [(1000000, 1)])), (18549, (0, [(1000001, 1)])), (18588, (0, [(18548, 1)])), (18589, (32, [])), (18590, (0, [(1000002, 1)])), (18591, (0, [(18549, 1)])), (18592, (16, [])), (18593, (0, [(1000003, 1)])), (18594, (2, []))], some (false, (1, []))) as σ σ' τ o) : lw_mwx_C a1 a2 x.toInt σ σ' := by
  unfold lw_mwx_C
  have b133 : 0 ≤ σ 133 ∧ σ 133 ≤ 8 := by
    have h0 := hb 133
    rw [show sx_sr 133 = (0, 8) from by decide +kernel] at h0
    exact h0
  have b134 : 0 ≤ σ 134 ∧ σ 134 ≤ 12 := by
    have h0 := hb 134
    rw [show sx_sr 134 = (0, 12) from by decide +kernel] at h0
    exact h0
  obtain ⟨hs, ht, hf, hr, hm, hw⟩ := hW
  have e1 : τ 19001 = a1 := by rw [ht 19001 (by decide) (by decide)]; exact h1
  have e2 : τ 19002 = a2 := by rw [ht 19002 (by decide) (by decide)]; exact h2
  have s133 : τ 133 = σ 133 := hs 133 (by decide)
  have s134 : τ 134 = σ 134 := hs 134 (by decide)
  clear hs ht hb
  rw [hx] at hr
  obtain ⟨y, hy, hv⟩ := hr
  cases hy
  replace hv : x.toInt = 1 + 0 := hv
  have f0 : 0 ≤ 0 + ((-1) * τ 18548 + (1 * τ 1000000 + 0)) := hf _ (List.Mem.head _)
  have f1 : 0 ≤ 0 + ((-1) * τ 18549 + (1 * τ 1000001 + 0)) := hf _ (List.Mem.tail _ (List.Mem.head _))
  have f2 : 0 ≤ (-1) + (1 * τ 133 + 0) := hf _ (List.Mem.tail _ (List.Mem.tail _ (List.Mem.head _)))
  have f3 : 0 ≤ 11 + ((-1) * τ 134 + 0) := hf _ (List.Mem.tail _ (List.Mem.tail _ (List.Mem.tail _ (List.Mem.head _))))
  have f4 : 0 ≤ (-4) + (1 * τ 19001 + 0) := hf _ (List.Mem.tail _ (List.Mem.tail _ (List.Mem.tail _ (List.Mem.tail _ (List.Mem.head _)))))
  have f5 : 0 ≤ 4 + ((-1) * τ 19001 + 0) := hf _ (List.Mem.tail _ (List.Mem.tail _ (List.Mem.tail _ (List.Mem.tail _ (List.Mem.tail _ (List.Mem.head _))))))
  have f6 : 0 ≤ (-5) + (1 * τ 19002 + 0) := hf _ (List.Mem.tail _ (List.Mem.tail _ (List.Mem.tail _ (List.Mem.tail _ (List.Mem.tail _ (List.Mem.tail _ (List.Mem.head _)))))))
  have f7 : 0 ≤ 5 + ((-1) * τ 19002 + 0) := hf _ (List.Mem.tail _ (List.Mem.tail _ (List.Mem.tail _ (List.Mem.tail _ (List.Mem.tail _ (List.Mem.tail _ (List.Mem.tail _ (List.Mem.head _))))))))
  have f8 : 0 ≤ (-1) + (1 * τ 19003 + 0) := hf _ (List.Mem.tail _ (List.Mem.tail _ (List.Mem.tail _ (List.Mem.tail _ (List.Mem.tail _ (List.Mem.tail _ (List.Mem.tail _ (List.Mem.tail _ (List.Mem.head _)))))))))
  have f9 : 0 ≤ 0 + (1 * τ 1000000 + ((-1) * τ 1000002 + 0)) := hf _ (List.Mem.tail _ (List.Mem.tail _ (List.Mem.tail _ (List.Mem.tail _ (List.Mem.tail _ (List.Mem.tail _ (List.Mem.tail _ (List.Mem.tail _ (List.Mem.tail _ (List.Mem.head _))))))))))
  have f10 : 0 ≤ 0 + ((-1) * τ 1000000 + (1 * τ 1000002 + 0)) := hf _ (List.Mem.tail _ (List.Mem.tail _ (List.Mem.tail _ (List.Mem.tail _ (List.Mem.tail _ (List.Mem.tail _ (List.Mem.tail _ (List.Mem.tail _ (List.Mem.tail _ (List.Mem.tail _ (List.Mem.head _)))))))))))
  have f11 : 0 ≤ 0 + (1 * τ 1000001 + ((-1) * τ 1000003 + 0)) := hf _ (List.Mem.tail _ (List.Mem.tail _ (List.Mem.tail _ (List.Mem.tail _ (List.Mem.tail _ (List.Mem.tail _ (List.Mem.tail _ (List.Mem.tail _ (List.Mem.tail _ (List.Mem.tail _ (List.Mem.tail _ (List.Mem.head _))))))))))))
  have f12 : 0 ≤ 0 + ((-1) * τ 1000001 + (1 * τ 1000003 + 0)) := hf _ (List.Mem.tail _ (List.Mem.tail _ (List.Mem.tail _ (List.Mem.tail _ (List.Mem.tail _ (List.Mem.tail _ (List.Mem.tail _ (List.Mem.tail _ (List.Mem.tail _ (List.Mem.tail _ (List.Mem.tail _ (List.Mem.tail _ (List.Mem.head _)))))))))))))
  have f13 : 0 ≤ (-1) + (1 * τ 19001 + ((-1) * τ 19002 + 0)) := hf _ (List.Mem.tail _ (List.Mem.tail _ (List.Mem.tail _ (List.Mem.tail _ (List.Mem.tail _ (List.Mem.tail _ (List.Mem.tail _ (List.Mem.tail _ (List.Mem.tail _ (List.Mem.tail _ (List.Mem.tail _ (List.Mem.tail _ (List.Mem.tail _ (List.Mem.head _))))))))))))))
  have f14 : 0 ≤ (-1) + (1 * τ 133 + ((-1) * τ 19002 + 0)) := hf _ (List.Mem.tail _ (List.Mem.tail _ (List.Mem.tail _ (List.Mem.tail _ (List.Mem.tail _ (List.Mem.tail _ (List.Mem.tail _ (List.Mem.tail _ (List.Mem.tail _ (List.Mem.tail _ (List.Mem.tail _ (List.Mem.tail _ (List.Mem.tail _ (List.Mem.tail _ (List.Mem.head _)))))))))))))))
  have f15 : 0 ≤ (-1) + (1 * τ 133 + ((-1) * τ 19001 + 0)) := hf _ (List.Mem.tail _ (List.Mem.tail _ (List.Mem.tail _ (List.Mem.tail _ (List.Mem.tail _ (List.Mem.tail _ (List.Mem.tail _ (List.Mem.tail _ (List.Mem.tail _ (List.Mem.tail _ (List.Mem.tail _ (List.Mem.tail _ (List.Mem.tail _ (List.Mem.tail _ (List.Mem.tail _ (List.Mem.head _))))))))))))))))
  have m134 : σ' 134 = 1 + (1 * τ 134 + 0) := hm 134 (by decide)
  clear hf hm
  exact Or.inl ⟨by omega, ⟨by omega, by omega, by omega, by omega, by omega, by omega⟩, by omega⟩
theorem lw_mwx_127 {as : List rv_A} {σ σ' : Nat → Int} {o : rv_O} {x : Int32} {a1 a2 : Int} {τ : Nat → Int} (hx : o.1 = some (.inl x)) (h1 : lw_av as 1 = a1) (h2 : lw_av as 2 = a2) (hb : ∀ s, (sx_sr s).1 ≤ σ s ∧ σ s ≤ (sx_sr s).2) (hW : lw_W ([(18540, 64, 255), (18542, 16, 255), (18590, 64, 255), (18593, 16, 255)], [(0, [(18540, (-1)), (1000000, 1)]), (0, [(18542, (-1)), (1000001, 1)]), ((-1), [(133, 1)]), (11, [(134, (-1))]), ((-4), [(19001, 1)]), (4, [(19001, (-1))]), ((-6), [(19002, 1)]), (6, [(19002, (-1))]), (0, [(19003, (-1))]), (0, [(1000000, 1), (1000002, (-1))]), (0, [(1000000, (-1)), (1000002, 1)]), (0, [(1000001, 1), (1000003, (-1))]), (0, [(1000001, (-1)), (1000003, 1)]), ((-1), [(19001, (-1)), (19002, 1)]), ((-1), [(133, 1), (19002, (-1))]), ((-1), [(133, 1), (19001, (-1))])], [(9, (0, [])), (134, (1, [(134, 1)])), (7048, ((-2), [])), (7049, ((-2), [])), (8069, (0, [])), (11396, ((-2), [])), (18540, (0, [(1000000, 1)])), (18542, (0, [(1000001, 1)])), (18588, (0, [(18540, 1)])), (18589, (64, [])), (18590, (0, [(1000002, 1)])), (18591, (0, [(18542, 1)])), (18592, (16, [])), (18593, (0, [(1000003, 1)])), (18594, (2, []))], some (false, (1, []))) as σ σ' τ o) : lw_mwx_C a1 a2 x.toInt σ σ' := by
  unfold lw_mwx_C
  have b133 : 0 ≤ σ 133 ∧ σ 133 ≤ 8 := by
    have h0 := hb 133
    rw [show sx_sr 133 = (0, 8) from by decide +kernel] at h0
    exact h0
  have b134 : 0 ≤ σ 134 ∧ σ 134 ≤ 12 := by
    have h0 := hb 134
    rw [show sx_sr 134 = (0, 12) from by decide +kernel] at h0
    exact h0
  obtain ⟨hs, ht, hf, hr, hm, hw⟩ := hW
  have e1 : τ 19001 = a1 := by rw [ht 19001 (by decide) (by decide)]; exact h1
  have e2 : τ 19002 = a2 := by rw [ht 19002 (by decide) (by decide)]; exact h2
  have s133 : τ 133 = σ 133 := hs 133 (by decide)
  have s134 : τ 134 = σ 134 := hs 134 (by decide)
  clear hs ht hb
  rw [hx] at hr
  obtain ⟨y, hy, hv⟩ := hr
  cases hy
  replace hv : x.toInt = 1 + 0 := hv
  have f0 : 0 ≤ 0 + ((-1) * τ 18540 + (1 * τ 1000000 + 0)) := hf _ (List.Mem.head _)
  have f1 : 0 ≤ 0 + ((-1) * τ 18542 + (1 * τ 1000001 + 0)) := hf _ (List.Mem.tail _ (List.Mem.head _))
  have f2 : 0 ≤ (-1) + (1 * τ 133 + 0) := hf _ (List.Mem.tail _ (List.Mem.tail _ (List.Mem.head _)))
  have f3 : 0 ≤ 11 + ((-1) * τ 134 + 0) := hf _ (List.Mem.tail _ (List.Mem.tail _ (List.Mem.tail _ (List.Mem.head _))))
  have f4 : 0 ≤ (-4) + (1 * τ 19001 + 0) := hf _ (List.Mem.tail _ (List.Mem.tail _ (List.Mem.tail _ (List.Mem.tail _ (List.Mem.head _)))))
  have f5 : 0 ≤ 4 + ((-1) * τ 19001 + 0) := hf _ (List.Mem.tail _ (List.Mem.tail _ (List.Mem.tail _ (List.Mem.tail _ (List.Mem.tail _ (List.Mem.head _))))))
  have f6 : 0 ≤ (-6) + (1 * τ 19002 + 0) := hf _ (List.Mem.tail _ (List.Mem.tail _ (List.Mem.tail _ (List.Mem.tail _ (List.Mem.tail _ (List.Mem.tail _ (List.Mem.head _)))))))
  have f7 : 0 ≤ 6 + ((-1) * τ 19002 + 0) := hf _ (List.Mem.tail _ (List.Mem.tail _ (List.Mem.tail _ (List.Mem.tail _ (List.Mem.tail _ (List.Mem.tail _ (List.Mem.tail _ (List.Mem.head _))))))))
  have f8 : 0 ≤ 0 + ((-1) * τ 19003 + 0) := hf _ (List.Mem.tail _ (List.Mem.tail _ (List.Mem.tail _ (List.Mem.tail _ (List.Mem.tail _ (List.Mem.tail _ (List.Mem.tail _ (List.Mem.tail _ (List.Mem.head _)))))))))
  have f9 : 0 ≤ 0 + (1 * τ 1000000 + ((-1) * τ 1000002 + 0)) := hf _ (List.Mem.tail _ (List.Mem.tail _ (List.Mem.tail _ (List.Mem.tail _ (List.Mem.tail _ (List.Mem.tail _ (List.Mem.tail _ (List.Mem.tail _ (List.Mem.tail _ (List.Mem.head _))))))))))
  have f10 : 0 ≤ 0 + ((-1) * τ 1000000 + (1 * τ 1000002 + 0)) := hf _ (List.Mem.tail _ (List.Mem.tail _ (List.Mem.tail _ (List.Mem.tail _ (List.Mem.tail _ (List.Mem.tail _ (List.Mem.tail _ (List.Mem.tail _ (List.Mem.tail _ (List.Mem.tail _ (List.Mem.head _)))))))))))
  have f11 : 0 ≤ 0 + (1 * τ 1000001 + ((-1) * τ 1000003 + 0)) := hf _ (List.Mem.tail _ (List.Mem.tail _ (List.Mem.tail _ (List.Mem.tail _ (List.Mem.tail _ (List.Mem.tail _ (List.Mem.tail _ (List.Mem.tail _ (List.Mem.tail _ (List.Mem.tail _ (List.Mem.tail _ (List.Mem.head _))))))))))))
  have f12 : 0 ≤ 0 + ((-1) * τ 1000001 + (1 * τ 1000003 + 0)) := hf _ (List.Mem.tail _ (List.Mem.tail _ (List.Mem.tail _ (List.Mem.tail _ (List.Mem.tail _ (List.Mem.tail _ (List.Mem.tail _ (List.Mem.tail _ (List.Mem.tail _ (List.Mem.tail _ (List.Mem.tail _ (List.Mem.tail _ (List.Mem.head _)))))))))))))
  have f13 : 0 ≤ (-1) + ((-1) * τ 19001 + (1 * τ 19002 + 0)) := hf _ (List.Mem.tail _ (List.Mem.tail _ (List.Mem.tail _ (List.Mem.tail _ (List.Mem.tail _ (List.Mem.tail _ (List.Mem.tail _ (List.Mem.tail _ (List.Mem.tail _ (List.Mem.tail _ (List.Mem.tail _ (List.Mem.tail _ (List.Mem.tail _ (List.Mem.head _))))))))))))))
  have f14 : 0 ≤ (-1) + (1 * τ 133 + ((-1) * τ 19002 + 0)) := hf _ (List.Mem.tail _ (List.Mem.tail _ (List.Mem.tail _ (List.Mem.tail _ (List.Mem.tail _ (List.Mem.tail _ (List.Mem.tail _ (List.Mem.tail _ (List.Mem.tail _ (List.Mem.tail _ (List.Mem.tail _ (List.Mem.tail _ (List.Mem.tail _ (List.Mem.tail _ (List.Mem.head _)))))))))))))))
  have f15 : 0 ≤ (-1) + (1 * τ 133 + ((-1) * τ 19001 + 0)) := hf _ (List.Mem.tail _ (List.Mem.tail _ (List.Mem.tail _ (List.Mem.tail _ (List.Mem.tail _ (List.Mem.tail _ (List.Mem.tail _ (List.Mem.tail _ (List.Mem.tail _ (List.Mem.tail _ (List.Mem.tail _ (List.Mem.tail _ (List.Mem.tail _ (List.Mem.tail _ (List.Mem.tail _ (List.Mem.head _))))))))))))))))
  have m134 : σ' 134 = 1 + (1 * τ 134 + 0) := hm 134 (by decide)
  clear hf hm
  exact Or.inl ⟨by omega, ⟨by omega, by omega, by omega, by omega, by omega, by omega⟩, by omega⟩
theorem lw_mwx_128 {as : List rv_A} {σ σ' : Nat → Int} {o : rv_O} {x : Int32} {a1 a2 : Int} {τ : Nat → Int} (hx : o.1 = some (.inl x)) (h1 : lw_av as 1 = a1) (h2 : lw_av as 2 = a2) (hb : ∀ s, (sx_sr s).1 ≤ σ s ∧ σ s ≤ (sx_sr s).2) (hW : lw_W ([(18540, 64, 255), (18542, 16, 255), (18590, 64, 255), (18593, 16, 255)], [(0, [(18540, (-1)), (1000000, 1)]), (0, [(18542, (-1)), (1000001, 1)]), ((-1), [(133, 1)]), (11, [(134, (-1))]), ((-4), [(19001, 1)]), (4, [(19001, (-1))]), ((-6), [(19002, 1)]), (6, [(19002, (-1))]), (0, [(19003, (-1))]), (0, [(1000000, 1), (1000002, (-1))]), (0, [(1000000, (-1)), (1000002, 1)]), (0, [(1000001, 1), (1000003, (-1))]), (0, [(1000001, (-1)), (1000003, 1)]), ((-1), [(19001, 1), (19002, (-1))]), ((-1), [(133, 1), (19002, (-1))]), ((-1), [(133, 1), (19001, (-1))])], [(9, (0, [])), (134, (1, [(134, 1)])), (7048, ((-2), [])), (7049, ((-2), [])), (8069, (0, [])), (11396, ((-2), [])), (18540, (0, [(1000000, 1)])), (18542, (0, [(1000001, 1)])), (18588, (0, [(18540, 1)])), (18589, (64, [])), (18590, (0, [(1000002, 1)])), (18591, (0, [(18542, 1)])), (18592, (16, [])), (18593, (0, [(1000003, 1)])), (18594, (2, []))], some (false, (1, []))) as σ σ' τ o) : lw_mwx_C a1 a2 x.toInt σ σ' := by
  unfold lw_mwx_C
  have b133 : 0 ≤ σ 133 ∧ σ 133 ≤ 8 := by
    have h0 := hb 133
    rw [show sx_sr 133 = (0, 8) from by decide +kernel] at h0
    exact h0
  have b134 : 0 ≤ σ 134 ∧ σ 134 ≤ 12 := by
    have h0 := hb 134
    rw [show sx_sr 134 = (0, 12) from by decide +kernel] at h0
    exact h0
  obtain ⟨hs, ht, hf, hr, hm, hw⟩ := hW
  have e1 : τ 19001 = a1 := by rw [ht 19001 (by decide) (by decide)]; exact h1
  have e2 : τ 19002 = a2 := by rw [ht 19002 (by decide) (by decide)]; exact h2
  have s133 : τ 133 = σ 133 := hs 133 (by decide)
  have s134 : τ 134 = σ 134 := hs 134 (by decide)
  clear hs ht hb
  rw [hx] at hr
  obtain ⟨y, hy, hv⟩ := hr
  cases hy
  replace hv : x.toInt = 1 + 0 := hv
  have f0 : 0 ≤ 0 + ((-1) * τ 18540 + (1 * τ 1000000 + 0)) := hf _ (List.Mem.head _)
  have f1 : 0 ≤ 0 + ((-1) * τ 18542 + (1 * τ 1000001 + 0)) := hf _ (List.Mem.tail _ (List.Mem.head _))
  have f2 : 0 ≤ (-1) + (1 * τ 133 + 0) := hf _ (List.Mem.tail _ (List.Mem.tail _ (List.Mem.head _)))
  have f3 : 0 ≤ 11 + ((-1) * τ 134 + 0) := hf _ (List.Mem.tail _ (List.Mem.tail _ (List.Mem.tail _ (List.Mem.head _))))
  have f4 : 0 ≤ (-4) + (1 * τ 19001 + 0) := hf _ (List.Mem.tail _ (List.Mem.tail _ (List.Mem.tail _ (List.Mem.tail _ (List.Mem.head _)))))
  have f5 : 0 ≤ 4 + ((-1) * τ 19001 + 0) := hf _ (List.Mem.tail _ (List.Mem.tail _ (List.Mem.tail _ (List.Mem.tail _ (List.Mem.tail _ (List.Mem.head _))))))
  have f6 : 0 ≤ (-6) + (1 * τ 19002 + 0) := hf _ (List.Mem.tail _ (List.Mem.tail _ (List.Mem.tail _ (List.Mem.tail _ (List.Mem.tail _ (List.Mem.tail _ (List.Mem.head _)))))))
  have f7 : 0 ≤ 6 + ((-1) * τ 19002 + 0) := hf _ (List.Mem.tail _ (List.Mem.tail _ (List.Mem.tail _ (List.Mem.tail _ (List.Mem.tail _ (List.Mem.tail _ (List.Mem.tail _ (List.Mem.head _))))))))
  have f8 : 0 ≤ 0 + ((-1) * τ 19003 + 0) := hf _ (List.Mem.tail _ (List.Mem.tail _ (List.Mem.tail _ (List.Mem.tail _ (List.Mem.tail _ (List.Mem.tail _ (List.Mem.tail _ (List.Mem.tail _ (List.Mem.head _)))))))))
  have f9 : 0 ≤ 0 + (1 * τ 1000000 + ((-1) * τ 1000002 + 0)) := hf _ (List.Mem.tail _ (List.Mem.tail _ (List.Mem.tail _ (List.Mem.tail _ (List.Mem.tail _ (List.Mem.tail _ (List.Mem.tail _ (List.Mem.tail _ (List.Mem.tail _ (List.Mem.head _))))))))))
  have f10 : 0 ≤ 0 + ((-1) * τ 1000000 + (1 * τ 1000002 + 0)) := hf _ (List.Mem.tail _ (List.Mem.tail _ (List.Mem.tail _ (List.Mem.tail _ (List.Mem.tail _ (List.Mem.tail _ (List.Mem.tail _ (List.Mem.tail _ (List.Mem.tail _ (List.Mem.tail _ (List.Mem.head _)))))))))))
  have f11 : 0 ≤ 0 + (1 * τ 1000001 + ((-1) * τ 1000003 + 0)) := hf _ (List.Mem.tail _ (List.Mem.tail _ (List.Mem.tail _ (List.Mem.tail _ (List.Mem.tail _ (List.Mem.tail _ (List.Mem.tail _ (List.Mem.tail _ (List.Mem.tail _ (List.Mem.tail _ (List.Mem.tail _ (List.Mem.head _))))))))))))
  have f12 : 0 ≤ 0 + ((-1) * τ 1000001 + (1 * τ 1000003 + 0)) := hf _ (List.Mem.tail _ (List.Mem.tail _ (List.Mem.tail _ (List.Mem.tail _ (List.Mem.tail _ (List.Mem.tail _ (List.Mem.tail _ (List.Mem.tail _ (List.Mem.tail _ (List.Mem.tail _ (List.Mem.tail _ (List.Mem.tail _ (List.Mem.head _)))))))))))))
  have f13 : 0 ≤ (-1) + (1 * τ 19001 + ((-1) * τ 19002 + 0)) := hf _ (List.Mem.tail _ (List.Mem.tail _ (List.Mem.tail _ (List.Mem.tail _ (List.Mem.tail _ (List.Mem.tail _ (List.Mem.tail _ (List.Mem.tail _ (List.Mem.tail _ (List.Mem.tail _ (List.Mem.tail _ (List.Mem.tail _ (List.Mem.tail _ (List.Mem.head _))))))))))))))
  have f14 : 0 ≤ (-1) + (1 * τ 133 + ((-1) * τ 19002 + 0)) := hf _ (List.Mem.tail _ (List.Mem.tail _ (List.Mem.tail _ (List.Mem.tail _ (List.Mem.tail _ (List.Mem.tail _ (List.Mem.tail _ (List.Mem.tail _ (List.Mem.tail _ (List.Mem.tail _ (List.Mem.tail _ (List.Mem.tail _ (List.Mem.tail _ (List.Mem.tail _ (List.Mem.head _)))))))))))))))
  have f15 : 0 ≤ (-1) + (1 * τ 133 + ((-1) * τ 19001 + 0)) := hf _ (List.Mem.tail _ (List.Mem.tail _ (List.Mem.tail _ (List.Mem.tail _ (List.Mem.tail _ (List.Mem.tail _ (List.Mem.tail _ (List.Mem.tail _ (List.Mem.tail _ (List.Mem.tail _ (List.Mem.tail _ (List.Mem.tail _ (List.Mem.tail _ (List.Mem.tail _ (List.Mem.tail _ (List.Mem.head _))))))))))))))))
  have m134 : σ' 134 = 1 + (1 * τ 134 + 0) := hm 134 (by decide)
  clear hf hm
  exact Or.inl ⟨by omega, ⟨by omega, by omega, by omega, by omega, by omega, by omega⟩, by omega⟩
theorem lw_mwx_129 {as : List rv_A} {σ σ' : Nat → Int} {o : rv_O} {x : Int32} {a1 a2 : Int} {τ : Nat → Int} (hx : o.1 = some (.inl x)) (h1 : lw_av as 1 = a1) (h2 : lw_av as 2 = a2) (hb : ∀ s, (sx_sr s).1 ≤ σ s ∧ σ s ≤ (sx_sr s).2) (hW : lw_W ([(18548, 64, 255), (18550, 16, 255), (18590, 64, 255), (18593, 16, 255)], [(0, [(18548, (-1)), (1000000, 1)]), (0, [(18550, (-1)), (1000001, 1)]), ((-1), [(133, 1)]), (11, [(134, (-1))]), ((-4), [(19001, 1)]), (4, [(19001, (-1))]), ((-6), [(19002, 1)]), (6, [(19002, (-1))]), ((-1), [(19003, 1)]), (0, [(1000000, 1), (1000002, (-1))]), (0, [(1000000, (-1)), (1000002, 1)]), (0, [(1000001, 1), (1000003, (-1))]), (0, [(1000001, (-1)), (1000003, 1)]), ((-1), [(19001, (-1)), (19002, 1)]), ((-1), [(133, 1), (19002, (-1))]), ((-1), [(133, 1), (19001, (-1))])], [(9, (0, [])), (134, (1, [(134, 1)])), (7048, ((-2), [])), (7049, ((-2), [])), (8069, (0, [])), (11396, ((-2), [])), (18548, (0, [(1000000, 1)])), (18550, (0, [(1000001, 1)])), (18588, (0, [(18548, 1)])), (18589, (64, [])), (18590, (0, [(1000002, 1)])), (18591, (0, [(18550, 1)])), (18592, (16, [])), (18593, (0, [(1000003, 1)])), (18594, (2, []))], some (false, (1, []))) as σ σ' τ o) : lw_mwx_C a1 a2 x.toInt σ σ' := by
  unfold lw_mwx_C
  have b133 : 0 ≤ σ 133 ∧ σ 133 ≤ 8 := by
    have h0 := hb 133
    rw [show sx_sr 133 = (0, 8) from by decide +kernel] at h0
    exact h0
  have b134 : 0 ≤ σ 134 ∧ σ 134 ≤ 12 := by
    have h0 := hb 134
    rw [show sx_sr 134 = (0, 12) from by decide +kernel] at h0
    exact h0
  obtain ⟨hs, ht, hf, hr, hm, hw⟩ := hW
  have e1 : τ 19001 = a1 := by rw [ht 19001 (by decide) (by decide)]; exact h1
  have e2 : τ 19002 = a2 := by rw [ht 19002 (by decide) (by decide)]; exact h2
  have s133 : τ 133 = σ 133 := hs 133 (by decide)
  have s134 : τ 134 = σ 134 := hs 134 (by decide)
  clear hs ht hb
  rw [hx] at hr
  obtain ⟨y, hy, hv⟩ := hr
  cases hy
  replace hv : x.toInt = 1 + 0 := hv
  have f0 : 0 ≤ 0 + ((-1) * τ 18548 + (1 * τ 1000000 + 0)) := hf _ (List.Mem.head _)
  have f1 : 0 ≤ 0 + ((-1) * τ 18550 + (1 * τ 1000001 + 0)) := hf _ (List.Mem.tail _ (List.Mem.head _))
  have f2 : 0 ≤ (-1) + (1 * τ 133 + 0) := hf _ (List.Mem.tail _ (List.Mem.tail _ (List.Mem.head _)))
  have f3 : 0 ≤ 11 + ((-1) * τ 134 + 0) := hf _ (List.Mem.tail _ (List.Mem.tail _ (List.Mem.tail _ (List.Mem.head _))))
  have f4 : 0 ≤ (-4) + (1 * τ 19001 + 0) := hf _ (List.Mem.tail _ (List.Mem.tail _ (List.Mem.tail _ (List.Mem.tail _ (List.Mem.head _)))))
  have f5 : 0 ≤ 4 + ((-1) * τ 19001 + 0) := hf _ (List.Mem.tail _ (List.Mem.tail _ (List.Mem.tail _ (List.Mem.tail _ (List.Mem.tail _ (List.Mem.head _))))))
  have f6 : 0 ≤ (-6) + (1 * τ 19002 + 0) := hf _ (List.Mem.tail _ (List.Mem.tail _ (List.Mem.tail _ (List.Mem.tail _ (List.Mem.tail _ (List.Mem.tail _ (List.Mem.head _)))))))
  have f7 : 0 ≤ 6 + ((-1) * τ 19002 + 0) := hf _ (List.Mem.tail _ (List.Mem.tail _ (List.Mem.tail _ (List.Mem.tail _ (List.Mem.tail _ (List.Mem.tail _ (List.Mem.tail _ (List.Mem.head _))))))))
  have f8 : 0 ≤ (-1) + (1 * τ 19003 + 0) := hf _ (List.Mem.tail _ (List.Mem.tail _ (List.Mem.tail _ (List.Mem.tail _ (List.Mem.tail _ (List.Mem.tail _ (List.Mem.tail _ (List.Mem.tail _ (List.Mem.head _)))))))))
  have f9 : 0 ≤ 0 + (1 * τ 1000000 + ((-1) * τ 1000002 + 0)) := hf _ (List.Mem.tail _ (List.Mem.tail _ (List.Mem.tail _ (List.Mem.tail _ (List.Mem.tail _ (List.Mem.tail _ (List.Mem.tail _ (List.Mem.tail _ (List.Mem.tail _ (List.Mem.head _))))))))))
  have f10 : 0 ≤ 0 + ((-1) * τ 1000000 + (1 * τ 1000002 + 0)) := hf _ (List.Mem.tail _ (List.Mem.tail _ (List.Mem.tail _ (List.Mem.tail _ (List.Mem.tail _ (List.Mem.tail _ (List.Mem.tail _ (List.Mem.tail _ (List.Mem.tail _ (List.Mem.tail _ (List.Mem.head _)))))))))))
  have f11 : 0 ≤ 0 + (1 * τ 1000001 + ((-1) * τ 1000003 + 0)) := hf _ (List.Mem.tail _ (List.Mem.tail _ (List.Mem.tail _ (List.Mem.tail _ (List.Mem.tail _ (List.Mem.tail _ (List.Mem.tail _ (List.Mem.tail _ (List.Mem.tail _ (List.Mem.tail _ (List.Mem.tail _ (List.Mem.head _))))))))))))
  have f12 : 0 ≤ 0 + ((-1) * τ 1000001 + (1 * τ 1000003 + 0)) := hf _ (List.Mem.tail _ (List.Mem.tail _ (List.Mem.tail _ (List.Mem.tail _ (List.Mem.tail _ (List.Mem.tail _ (List.Mem.tail _ (List.Mem.tail _ (List.Mem.tail _ (List.Mem.tail _ (List.Mem.tail _ (List.Mem.tail _ (List.Mem.head _)))))))))))))
  have f13 : 0 ≤ (-1) + ((-1) * τ 19001 + (1 * τ 19002 + 0)) := hf _ (List.Mem.tail _ (List.Mem.tail _ (List.Mem.tail _ (List.Mem.tail _ (List.Mem.tail _ (List.Mem.tail _ (List.Mem.tail _ (List.Mem.tail _ (List.Mem.tail _ (List.Mem.tail _ (List.Mem.tail _ (List.Mem.tail _ (List.Mem.tail _ (List.Mem.head _))))))))))))))
  have f14 : 0 ≤ (-1) + (1 * τ 133 + ((-1) * τ 19002 + 0)) := hf _ (List.Mem.tail _ (List.Mem.tail _ (List.Mem.tail _ (List.Mem.tail _ (List.Mem.tail _ (List.Mem.tail _ (List.Mem.tail _ (List.Mem.tail _ (List.Mem.tail _ (List.Mem.tail _ (List.Mem.tail _ (List.Mem.tail _ (List.Mem.tail _ (List.Mem.tail _ (List.Mem.head _)))))))))))))))
  have f15 : 0 ≤ (-1) + (1 * τ 133 + ((-1) * τ 19001 + 0)) := hf _ (List.Mem.tail _ (List.Mem.tail _ (List.Mem.tail _ (List.Mem.tail _ (List.Mem.tail _ (List.Mem.tail _ (List.Mem.tail _ (List.Mem.tail _ (List.Mem.tail _ (List.Mem.tail _ (List.Mem.tail _ (List.Mem.tail _ (List.Mem.tail _ (List.Mem.tail _ (List.Mem.tail _ (List.Mem.head _))))))))))))))))
  have m134 : σ' 134 = 1 + (1 * τ 134 + 0) := hm 134 (by decide)
  clear hf hm
  exact Or.inl ⟨by omega, ⟨by omega, by omega, by omega, by omega, by omega, by omega⟩, by omega⟩
theorem lw_mwx_130 {as : List rv_A} {σ σ' : Nat → Int} {o : rv_O} {x : Int32} {a1 a2 : Int} {τ : Nat → Int} (hx : o.1 = some (.inl x)) (h1 : lw_av as 1 = a1) (h2 : lw_av as 2 = a2) (hb : ∀ s, (sx_sr s).1 ≤ σ s ∧ σ s ≤ (sx_sr s).2) (hW : lw_W ([(18548, 64, 255), (18550, 16, 255), (18590, 64, 255), (18593, 16, 255)], [(0, [(18548, (-1)), (1000000, 1)]), (0, [(18550, (-1)), (1000001, 1)]), ((-1), [(133, 1)]), (11, [(134, (-1))]), ((-4), [(19001, 1)]), (4, [(19001, (-1))]), ((-6), [(19002, 1)]), (6, [(19002, (-1))]), ((-1), [(19003, 1)]), (0, [(1000000, 1), (1000002, (-1))]), (0, [(1000000, (-1)), (1000002, 1)]), (0, [(1000001, 1), (1000003, (-1))]), (0, [(1000001, (-1)), (1000003, 1)]), ((-1), [(19001, 1), (19002, (-1))]), ((-1), [(133, 1), (19002, (-1))]), ((-1), [(133, 1), (19001, (-1))])], [(9, (0, [])), (134, (1, [(134, 1)])), (7048, ((-2), [])), (7049, ((-2), [])), (8069, (0, [])), (11396, ((-2), [])), (18548, (0, [(1000000, 1)])), (18550, (0, [(1000001, 1)])), (18588, (0, [(18548, 1)])), (18589, (64, [])), (18590, (0, [(1000002, 1)])), (18591, (0, [(18550, 1)])), (18592, (16, [])), (18593, (0, [(1000003, 1)])), (18594, (2, []))], some (false, (1, []))) as σ σ' τ o) : lw_mwx_C a1 a2 x.toInt σ σ' := by
  unfold lw_mwx_C
  have b133 : 0 ≤ σ 133 ∧ σ 133 ≤ 8 := by
    have h0 := hb 133
    rw [show sx_sr 133 = (0, 8) from by decide +kernel] at h0
    exact h0
  have b134 : 0 ≤ σ 134 ∧ σ 134 ≤ 12 := by
    have h0 := hb 134
    rw [show sx_sr 134 = (0, 12) from by decide +kernel] at h0
    exact h0
  obtain ⟨hs, ht, hf, hr, hm, hw⟩ := hW
  have e1 : τ 19001 = a1 := by rw [ht 19001 (by decide) (by decide)]; exact h1
  have e2 : τ 19002 = a2 := by rw [ht 19002 (by decide) (by decide)]; exact h2
  have s133 : τ 133 = σ 133 := hs 133 (by decide)
  have s134 : τ 134 = σ 134 := hs 134 (by decide)
  clear hs ht hb
  rw [hx] at hr
  obtain ⟨y, hy, hv⟩ := hr
  cases hy
  replace hv : x.toInt = 1 + 0 := hv
  have f0 : 0 ≤ 0 + ((-1) * τ 18548 + (1 * τ 1000000 + 0)) := hf _ (List.Mem.head _)
  have f1 : 0 ≤ 0 + ((-1) * τ 18550 + (1 * τ 1000001 + 0)) := hf _ (List.Mem.tail _ (List.Mem.head _))
  have f2 : 0 ≤ (-1) + (1 * τ 133 + 0) := hf _ (List.Mem.tail _ (List.Mem.tail _ (List.Mem.head _)))
  have f3 : 0 ≤ 11 + ((-1) * τ 134 + 0) := hf _ (List.Mem.tail _ (List.Mem.tail _ (List.Mem.tail _ (List.Mem.head _))))
  have f4 : 0 ≤ (-4) + (1 * τ 19001 + 0) := hf _ (List.Mem.tail _ (List.Mem.tail _ (List.Mem.tail _ (List.Mem.tail _ (List.Mem.head _)))))
  have f5 : 0 ≤ 4 + ((-1) * τ 19001 + 0) := hf _ (List.Mem.tail _ (List.Mem.tail _ (List.Mem.tail _ (List.Mem.tail _ (List.Mem.tail _ (List.Mem.head _))))))
  have f6 : 0 ≤ (-6) + (1 * τ 19002 + 0) := hf _ (List.Mem.tail _ (List.Mem.tail _ (List.Mem.tail _ (List.Mem.tail _ (List.Mem.tail _ (List.Mem.tail _ (List.Mem.head _)))))))
  have f7 : 0 ≤ 6 + ((-1) * τ 19002 + 0) := hf _ (List.Mem.tail _ (List.Mem.tail _ (List.Mem.tail _ (List.Mem.tail _ (List.Mem.tail _ (List.Mem.tail _ (List.Mem.tail _ (List.Mem.head _))))))))
  have f8 : 0 ≤ (-1) + (1 * τ 19003 + 0) := hf _ (List.Mem.tail _ (List.Mem.tail _ (List.Mem.tail _ (List.Mem.tail _ (List.Mem.tail _ (List.Mem.tail _ (List.Mem.tail _ (List.Mem.tail _ (List.Mem.head _)))))))))
  have f9 : 0 ≤ 0 + (1 * τ 1000000 + ((-1) * τ 1000002 + 0)) := hf _ (List.Mem.tail _ (List.Mem.tail _ (List.Mem.tail _ (List.Mem.tail _ (List.Mem.tail _ (List.Mem.tail _ (List.Mem.tail _ (List.Mem.tail _ (List.Mem.tail _ (List.Mem.head _))))))))))
  have f10 : 0 ≤ 0 + ((-1) * τ 1000000 + (1 * τ 1000002 + 0)) := hf _ (List.Mem.tail _ (List.Mem.tail _ (List.Mem.tail _ (List.Mem.tail _ (List.Mem.tail _ (List.Mem.tail _ (List.Mem.tail _ (List.Mem.tail _ (List.Mem.tail _ (List.Mem.tail _ (List.Mem.head _)))))))))))
  have f11 : 0 ≤ 0 + (1 * τ 1000001 + ((-1) * τ 1000003 + 0)) := hf _ (List.Mem.tail _ (List.Mem.tail _ (List.Mem.tail _ (List.Mem.tail _ (List.Mem.tail _ (List.Mem.tail _ (List.Mem.tail _ (List.Mem.tail _ (List.Mem.tail _ (List.Mem.tail _ (List.Mem.tail _ (List.Mem.head _))))))))))))
  have f12 : 0 ≤ 0 + ((-1) * τ 1000001 + (1 * τ 1000003 + 0)) := hf _ (List.Mem.tail _ (List.Mem.tail _ (List.Mem.tail _ (List.Mem.tail _ (List.Mem.tail _ (List.Mem.tail _ (List.Mem.tail _ (List.Mem.tail _ (List.Mem.tail _ (List.Mem.tail _ (List.Mem.tail _ (List.Mem.tail _ (List.Mem.head _)))))))))))))
  have f13 : 0 ≤ (-1) + (1 * τ 19001 + ((-1) * τ 19002 + 0)) := hf _ (List.Mem.tail _ (List.Mem.tail _ (List.Mem.tail _ (List.Mem.tail _ (List.Mem.tail _ (List.Mem.tail _ (List.Mem.tail _ (List.Mem.tail _ (List.Mem.tail _ (List.Mem.tail _ (List.Mem.tail _ (List.Mem.tail _ (List.Mem.tail _ (List.Mem.head _))))))))))))))
  have f14 : 0 ≤ (-1) + (1 * τ 133 + ((-1) * τ 19002 + 0)) := hf _ (List.Mem.tail _ (List.Mem.tail _ (List.Mem.tail _ (List.Mem.tail _ (List.Mem.tail _ (List.Mem.tail _ (List.Mem.tail _ (List.Mem.tail _ (List.Mem.tail _ (List.Mem.tail _ (List.Mem.tail _ (List.Mem.tail _ (List.Mem.tail _ (List.Mem.tail _ (List.Mem.head _)))))))))))))))
  have f15 : 0 ≤ (-1) + (1 * τ 133 + ((-1) * τ 19001 + 0)) := hf _ (List.Mem.tail _ (List.Mem.tail _ (List.Mem.tail _ (List.Mem.tail _ (List.Mem.tail _ (List.Mem.tail _ (List.Mem.tail _ (List.Mem.tail _ (List.Mem.tail _ (List.Mem.tail _ (List.Mem.tail _ (List.Mem.tail _ (List.Mem.tail _ (List.Mem.tail _ (List.Mem.tail _ (List.Mem.head _))))))))))))))))
  have m134 : σ' 134 = 1 + (1 * τ 134 + 0) := hm 134 (by decide)
  clear hf hm
  exact Or.inl ⟨by omega, ⟨by omega, by omega, by omega, by omega, by omega, by omega⟩, by omega⟩
theorem lw_mwx_131 {as : List rv_A} {σ σ' : Nat → Int} {o : rv_O} {x : Int32} {a1 a2 : Int} {τ : Nat → Int} (hx : o.1 = some (.inl x)) (h1 : lw_av as 1 = a1) (h2 : lw_av as 2 = a2) (hb : ∀ s, (sx_sr s).1 ≤ σ s ∧ σ s ≤ (sx_sr s).2) (hW : lw_W ([(18540, 128, 255), (18543, 16, 255), (18590, 128, 255), (18593, 16, 255)], [(0, [(18540, (-1)), (1000000, 1)]), (0, [(18543, (-1)), (1000001, 1)]), ((-1), [(133, 1)]), (11, [(134, (-1))]), ((-4), [(19001, 1)]), (4, [(19001, (-1))]), ((-7), [(19002, 1)]), (7, [(19002, (-1))]), (0, [(19003, (-1))]), (0, [(1000000, 1), (1000002, (-1))]), (0, [(1000000, (-1)), (1000002, 1)]), (0, [(1000001, 1), (1000003, (-1))]), (0, [(1000001, (-1)), (1000003, 1)]), ((-1), [(19001, (-1)), (19002, 1)]), ((-1), [(133, 1), (19002, (-1))]), ((-1), [(133, 1), (19001, (-1))])], [(9, (0, [])), (134, (1, [(134, 1)])), (7048, ((-2), [])), (7049, ((-2), [])), (8069, (0, [])), (11396, ((-2), [])), (18540, (0, [(1000000, 1)])), (18543, (0, [(1000001, 1)])), (18588, (0, [(18540, 1)])), (18589, (128, [])), (18590, (0, [(1000002, 1)])), (18591, (0, [(18543, 1)])), (18592, (16, [])), (18593, (0, [(1000003, 1)])), (18594, (2, []))], some (false, (1, []))) as σ σ' τ o) : lw_mwx_C a1 a2 x.toInt σ σ' := by
  unfold lw_mwx_C
  have b133 : 0 ≤ σ 133 ∧ σ 133 ≤ 8 := by
    have h0 := hb 133
    rw [show sx_sr 133 = (0, 8) from by decide +kernel] at h0
    exact h0
  have b134 : 0 ≤ σ 134 ∧ σ 134 ≤ 12 := by
    have h0 := hb 134
    rw [show sx_sr 134 = (0, 12) from by decide +kernel] at h0
    exact h0
  obtain ⟨hs, ht, hf, hr, hm, hw⟩ := hW
  have e1 : τ 19001 = a1 := by rw [ht 19001 (by decide) (by decide)]; exact h1
  have e2 : τ 19002 = a2 := by rw [ht 19002 (by decide) (by decide)]; exact h2
  have s133 : τ 133 = σ 133 := hs 133 (by decide)
  have s134 : τ 134 = σ 134 := hs 134 (by decide)
  clear hs ht hb
  rw [hx] at hr
  obtain ⟨y, hy, hv⟩ := hr
  cases hy
  replace hv : x.toInt = 1 + 0 := hv
  have f0 : 0 ≤ 0 + ((-1) * τ 18540 + (1 * τ 1000000 + 0)) := hf _ (List.Mem.head _)
  have f1 : 0 ≤ 0 + ((-1) * τ 18543 + (1 * τ 1000001 + 0)) := hf _ (List.Mem.tail _ (List.Mem.head _))
  have f2 : 0 ≤ (-1) + (1 * τ 133 + 0) := hf _ (List.Mem.tail _ (List.Mem.tail _ (List.Mem.head _)))
  have f3 : 0 ≤ 11 + ((-1) * τ 134 + 0) := hf _ (List.Mem.tail _ (List.Mem.tail _ (List.Mem.tail _ (List.Mem.head _))))
  have f4 : 0 ≤ (-4) + (1 * τ 19001 + 0) := hf _ (List.Mem.tail _ (List.Mem.tail _ (List.Mem.tail _ (List.Mem.tail _ (List.Mem.head _)))))
  have f5 : 0 ≤ 4 + ((-1) * τ 19001 + 0) := hf _ (List.Mem.tail _ (List.Mem.tail _ (List.Mem.tail _ (List.Mem.tail _ (List.Mem.tail _ (List.Mem.head _))))))
  have f6 : 0 ≤ (-7) + (1 * τ 19002 + 0) := hf _ (List.Mem.tail _ (List.Mem.tail _ (List.Mem.tail _ (List.Mem.tail _ (List.Mem.tail _ (List.Mem.tail _ (List.Mem.head _)))))))
  have f7 : 0 ≤ 7 + ((-1) * τ 19002 + 0) := hf _ (List.Mem.tail _ (List.Mem.tail _ (List.Mem.tail _ (List.Mem.tail _ (List.Mem.tail _ (List.Mem.tail _ (List.Mem.tail _ (List.Mem.head _))))))))
  have f8 : 0 ≤ 0 + ((-1) * τ 19003 + 0) := hf _ (List.Mem.tail _ (List.Mem.tail _ (List.Mem.tail _ (List.Mem.tail _ (List.Mem.tail _ (List.Mem.tail _ (List.Mem.tail _ (List.Mem.tail _ (List.Mem.head _)))))))))
  have f9 : 0 ≤ 0 + (1 * τ 1000000 + ((-1) * τ 1000002 + 0)) := hf _ (List.Mem.tail _ (List.Mem.tail _ (List.Mem.tail _ (List.Mem.tail _ (List.Mem.tail _ (List.Mem.tail _ (List.Mem.tail _ (List.Mem.tail _ (List.Mem.tail _ (List.Mem.head _))))))))))
  have f10 : 0 ≤ 0 + ((-1) * τ 1000000 + (1 * τ 1000002 + 0)) := hf _ (List.Mem.tail _ (List.Mem.tail _ (List.Mem.tail _ (List.Mem.tail _ (List.Mem.tail _ (List.Mem.tail _ (List.Mem.tail _ (List.Mem.tail _ (List.Mem.tail _ (List.Mem.tail _ (List.Mem.head _)))))))))))
  have f11 : 0 ≤ 0 + (1 * τ 1000001 + ((-1) * τ 1000003 + 0)) := hf _ (List.Mem.tail _ (List.Mem.tail _ (List.Mem.tail _ (List.Mem.tail _ (List.Mem.tail _ (List.Mem.tail _ (List.Mem.tail _ (List.Mem.tail _ (List.Mem.tail _ (List.Mem.tail _ (List.Mem.tail _ (List.Mem.head _))))))))))))
  have f12 : 0 ≤ 0 + ((-1) * τ 1000001 + (1 * τ 1000003 + 0)) := hf _ (List.Mem.tail _ (List.Mem.tail _ (List.Mem.tail _ (List.Mem.tail _ (List.Mem.tail _ (List.Mem.tail _ (List.Mem.tail _ (List.Mem.tail _ (List.Mem.tail _ (List.Mem.tail _ (List.Mem.tail _ (List.Mem.tail _ (List.Mem.head _)))))))))))))
  have f13 : 0 ≤ (-1) + ((-1) * τ 19001 + (1 * τ 19002 + 0)) := hf _ (List.Mem.tail _ (List.Mem.tail _ (List.Mem.tail _ (List.Mem.tail _ (List.Mem.tail _ (List.Mem.tail _ (List.Mem.tail _ (List.Mem.tail _ (List.Mem.tail _ (List.Mem.tail _ (List.Mem.tail _ (List.Mem.tail _ (List.Mem.tail _ (List.Mem.head _))))))))))))))
  have f14 : 0 ≤ (-1) + (1 * τ 133 + ((-1) * τ 19002 + 0)) := hf _ (List.Mem.tail _ (List.Mem.tail _ (List.Mem.tail _ (List.Mem.tail _ (List.Mem.tail _ (List.Mem.tail _ (List.Mem.tail _ (List.Mem.tail _ (List.Mem.tail _ (List.Mem.tail _ (List.Mem.tail _ (List.Mem.tail _ (List.Mem.tail _ (List.Mem.tail _ (List.Mem.head _)))))))))))))))
  have f15 : 0 ≤ (-1) + (1 * τ 133 + ((-1) * τ 19001 + 0)) := hf _ (List.Mem.tail _ (List.Mem.tail _ (List.Mem.tail _ (List.Mem.tail _ (List.Mem.tail _ (List.Mem.tail _ (List.Mem.tail _ (List.Mem.tail _ (List.Mem.tail _ (List.Mem.tail _ (List.Mem.tail _ (List.Mem.tail _ (List.Mem.tail _ (List.Mem.tail _ (List.Mem.tail _ (List.Mem.head _))))))))))))))))
  have m134 : σ' 134 = 1 + (1 * τ 134 + 0) := hm 134 (by decide)
  clear hf hm
  exact Or.inl ⟨by omega, ⟨by omega, by omega, by omega, by omega, by omega, by omega⟩, by omega⟩
theorem lw_mwx_132 {as : List rv_A} {σ σ' : Nat → Int} {o : rv_O} {x : Int32} {a1 a2 : Int} {τ : Nat → Int} (hx : o.1 = some (.inl x)) (h1 : lw_av as 1 = a1) (h2 : lw_av as 2 = a2) (hb : ∀ s, (sx_sr s).1 ≤ σ s ∧ σ s ≤ (sx_sr s).2) (hW : lw_W ([(18548, 128, 255), (18551, 16, 255), (18590, 128, 255), (18593, 16, 255)], [(0, [(18548, (-1)), (1000000, 1)]), (0, [(18551, (-1)), (1000001, 1)]), ((-1), [(133, 1)]), (11, [(134, (-1))]), ((-4), [(19001, 1)]), (4, [(19001, (-1))]), ((-7), [(19002, 1)]), (7, [(19002, (-1))]), ((-1), [(19003, 1)]), (0, [(1000000, 1), (1000002, (-1))]), (0, [(1000000, (-1)), (1000002, 1)]), (0, [(1000001, 1), (1000003, (-1))]), (0, [(1000001, (-1)), (1000003, 1)]), ((-1), [(19001, (-1)), (19002, 1)]), ((-1), [(133, 1), (19002, (-1))]), ((-1), [(133, 1), (19001, (-1))])], [(9, (0, [])), (134, (1, [(134, 1)])), (7048, ((-2), [])), (7049, ((-2), [])), (8069, (0, [])), (11396, ((-2), [])), (18548, (0, [(1000000, 1)])), (18551, (0, [(1000001, 1)])), (18588, (0, [(18548, 1)])), (18589, (128, [])), (18590, (0, [(1000002, 1)])), (18591, (0, [(18551, 1)])), (18592, (16, [])), (18593, (0, [(1000003, 1)])), (18594, (2, []))], some (false, (1, []))) as σ σ' τ o) : lw_mwx_C a1 a2 x.toInt σ σ' := by
  unfold lw_mwx_C
  have b133 : 0 ≤ σ 133 ∧ σ 133 ≤ 8 := by
    have h0 := hb 133
    rw [show sx_sr 133 = (0, 8) from by decide +kernel] at h0
    exact h0
  have b134 : 0 ≤ σ 134 ∧ σ 134 ≤ 12 := by
    have h0 := hb 134
    rw [show sx_sr 134 = (0, 12) from by decide +kernel] at h0
    exact h0
  obtain ⟨hs, ht, hf, hr, hm, hw⟩ := hW
  have e1 : τ 19001 = a1 := by rw [ht 19001 (by decide) (by decide)]; exact h1
  have e2 : τ 19002 = a2 := by rw [ht 19002 (by decide) (by decide)]; exact h2
  have s133 : τ 133 = σ 133 := hs 133 (by decide)
  have s134 : τ 134 = σ 134 := hs 134 (by decide)
  clear hs ht hb
  rw [hx] at hr
  obtain ⟨y, hy, hv⟩ := hr
  cases hy
  replace hv : x.toInt = 1 + 0 := hv
  have f0 : 0 ≤ 0 + ((-1) * τ 18548 + (1 * τ 1000000 + 0)) := hf _ (List.Mem.head _)
  have f1 : 0 ≤ 0 + ((-1) * τ 18551 + (1 * τ 1000001 + 0)) := hf _ (List.Mem.tail _ (List.Mem.head _))
  have f2 : 0 ≤ (-1) + (1 * τ 133 + 0) := hf _ (List.Mem.tail _ (List.Mem.tail _ (List.Mem.head _)))
  have f3 : 0 ≤ 11 + ((-1) * τ 134 + 0) := hf _ (List.Mem.tail _ (List.Mem.tail _ (List.Mem.tail _ (List.Mem.head _))))
  have f4 : 0 ≤ (-4) + (1 * τ 19001 + 0) := hf _ (List.Mem.tail _ (List.Mem.tail _ (List.Mem.tail _ (List.Mem.tail _ (List.Mem.head _)))))
  have f5 : 0 ≤ 4 + ((-1) * τ 19001 + 0) := hf _ (List.Mem.tail _ (List.Mem.tail _ (List.Mem.tail _ (List.Mem.tail _ (List.Mem.tail _ (List.Mem.head _))))))
  have f6 : 0 ≤ (-7) + (1 * τ 19002 + 0) := hf _ (List.Mem.tail _ (List.Mem.tail _ (List.Mem.tail _ (List.Mem.tail _ (List.Mem.tail _ (List.Mem.tail _ (List.Mem.head _)))))))
  have f7 : 0 ≤ 7 + ((-1) * τ 19002 + 0) := hf _ (List.Mem.tail _ (List.Mem.tail _ (List.Mem.tail _ (List.Mem.tail _ (List.Mem.tail _ (List.Mem.tail _ (List.Mem.tail _ (List.Mem.head _))))))))
  have f8 : 0 ≤ (-1) + (1 * τ 19003 + 0) := hf _ (List.Mem.tail _ (List.Mem.tail _ (List.Mem.tail _ (List.Mem.tail _ (List.Mem.tail _ (List.Mem.tail _ (List.Mem.tail _ (List.Mem.tail _ (List.Mem.head _)))))))))
  have f9 : 0 ≤ 0 + (1 * τ 1000000 + ((-1) * τ 1000002 + 0)) := hf _ (List.Mem.tail _ (List.Mem.tail _ (List.Mem.tail _ (List.Mem.tail _ (List.Mem.tail _ (List.Mem.tail _ (List.Mem.tail _ (List.Mem.tail _ (List.Mem.tail _ (List.Mem.head _))))))))))
  have f10 : 0 ≤ 0 + ((-1) * τ 1000000 + (1 * τ 1000002 + 0)) := hf _ (List.Mem.tail _ (List.Mem.tail _ (List.Mem.tail _ (List.Mem.tail _ (List.Mem.tail _ (List.Mem.tail _ (List.Mem.tail _ (List.Mem.tail _ (List.Mem.tail _ (List.Mem.tail _ (List.Mem.head _)))))))))))
  have f11 : 0 ≤ 0 + (1 * τ 1000001 + ((-1) * τ 1000003 + 0)) := hf _ (List.Mem.tail _ (List.Mem.tail _ (List.Mem.tail _ (List.Mem.tail _ (List.Mem.tail _ (List.Mem.tail _ (List.Mem.tail _ (List.Mem.tail _ (List.Mem.tail _ (List.Mem.tail _ (List.Mem.tail _ (List.Mem.head _))))))))))))
  have f12 : 0 ≤ 0 + ((-1) * τ 1000001 + (1 * τ 1000003 + 0)) := hf _ (List.Mem.tail _ (List.Mem.tail _ (List.Mem.tail _ (List.Mem.tail _ (List.Mem.tail _ (List.Mem.tail _ (List.Mem.tail _ (List.Mem.tail _ (List.Mem.tail _ (List.Mem.tail _ (List.Mem.tail _ (List.Mem.tail _ (List.Mem.head _)))))))))))))
  have f13 : 0 ≤ (-1) + ((-1) * τ 19001 + (1 * τ 19002 + 0)) := hf _ (List.Mem.tail _ (List.Mem.tail _ (List.Mem.tail _ (List.Mem.tail _ (List.Mem.tail _ (List.Mem.tail _ (List.Mem.tail _ (List.Mem.tail _ (List.Mem.tail _ (List.Mem.tail _ (List.Mem.tail _ (List.Mem.tail _ (List.Mem.tail _ (List.Mem.head _))))))))))))))
  have f14 : 0 ≤ (-1) + (1 * τ 133 + ((-1) * τ 19002 + 0)) := hf _ (List.Mem.tail _ (List.Mem.tail _ (List.Mem.tail _ (List.Mem.tail _ (List.Mem.tail _ (List.Mem.tail _ (List.Mem.tail _ (List.Mem.tail _ (List.Mem.tail _ (List.Mem.tail _ (List.Mem.tail _ (List.Mem.tail _ (List.Mem.tail _ (List.Mem.tail _ (List.Mem.head _)))))))))))))))
  have f15 : 0 ≤ (-1) + (1 * τ 133 + ((-1) * τ 19001 + 0)) := hf _ (List.Mem.tail _ (List.Mem.tail _ (List.Mem.tail _ (List.Mem.tail _ (List.Mem.tail _ (List.Mem.tail _ (List.Mem.tail _ (List.Mem.tail _ (List.Mem.tail _ (List.Mem.tail _ (List.Mem.tail _ (List.Mem.tail _ (List.Mem.tail _ (List.Mem.tail _ (List.Mem.tail _ (List.Mem.head _))))))))))))))))
  have m134 : σ' 134 = 1 + (1 * τ 134 + 0) := hm 134 (by decide)
  clear hf hm
  exact Or.inl ⟨by omega, ⟨by omega, by omega, by omega, by omega, by omega, by omega⟩, by omega⟩
theorem lw_mwx_133 {as : List rv_A} {σ σ' : Nat → Int} {o : rv_O} {x : Int32} {a1 a2 : Int} {τ : Nat → Int} (hx : o.1 = some (.inl x)) (h1 : lw_av as 1 = a1) (h2 : lw_av as 2 = a2) (hb : ∀ s, (sx_sr s).1 ≤ σ s ∧ σ s ≤ (sx_sr s).2) (hW : lw_W ([(18536, 32, 255), (18541, 1, 255), (18590, 1, 255), (18593, 32, 255)], [(0, [(18536, (-1)), (1000000, 1)]), (0, [(18541, (-1)), (1000001, 1)]), ((-1), [(133, 1)]), (11, [(134, (-1))]), ((-5), [(19001, 1)]), (5, [(19001, (-1))]), (0, [(19002, 1)]), (0, [(19002, (-1))]), (0, [(19003, (-1))]), (0, [(1000000, 1), (1000003, (-1))]), (0, [(1000000, (-1)), (1000003, 1)]), (0, [(1000001, 1), (1000002, (-1))]), (0, [(1000001, (-1)), (1000002, 1)]), ((-1), [(19001, 1), (19002, (-1))]), ((-1), [(133, 1), (19002, (-1))]), ((-1), [(133, 1), (19001, (-1))])], [(9, (0, [])), (134, (1, [(134, 1)])), (7048, ((-2), [])), (7049, ((-2), [])), (8069, (0, [])), (11396, ((-2), [])), (18536, (0, [(1000000, 1)])), (18541, (0, [(1000001, 1)])), (18588, (0, [(18541, 1)])), (18589, (1, [])), (18590, (0, [(1000002, 1)])), (18591, (0, [(18536, 1)])), (18592, (32, [])), (18593, (0, [(1000003, 1)])), (18594, (2, []))], some (false, (1, []))) as σ σ' τ o) : lw_mwx_C a1 a2 x.toInt σ σ' := by
  unfold lw_mwx_C
  have b133 : 0 ≤ σ 133 ∧ σ 133 ≤ 8 := by
    have h0 := hb 133
    rw [show sx_sr 133 = (0, 8) from by decide +kernel] at h0
    exact h0
  have b134 : 0 ≤ σ 134 ∧ σ 134 ≤ 12 := by
    have h0 := hb 134
    rw [show sx_sr 134 = (0, 12) from by decide +kernel] at h0
    exact h0
  obtain ⟨hs, ht, hf, hr, hm, hw⟩ := hW
  have e1 : τ 19001 = a1 := by rw [ht 19001 (by decide) (by decide)]; exact h1
  have e2 : τ 19002 = a2 := by rw [ht 19002 (by decide) (by decide)]; exact h2
  have s133 : τ 133 = σ 133 := hs 133 (by decide)
  have s134 : τ 134 = σ 134 := hs 134 (by decide)
  clear hs ht hb
  rw [hx] at hr
  obtain ⟨y, hy, hv⟩ := hr
  cases hy
  replace hv : x.toInt = 1 + 0 := hv
  have f0 : 0 ≤ 0 + ((-1) * τ 18536 + (1 * τ 1000000 + 0)) := hf _ (List.Mem.head _)
  have f1 : 0 ≤ 0 + ((-1) * τ 18541 + (1 * τ 1000001 + 0)) := hf _ (List.Mem.tail _ (List.Mem.head _))
  have f2 : 0 ≤ (-1) + (1 * τ 133 + 0) := hf _ (List.Mem.tail _ (List.Mem.tail _ (List.Mem.head _)))
  have f3 : 0 ≤ 11 + ((-1) * τ 134 + 0) := hf _ (List.Mem.tail _ (List.Mem.tail _ (List.Mem.tail _ (List.Mem.head _))))
  have f4 : 0 ≤ (-5) + (1 * τ 19001 + 0) := hf _ (List.Mem.tail _ (List.Mem.tail _ (List.Mem.tail _ (List.Mem.tail _ (List.Mem.head _)))))
  have f5 : 0 ≤ 5 + ((-1) * τ 19001 + 0) := hf _ (List.Mem.tail _ (List.Mem.tail _ (List.Mem.tail _ (List.Mem.tail _ (List.Mem.tail _ (List.Mem.head _))))))
  have f6 : 0 ≤ 0 + (1 * τ 19002 + 0) := hf _ (List.Mem.tail _ (List.Mem.tail _ (List.Mem.tail _ (List.Mem.tail _ (List.Mem.tail _ (List.Mem.tail _ (List.Mem.head _)))))))
  have f7 : 0 ≤ 0 + ((-1) * τ 19002 + 0) := hf _ (List.Mem.tail _ (List.Mem.tail _ (List.Mem.tail _ (List.Mem.tail _ (List.Mem.tail _ (List.Mem.tail _ (List.Mem.tail _ (List.Mem.head _))))))))
  have f8 : 0 ≤ 0 + ((-1) * τ 19003 + 0) := hf _ (List.Mem.tail _ (List.Mem.tail _ (List.Mem.tail _ (List.Mem.tail _ (List.Mem.tail _ (List.Mem.tail _ (List.Mem.tail _ (List.Mem.tail _ (List.Mem.head _)))))))))
  have f9 : 0 ≤ 0 + (1 * τ 1000000 + ((-1) * τ 1000003 + 0)) := hf _ (List.Mem.tail _ (List.Mem.tail _ (List.Mem.tail _ (List.Mem.tail _ (List.Mem.tail _ (List.Mem.tail _ (List.Mem.tail _ (List.Mem.tail _ (List.Mem.tail _ (List.Mem.head _))))))))))
  have f10 : 0 ≤ 0 + ((-1) * τ 1000000 + (1 * τ 1000003 + 0)) := hf _ (List.Mem.tail _ (List.Mem.tail _ (List.Mem.tail _ (List.Mem.tail _ (List.Mem.tail _ (List.Mem.tail _ (List.Mem.tail _ (List.Mem.tail _ (List.Mem.tail _ (List.Mem.tail _ (List.Mem.head _)))))))))))
  have f11 : 0 ≤ 0 + (1 * τ 1000001 + ((-1) * τ 1000002 + 0)) := hf _ (List.Mem.tail _ (List.Mem.tail _ (List.Mem.tail _ (List.Mem.tail _ (List.Mem.tail _ (List.Mem.tail _ (List.Mem.tail _ (List.Mem.tail _ (List.Mem.tail _ (List.Mem.tail _ (List.Mem.tail _ (List.Mem.head _))))))))))))
  have f12 : 0 ≤ 0 + ((-1) * τ 1000001 + (1 * τ 1000002 + 0)) := hf _ (List.Mem.tail _ (List.Mem.tail _ (List.Mem.tail _ (List.Mem.tail _ (List.Mem.tail _ (List.Mem.tail _ (List.Mem.tail _ (List.Mem.tail _ (List.Mem.tail _ (List.Mem.tail _ (List.Mem.tail _ (List.Mem.tail _ (List.Mem.head _)))))))))))))
  have f13 : 0 ≤ (-1) + (1 * τ 19001 + ((-1) * τ 19002 + 0)) := hf _ (List.Mem.tail _ (List.Mem.tail _ (List.Mem.tail _ (List.Mem.tail _ (List.Mem.tail _ (List.Mem.tail _ (List.Mem.tail _ (List.Mem.tail _ (List.Mem.tail _ (List.Mem.tail _ (List.Mem.tail _ (List.Mem.tail _ (List.Mem.tail _ (List.Mem.head _))))))))))))))
  have f14 : 0 ≤ (-1) + (1 * τ 133 + ((-1) * τ 19002 + 0)) := hf _ (List.Mem.tail _ (List.Mem.tail _ (List.Mem.tail _ (List.Mem.tail _ (List.Mem.tail _ (List.Mem.tail _ (List.Mem.tail _ (List.Mem.tail _ (List.Mem.tail _ (List.Mem.tail _ (List.Mem.tail _ (List.Mem.tail _ (List.Mem.tail _ (List.Mem.tail _ (List.Mem.head _)))))))))))))))
  have f15 : 0 ≤ (-1) + (1 * τ 133 + ((-1) * τ 19001 + 0)) := hf _ (List.Mem.tail _ (List.Mem.tail _ (List.Mem.tail _ (List.Mem.tail _ (List.Mem.tail _ (List.Mem.tail _ (List.Mem.tail _ (List.Mem.tail _ (List.Mem.tail _ (List.Mem.tail _ (List.Mem.tail _ (List.Mem.tail _ (List.Mem.tail _ (List.Mem.tail _ (List.Mem.tail _ (List.Mem.head _))))))))))))))))
  have m134 : σ' 134 = 1 + (1 * τ 134 + 0) := hm 134 (by decide)
  clear hf hm
  exact Or.inl ⟨by omega, ⟨by omega, by omega, by omega, by omega, by omega, by omega⟩, by omega⟩
theorem lw_mwx_134 {as : List rv_A} {σ σ' : Nat → Int} {o : rv_O} {x : Int32} {a1 a2 : Int} {τ : Nat → Int} (hx : o.1 = some (.inl x)) (h1 : lw_av as 1 = a1) (h2 : lw_av as 2 = a2) (hb : ∀ s, (sx_sr s).1 ≤ σ s ∧ σ s ≤ (sx_sr s).2) (hW : lw_W ([(18544, 32, 255), (18549, 1, 255), (18590, 1, 255), (18593, 32, 255)], [(0, [(18544, (-1)), (1000000, 1)]), (0, [(18549, (-1)), (1000001, 1)]), ((-1), [(133, 1)]), (11, [(134, (-1))]), ((-5), [(19001, 1)]), (5, [(19001, (-1))]), (0, [(19002, 1)]), (0, [(19002, (-1))]), ((-1), [(19003, 1)]), (0, [(1000000, 1), (1000003, (-1))]), (0, [(1000000, (-1)), (1000003, 1)]), (0, [(1000001, 1), (1000002, (-1))]), (0, [(1000001, (-1)), (1000002, 1)]), ((-1), [(19001, 1), (19002, (-1))]), ((-1), [(133, 1), (19002, (-1))]), ((-1), [(133, 1), (19001, (-1))])], [(9, (0, [])), (134, (1, [(134, 1)])), (7048, ((-2), [])), (7049, ((-2), [])), (8069, (0, [])), (11396, ((-2), [])), (18544, (0, [(1000000, 1)])), (18549, (0, [(1000001, 1)])), (18588, (0, [(18549, 1)])), (18589, (1, [])), (18590, (0, [(1000002, 1)])), (18591, (0, [(18544, 1)])), (18592, (32, [])), (18593, (0, [(1000003, 1)])), (18594, (2, []))], some (false, (1, []))) as σ σ' τ o) : lw_mwx_C a1 a2 x.toInt σ σ' := by
  unfold lw_mwx_C
  have b133 : 0 ≤ σ 133 ∧ σ 133 ≤ 8 := by
    have h0 := hb 133
    rw [show sx_sr 133 = (0, 8) from by decide +kernel] at h0
    exact h0
  have b134 : 0 ≤ σ 134 ∧ σ 134 ≤ 12 := by
    have h0 := hb 134
    rw [show sx_sr 134 = (0, 12) from by decide +kernel] at h0
    exact h0
  obtain ⟨hs, ht, hf, hr, hm, hw⟩ := hW
  have e1 : τ 19001 = a1 := by rw [ht 19001 (by decide) (by decide)]; exact h1
  have e2 : τ 19002 = a2 := by rw [ht 19002 (by decide) (by decide)]; exact h2
  have s133 : τ 133 = σ 133 := hs 133 (by decide)
  have s134 : τ 134 = σ 134 := hs 134 (by decide)
  clear hs ht hb
  rw [hx] at hr
  obtain ⟨y, hy, hv⟩ := hr
  cases hy
  replace hv : x.toInt = 1 + 0 := hv
  have f0 : 0 ≤ 0 + ((-1) * τ 18544 + (1 * τ 1000000 + 0)) := hf _ (List.Mem.head _)
  have f1 : 0 ≤ 0 + ((-1) * τ 18549 + (1 * τ 1000001 + 0)) := hf _ (List.Mem.tail _ (List.Mem.head _))
  have f2 : 0 ≤ (-1) + (1 * τ 133 + 0) := hf _ (List.Mem.tail _ (List.Mem.tail _ (List.Mem.head _)))
  have f3 : 0 ≤ 11 + ((-1) * τ 134 + 0) := hf _ (List.Mem.tail _ (List.Mem.tail _ (List.Mem.tail _ (List.Mem.head _))))
  have f4 : 0 ≤ (-5) + (1 * τ 19001 + 0) := hf _ (List.Mem.tail _ (List.Mem.tail _ (List.Mem.tail _ (List.Mem.tail _ (List.Mem.head _)))))
  have f5 : 0 ≤ 5 + ((-1) * τ 19001 + 0) := hf _ (List.Mem.tail _ (List.Mem.tail _ (List.Mem.tail _ (List.Mem.tail _ (List.Mem.tail _ (List.Mem.head _))))))
  have f6 : 0 ≤ 0 + (1 * τ 19002 + 0) := hf _ (List.Mem.tail _ (List.Mem.tail _ (List.Mem.tail _ (List.Mem.tail _ (List.Mem.tail _ (List.Mem.tail _ (List.Mem.head _)))))))
  have f7 : 0 ≤ 0 + ((-1) * τ 19002 + 0) := hf _ (List.Mem.tail _ (List.Mem.tail _ (List.Mem.tail _ (List.Mem.tail _ (List.Mem.tail _ (List.Mem.tail _ (List.Mem.tail _ (List.Mem.head _))))))))
  have f8 : 0 ≤ (-1) + (1 * τ 19003 + 0) := hf _ (List.Mem.tail _ (List.Mem.tail _ (List.Mem.tail _ (List.Mem.tail _ (List.Mem.tail _ (List.Mem.tail _ (List.Mem.tail _ (List.Mem.tail _ (List.Mem.head _)))))))))
  have f9 : 0 ≤ 0 + (1 * τ 1000000 + ((-1) * τ 1000003 + 0)) := hf _ (List.Mem.tail _ (List.Mem.tail _ (List.Mem.tail _ (List.Mem.tail _ (List.Mem.tail _ (List.Mem.tail _ (List.Mem.tail _ (List.Mem.tail _ (List.Mem.tail _ (List.Mem.head _))))))))))
  have f10 : 0 ≤ 0 + ((-1) * τ 1000000 + (1 * τ 1000003 + 0)) := hf _ (List.Mem.tail _ (List.Mem.tail _ (List.Mem.tail _ (List.Mem.tail _ (List.Mem.tail _ (List.Mem.tail _ (List.Mem.tail _ (List.Mem.tail _ (List.Mem.tail _ (List.Mem.tail _ (List.Mem.head _)))))))))))
  have f11 : 0 ≤ 0 + (1 * τ 1000001 + ((-1) * τ 1000002 + 0)) := hf _ (List.Mem.tail _ (List.Mem.tail _ (List.Mem.tail _ (List.Mem.tail _ (List.Mem.tail _ (List.Mem.tail _ (List.Mem.tail _ (List.Mem.tail _ (List.Mem.tail _ (List.Mem.tail _ (List.Mem.tail _ (List.Mem.head _))))))))))))
  have f12 : 0 ≤ 0 + ((-1) * τ 1000001 + (1 * τ 1000002 + 0)) := hf _ (List.Mem.tail _ (List.Mem.tail _ (List.Mem.tail _ (List.Mem.tail _ (List.Mem.tail _ (List.Mem.tail _ (List.Mem.tail _ (List.Mem.tail _ (List.Mem.tail _ (List.Mem.tail _ (List.Mem.tail _ (List.Mem.tail _ (List.Mem.head _)))))))))))))
  have f13 : 0 ≤ (-1) + (1 * τ 19001 + ((-1) * τ 19002 + 0)) := hf _ (List.Mem.tail _ (List.Mem.tail _ (List.Mem.tail _ (List.Mem.tail _ (List.Mem.tail _ (List.Mem.tail _ (List.Mem.tail _ (List.Mem.tail _ (List.Mem.tail _ (List.Mem.tail _ (List.Mem.tail _ (List.Mem.tail _ (List.Mem.tail _ (List.Mem.head _))))))))))))))
  have f14 : 0 ≤ (-1) + (1 * τ 133 + ((-1) * τ 19002 + 0)) := hf _ (List.Mem.tail _ (List.Mem.tail _ (List.Mem.tail _ (List.Mem.tail _ (List.Mem.tail _ (List.Mem.tail _ (List.Mem.tail _ (List.Mem.tail _ (List.Mem.tail _ (List.Mem.tail _ (List.Mem.tail _ (List.Mem.tail _ (List.Mem.tail _ (List.Mem.tail _ (List.Mem.head _)))))))))))))))
  have f15 : 0 ≤ (-1) + (1 * τ 133 + ((-1) * τ 19001 + 0)) := hf _ (List.Mem.tail _ (List.Mem.tail _ (List.Mem.tail _ (List.Mem.tail _ (List.Mem.tail _ (List.Mem.tail _ (List.Mem.tail _ (List.Mem.tail _ (List.Mem.tail _ (List.Mem.tail _ (List.Mem.tail _ (List.Mem.tail _ (List.Mem.tail _ (List.Mem.tail _ (List.Mem.tail _ (List.Mem.head _))))))))))))))))
  have m134 : σ' 134 = 1 + (1 * τ 134 + 0) := hm 134 (by decide)
  clear hf hm
  exact Or.inl ⟨by omega, ⟨by omega, by omega, by omega, by omega, by omega, by omega⟩, by omega⟩
theorem lw_mwx_135 {as : List rv_A} {σ σ' : Nat → Int} {o : rv_O} {x : Int32} {a1 a2 : Int} {τ : Nat → Int} (hx : o.1 = some (.inl x)) (h1 : lw_av as 1 = a1) (h2 : lw_av as 2 = a2) (hb : ∀ s, (sx_sr s).1 ≤ σ s ∧ σ s ≤ (sx_sr s).2) (hW : lw_W ([(18537, 32, 255), (18541, 2, 255), (18590, 2, 255), (18593, 32, 255)], [(0, [(18537, (-1)), (1000000, 1)]), (0, [(18541, (-1)), (1000001, 1)]), ((-1), [(133, 1)]), (11, [(134, (-1))]), ((-5), [(19001, 1)]), (5, [(19001, (-1))]), ((-1), [(19002, 1)]), (1, [(19002, (-1))]), (0, [(19003, (-1))]), (0, [(1000000, 1), (1000003, (-1))]), (0, [(1000000, (-1)), (1000003, 1)]), (0, [(1000001, 1), (1000002, (-1))]), (0, [(1000001, (-1)), (1000002, 1)]), ((-1), [(19001, (-1)), (19002, 1)]), ((-1), [(133, 1), (19002, (-1))]), ((-1), [(133, 1), (19001, (-1))])], [(9, (0, [])), (134, (1, [(134, 1)])), (7048, ((-2), [])), (7049, ((-2), [])), (8069, (0, [])), (11396, ((-2), [])), (18537, (0, [(1000000, 1)])), (18541, (0, [(1000001, 1)])), (18588, (0, [(18541, 1)])), (18589, (2, [])), (18590, (0, [(1000002, 1)])), (18591, (0, [(18537, 1)])), (18592, (32, [])), (18593, (0, [(1000003, 1)])), (18594, (2, []))], some (false, (1, []))) as σ σ' τ o) : lw_mwx_C a1 a2 x.toInt σ σ' := by
  unfold lw_mwx_C
  have b133 : 0 ≤ σ 133 ∧ σ 133 ≤ 8 := by
    have h0 := hb 133
    rw [show sx_sr 133 = (0, 8) from by decide +kernel] at h0
    exact h0
  have b134 : 0 ≤ σ 134 ∧ σ 134 ≤ 12 := by
    have h0 := hb 134
    rw [show sx_sr 134 = (0, 12) from by decide +kernel] at h0
    exact h0
  obtain ⟨hs, ht, hf, hr, hm, hw⟩ := hW
  have e1 : τ 19001 = a1 := by rw [ht 19001 (by decide) (by decide)]; exact h1
  have e2 : τ 19002 = a2 := by rw [ht 19002 (by decide) (by decide)]; exact h2
  have s133 : τ 133 = σ 133 := hs 133 (by decide)
  have s134 : τ 134 = σ 134 := hs 134 (by decide)
  clear hs ht hb
  rw [hx] at hr
  obtain ⟨y, hy, hv⟩ := hr
  cases hy
  replace hv : x.toInt = 1 + 0 := hv
  have f0 : 0 ≤ 0 + ((-1) * τ 18537 + (1 * τ 1000000 + 0)) := hf _ (List.Mem.head _)
  have f1 : 0 ≤ 0 + ((-1) * τ 18541 + (1 * τ 1000001 + 0)) := hf _ (List.Mem.tail _ (List.Mem.head _))
  have f2 : 0 ≤ (-1) + (1 * τ 133 + 0) := hf _ (List.Mem.tail _ (List.Mem.tail _ (List.Mem.head _)))
  have f3 : 0 ≤ 11 + ((-1) * τ 134 + 0) := hf _ (List.Mem.tail _ (List.Mem.tail _ (List.Mem.tail _ (List.Mem.head _))))
  have f4 : 0 ≤ (-5) + (1 * τ 19001 + 0) := hf _ (List.Mem.tail _ (List.Mem.tail _ (List.Mem.tail _ (List.Mem.tail _ (List.Mem.head _)))))
  have f5 : 0 ≤ 5 + ((-1) * τ 19001 + 0) := hf _ (List.Mem.tail _ (List.Mem.tail _ (List.Mem.tail _ (List.Mem.tail _ (List.Mem.tail _ (List.Mem.head _))))))
  have f6 : 0 ≤ (-1) + (1 * τ 19002 + 0) := hf _ (List.Mem.tail _ (List.Mem.tail _ (List.Mem.tail _ (List.Mem.tail _ (List.Mem.tail _ (List.Mem.tail _ (List.Mem.head _)))))))
  have f7 : 0 ≤ 1 + ((-1) * τ 19002 + 0) := hf _ (List.Mem.tail _ (List.Mem.tail _ (List.Mem.tail _ (List.Mem.tail _ (List.Mem.tail _ (List.Mem.tail _ (List.Mem.tail _ (List.Mem.head _))))))))
  have f8 : 0 ≤ 0 + ((-1) * τ 19003 + 0) := hf _ (List.Mem.tail _ (List.Mem.tail _ (List.Mem.tail _ (List.Mem.tail _ (List.Mem.tail _ (List.Mem.tail _ (List.Mem.tail _ (List.Mem.tail _ (List.Mem.head _)))))))))
  have f9 : 0 ≤ 0 + (1 * τ 1000000 + ((-1) * τ 1000003 + 0)) := hf _ (List.Mem.tail _ (List.Mem.tail _ (List.Mem.tail _ (List.Mem.tail _ (List.Mem.tail _ (List.Mem.tail _ (List.Mem.tail _ (List.Mem.tail _ (List.Mem.tail _ (List.Mem.head _))))))))))
  have f10 : 0 ≤ 0 + ((-1) * τ 1000000 + (1 * τ 1000003 + 0)) := hf _ (List.Mem.tail _ (List.Mem.tail _ (List.Mem.tail _ (List.Mem.tail _ (List.Mem.tail _ (List.Mem.tail _ (List.Mem.tail _ (List.Mem.tail _ (List.Mem.tail _ (List.Mem.tail _ (List.Mem.head _)))))))))))
  have f11 : 0 ≤ 0 + (1 * τ 1000001 + ((-1) * τ 1000002 + 0)) := hf _ (List.Mem.tail _ (List.Mem.tail _ (List.Mem.tail _ (List.Mem.tail _ (List.Mem.tail _ (List.Mem.tail _ (List.Mem.tail _ (List.Mem.tail _ (List.Mem.tail _ (List.Mem.tail _ (List.Mem.tail _ (List.Mem.head _))))))))))))
  have f12 : 0 ≤ 0 + ((-1) * τ 1000001 + (1 * τ 1000002 + 0)) := hf _ (List.Mem.tail _ (List.Mem.tail _ (List.Mem.tail _ (List.Mem.tail _ (List.Mem.tail _ (List.Mem.tail _ (List.Mem.tail _ (List.Mem.tail _ (List.Mem.tail _ (List.Mem.tail _ (List.Mem.tail _ (List.Mem.tail _ (List.Mem.head _)))))))))))))
  have f13 : 0 ≤ (-1) + ((-1) * τ 19001 + (1 * τ 19002 + 0)) := hf _ (List.Mem.tail _ (List.Mem.tail _ (List.Mem.tail _ (List.Mem.tail _ (List.Mem.tail _ (List.Mem.tail _ (List.Mem.tail _ (List.Mem.tail _ (List.Mem.tail _ (List.Mem.tail _ (List.Mem.tail _ (List.Mem.tail _ (List.Mem.tail _ (List.Mem.head _))))))))))))))
  have f14 : 0 ≤ (-1) + (1 * τ 133 + ((-1) * τ 19002 + 0)) := hf _ (List.Mem.tail _ (List.Mem.tail _ (List.Mem.tail _ (List.Mem.tail _ (List.Mem.tail _ (List.Mem.tail _ (List.Mem.tail _ (List.Mem.tail _ (List.Mem.tail _ (List.Mem.tail _ (List.Mem.tail _ (List.Mem.tail _ (List.Mem.tail _ (List.Mem.tail _ (List.Mem.head _)))))))))))))))
  have f15 : 0 ≤ (-1) + (1 * τ 133 + ((-1) * τ 19001 + 0)) := hf _ (List.Mem.tail _ (List.Mem.tail _ (List.Mem.tail _ (List.Mem.tail _ (List.Mem.tail _ (List.Mem.tail _ (List.Mem.tail _ (List.Mem.tail _ (List.Mem.tail _ (List.Mem.tail _ (List.Mem.tail _ (List.Mem.tail _ (List.Mem.tail _ (List.Mem.tail _ (List.Mem.tail _ (List.Mem.head _))))))))))))))))
  have m134 : σ' 134 = 1 + (1 * τ 134 + 0) := hm 134 (by decide)
  clear hf hm
  exact Or.inl ⟨by omega, ⟨by omega, by omega, by omega, by omega, by omega, by omega⟩, by omega⟩
theorem lw_mwx_136 {as : List rv_A} {σ σ' : Nat → Int} {o : rv_O} {x : Int32} {a1 a2 : Int} {τ : Nat → Int} (hx : o.1 = some (.inl x)) (h1 : lw_av as 1 = a1) (h2 : lw_av as 2 = a2) (hb : ∀ s, (sx_sr s).1 ≤ σ s ∧ σ s ≤ (sx_sr s).2) (hW : lw_W ([(18537, 32, 255), (18541, 2, 255), (18590, 2, 255), (18593, 32, 255)], [(0, [(18537, (-1)), (1000000, 1)]), (0, [(18541, (-1)), (1000001, 1)]), ((-1), [(133, 1)]), (11, [(134, (-1))]), ((-5), [(19001, 1)]), (5, [(19001, (-1))]), ((-1), [(19002, 1)]), (1, [(19002, (-1))]), (0, [(19003, (-1))]), (0, [(1000000, 1), (1000003, (-1))]), (0, [(1000000, (-1)), (1000003, 1)]), (0, [(1000001, 1), (1000002, (-1))]), (0, [(1000001, (-1)), (1000002, 1)]), ((-1), [(19001, 1), (19002, (-1))]), ((-1), [(133, 1), (19002, (-1))]), ((-1), [(133, 1), (19001, (-1))])], [(9, (0, [])), (134, (1, [(134, 1)])), (7048, ((-2), [])), (7049, ((-2), [])), (8069, (0, [])), (11396, ((-2), [])), (18537, (0, [(1000000, 1)])), (18541, (0, [(1000001, 1)])), (18588, (0, [(18541, 1)])), (18589, (2, [])), (18590, (0, [(1000002, 1)])), (18591, (0, [(18537, 1)])), (18592, (32, [])), (18593, (0, [(1000003, 1)])), (18594, (2, []))], some (false, (1, []))) as σ σ' τ o) : lw_mwx_C a1 a2 x.toInt σ σ' := by
  unfold lw_mwx_C
  have b133 : 0 ≤ σ 133 ∧ σ 133 ≤ 8 := by
    have h0 := hb 133
    rw [show sx_sr 133 = (0, 8) from by decide +kernel] at h0
    exact h0
  have b134 : 0 ≤ σ 134 ∧ σ 134 ≤ 12 := by
    have h0 := hb 134
    rw [show sx_sr 134 = (0, 12) from by decide +kernel] at h0
    exact h0
  obtain ⟨hs, ht, hf, hr, hm, hw⟩ := hW
  have e1 : τ 19001 = a1 := by rw [ht 19001 (by decide) (by decide)]; exact h1
  have e2 : τ 19002 = a2 := by rw [ht 19002 (by decide) (by decide)]; exact h2
  have s133 : τ 133 = σ 133 := hs 133 (by decide)
  have s134 : τ 134 = σ 134 := hs 134 (by decide)
  clear hs ht hb
  rw [hx] at hr
  obtain ⟨y, hy, hv⟩ := hr
  cases hy
  replace hv : x.toInt = 1 + 0 := hv
  have f0 : 0 ≤ 0 + ((-1) * τ 18537 + (1 * τ 1000000 + 0)) := hf _ (List.Mem.head _)
  have f1 : 0 ≤ 0 + ((-1) * τ 18541 + (1 * τ 1000001 + 0)) := hf _ (List.Mem.tail _ (List.Mem.head _))
  have f2 : 0 ≤ (-1) + (1 * τ 133 + 0) := hf _ (List.Mem.tail _ (List.Mem.tail _ (List.Mem.head _)))
  have f3 : 0 ≤ 11 + ((-1) * τ 134 + 0) := hf _ (List.Mem.tail _ (List.Mem.tail _ (List.Mem.tail _ (List.Mem.head _))))
  have f4 : 0 ≤ (-5) + (1 * τ 19001 + 0) := hf _ (List.Mem.tail _ (List.Mem.tail _ (List.Mem.tail _ (List.Mem.tail _ (List.Mem.head _)))))
  have f5 : 0 ≤ 5 + ((-1) * τ 19001 + 0) := hf _ (List.Mem.tail _ (List.Mem.tail _ (List.Mem.tail _ (List.Mem.tail _ (List.Mem.tail _ (List.Mem.head _))))))
  have f6 : 0 ≤ (-1) + (1 * τ 19002 + 0) := hf _ (List.Mem.tail _ (List.Mem.tail _ (List.Mem.tail _ (List.Mem.tail _ (List.Mem.tail _ (List.Mem.tail _ (List.Mem.head _)))))))
  have f7 : 0 ≤ 1 + ((-1) * τ 19002 + 0) := hf _ (List.Mem.tail _ (List.Mem.tail _ (List.Mem.tail _ (List.Mem.tail _ (List.Mem.tail _ (List.Mem.tail _ (List.Mem.tail _ (List.Mem.head _))))))))
  have f8 : 0 ≤ 0 + ((-1) * τ 19003 + 0) := hf _ (List.Mem.tail _ (List.Mem.tail _ (List.Mem.tail _ (List.Mem.tail _ (List.Mem.tail _ (List.Mem.tail _ (List.Mem.tail _ (List.Mem.tail _ (List.Mem.head _)))))))))
  have f9 : 0 ≤ 0 + (1 * τ 1000000 + ((-1) * τ 1000003 + 0)) := hf _ (List.Mem.tail _ (List.Mem.tail _ (List.Mem.tail _ (List.Mem.tail _ (List.Mem.tail _ (List.Mem.tail _ (List.Mem.tail _ (List.Mem.tail _ (List.Mem.tail _ (List.Mem.head _))))))))))
  have f10 : 0 ≤ 0 + ((-1) * τ 1000000 + (1 * τ 1000003 + 0)) := hf _ (List.Mem.tail _ (List.Mem.tail _ (List.Mem.tail _ (List.Mem.tail _ (List.Mem.tail _ (List.Mem.tail _ (List.Mem.tail _ (List.Mem.tail _ (List.Mem.tail _ (List.Mem.tail _ (List.Mem.head _)))))))))))
  have f11 : 0 ≤ 0 + (1 * τ 1000001 + ((-1) * τ 1000002 + 0)) := hf _ (List.Mem.tail _ (List.Mem.tail _ (List.Mem.tail _ (List.Mem.tail _ (List.Mem.tail _ (List.Mem.tail _ (List.Mem.tail _ (List.Mem.tail _ (List.Mem.tail _ (List.Mem.tail _ (List.Mem.tail _ (List.Mem.head _))))))))))))
  have f12 : 0 ≤ 0 + ((-1) * τ 1000001 + (1 * τ 1000002 + 0)) := hf _ (List.Mem.tail _ (List.Mem.tail _ (List.Mem.tail _ (List.Mem.tail _ (List.Mem.tail _ (List.Mem.tail _ (List.Mem.tail _ (List.Mem.tail _ (List.Mem.tail _ (List.Mem.tail _ (List.Mem.tail _ (List.Mem.tail _ (List.Mem.head _)))))))))))))
  have f13 : 0 ≤ (-1) + (1 * τ 19001 + ((-1) * τ 19002 + 0)) := hf _ (List.Mem.tail _ (List.Mem.tail _ (List.Mem.tail _ (List.Mem.tail _ (List.Mem.tail _ (List.Mem.tail _ (List.Mem.tail _ (List.Mem.tail _ (List.Mem.tail _ (List.Mem.tail _ (List.Mem.tail _ (List.Mem.tail _ (List.Mem.tail _ (List.Mem.head _))))))))))))))
  have f14 : 0 ≤ (-1) + (1 * τ 133 + ((-1) * τ 19002 + 0)) := hf _ (List.Mem.tail _ (List.Mem.tail _ (List.Mem.tail _ (List.Mem.tail _ (List.Mem.tail _ (List.Mem.tail _ (List.Mem.tail _ (List.Mem.tail _ (List.Mem.tail _ (List.Mem.tail _ (List.Mem.tail _ (List.Mem.tail _ (List.Mem.tail _ (List.Mem.tail _ (List.Mem.head _)))))))))))))))
  have f15 : 0 ≤ (-1) + (1 * τ 133 + ((-1) * τ 19001 + 0)) := hf _ (List.Mem.tail _ (List.Mem.tail _ (List.Mem.tail _ (List.Mem.tail _ (List.Mem.tail _ (List.Mem.tail _ (List.Mem.tail _ (List.Mem.tail _ (List.Mem.tail _ (List.Mem.tail _ (List.Mem.tail _ (List.Mem.tail _ (List.Mem.tail _ (List.Mem.tail _ (List.Mem.tail _ (List.Mem.head _))))))))))))))))
  have m134 : σ' 134 = 1 + (1 * τ 134 + 0) := hm 134 (by decide)
  clear hf hm
  exact Or.inl ⟨by omega, ⟨by omega, by omega, by omega, by omega, by omega, by omega⟩, by omega⟩
theorem lw_mwx_137 {as : List rv_A} {σ σ' : Nat → Int} {o : rv_O} {x : Int32} {a1 a2 : Int} {τ : Nat → Int} (hx : o.1 = some (.inl x)) (h1 : lw_av as 1 = a1) (h2 : lw_av as 2 = a2) (hb : ∀ s, (sx_sr s).1 ≤ σ s ∧ σ s ≤ (sx_sr s).2) (hW : lw_W ([(18545, 32, 255), (18549, 2, 255), (18590, 2, 255), (18593, 32, 255)], [(0, [(18545, (-1)), (1000000, 1)]), (0, [(18549, (-1)), (1000001, 1)]), ((-1), [(133, 1)]), (11, [(134, (-1))]), ((-5), [(19001, 1)]), (5, [(19001, (-1))]), ((-1), [(19002, 1)]), (1, [(19002, (-1))]), ((-1), [(19003, 1)]), (0, [(1000000, 1), (1000003, (-1))]), (0, [(1000000, (-1)), (1000003, 1)]), (0, [(1000001, 1), (1000002, (-1))]), (0, [(1000001, (-1)), (1000002, 1)]), ((-1), [(19001, (-1)), (19002, 1)]), ((-1), [(133, 1), (19002, (-1))]), ((-1), [(133, 1), (19001, (-1))])], [(9, (0, [])), (134, (1, [(134, 1)])), (7048, ((-2), [])), (7049, ((-2), [])), (8069, (0, [])), (11396, ((-2), [])), (18545, (0, [(1000000, 1)])), (18549, (0, [(1000001, 1)])), (18588, (0, [(18549, 1)])), (18589, (2, [])), (18590, (0, [(1000002, 1)])), (18591, (0, [(18545, 1)])), (18592, (32, [])), (18593, (0, [(1000003, 1)])), (18594, (2, []))], some (false, (1, []))) as σ σ' τ o) : lw_mwx_C a1 a2 x.toInt σ σ' := by
  unfold lw_mwx_C
  have b133 : 0 ≤ σ 133 ∧ σ 133 ≤ 8 := by
    have h0 := hb 133
    rw [show sx_sr 133 = (0, 8) from by decide +kernel] at h0
    exact h0
  have b134 : 0 ≤ σ 134 ∧ σ 134 ≤ 12 := by
    have h0 := hb 134
    rw [show sx_sr 134 = (0, 12) from by decide +kernel] at h0
    exact h0
  obtain ⟨hs, ht, hf, hr, hm, hw⟩ := hW
  have e1 : τ 19001 = a1 := by rw [ht 19001 (by decide) (by decide)]; exact h1
  have e2 : τ 19002 = a2 := by rw [ht 19002 (by decide) (by decide)]; exact h2
  have s133 : τ 133 = σ 133 := hs 133 (by decide)
  have s134 : τ 134 = σ 134 := hs 134 (by decide)
  clear hs ht hb
  rw [hx] at hr
  obtain ⟨y, hy, hv⟩ := hr
  cases hy
  replace hv : x.toInt = 1 + 0 := hv
  have f0 : 0 ≤ 0 + ((-1) * τ 18545 + (1 * τ 1000000 + 0)) := hf _ (List.Mem.head _)
  have f1 : 0 ≤ 0 + ((-1) * τ 18549 + (1 * τ 1000001 + 0)) := hf _ (List.Mem.tail _ (List.Mem.head _))
  have f2 : 0 ≤ (-1) + (1 * τ 133 + 0) := hf _ (List.Mem.tail _ (List.Mem.tail _ (List.Mem.head _)))
  have f3 : 0 ≤ 11 + ((-1) * τ 134 + 0) := hf _ (List.Mem.tail _ (List.Mem.tail _ (List.Mem.tail _ (List.Mem.head _))))
  have f4 : 0 ≤ (-5) + (1 * τ 19001 + 0) := hf _ (List.Mem.tail _ (List.Mem.tail _ (List.Mem.tail _ (List.Mem.tail _ (List.Mem.head _)))))
  have f5 : 0 ≤ 5 + ((-1) * τ 19001 + 0) := hf _ (List.Mem.tail _ (List.Mem.tail _ (List.Mem.tail _ (List.Mem.tail _ (List.Mem.tail _ (List.Mem.head _))))))
  have f6 : 0 ≤ (-1) + (1 * τ 19002 + 0) := hf _ (List.Mem.tail _ (List.Mem.tail _ (List.Mem.tail _ (List.Mem.tail _ (List.Mem.tail _ (List.Mem.tail _ (List.Mem.head _)))))))
  have f7 : 0 ≤ 1 + ((-1) * τ 19002 + 0) := hf _ (List.Mem.tail _ (List.Mem.tail _ (List.Mem.tail _ (List.Mem.tail _ (List.Mem.tail _ (List.Mem.tail _ (List.Mem.tail _ (List.Mem.head _))))))))
  have f8 : 0 ≤ (-1) + (1 * τ 19003 + 0) := hf _ (List.Mem.tail _ (List.Mem.tail _ (List.Mem.tail _ (List.Mem.tail _ (List.Mem.tail _ (List.Mem.tail _ (List.Mem.tail _ (List.Mem.tail _ (List.Mem.head _)))))))))
  have f9 : 0 ≤ 0 + (1 * τ 1000000 + ((-1) * τ 1000003 + 0)) := hf _ (List.Mem.tail _ (List.Mem.tail _ (List.Mem.tail _ (List.Mem.tail _ (List.Mem.tail _ (List.Mem.tail _ (List.Mem.tail _ (List.Mem.tail _ (List.Mem.tail _ (List.Mem.head _))))))))))
  have f10 : 0 ≤ 0 + ((-1) * τ 1000000 + (1 * τ 1000003 + 0)) := hf _ (List.Mem.tail _ (List.Mem.tail _ (List.Mem.tail _ (List.Mem.tail _ (List.Mem.tail _ (List.Mem.tail _ (List.Mem.tail _ (List.Mem.tail _ (List.Mem.tail _ (List.Mem.tail _ (List.Mem.head _)))))))))))
  have f11 : 0 ≤ 0 + (1 * τ 1000001 + ((-1) * τ 1000002 + 0)) := hf _ (List.Mem.tail _ (List.Mem.tail _ (List.Mem.tail _ (List.Mem.tail _ (List.Mem.tail _ (List.Mem.tail _ (List.Mem.tail _ (List.Mem.tail _ (List.Mem.tail _ (List.Mem.tail _ (List.Mem.tail _ (List.Mem.head _))))))))))))
  have f12 : 0 ≤ 0 + ((-1) * τ 1000001 + (1 * τ 1000002 + 0)) := hf _ (List.Mem.tail _ (List.Mem.tail _ (List.Mem.tail _ (List.Mem.tail _ (List.Mem.tail _ (List.Mem.tail _ (List.Mem.tail _ (List.Mem.tail _ (List.Mem.tail _ (List.Mem.tail _ (List.Mem.tail _ (List.Mem.tail _ (List.Mem.head _)))))))))))))
  have f13 : 0 ≤ (-1) + ((-1) * τ 19001 + (1 * τ 19002 + 0)) := hf _ (List.Mem.tail _ (List.Mem.tail _ (List.Mem.tail _ (List.Mem.tail _ (List.Mem.tail _ (List.Mem.tail _ (List.Mem.tail _ (List.Mem.tail _ (List.Mem.tail _ (List.Mem.tail _ (List.Mem.tail _ (List.Mem.tail _ (List.Mem.tail _ (List.Mem.head _))))))))))))))
  have f14 : 0 ≤ (-1) + (1 * τ 133 + ((-1) * τ 19002 + 0)) := hf _ (List.Mem.tail _ (List.Mem.tail _ (List.Mem.tail _ (List.Mem.tail _ (List.Mem.tail _ (List.Mem.tail _ (List.Mem.tail _ (List.Mem.tail _ (List.Mem.tail _ (List.Mem.tail _ (List.Mem.tail _ (List.Mem.tail _ (List.Mem.tail _ (List.Mem.tail _ (List.Mem.head _)))))))))))))))
  have f15 : 0 ≤ (-1) + (1 * τ 133 + ((-1) * τ 19001 + 0)) := hf _ (List.Mem.tail _ (List.Mem.tail _ (List.Mem.tail _ (List.Mem.tail _ (List.Mem.tail _ (List.Mem.tail _ (List.Mem.tail _ (List.Mem.tail _ (List.Mem.tail _ (List.Mem.tail _ (List.Mem.tail _ (List.Mem.tail _ (List.Mem.tail _ (List.Mem.tail _ (List.Mem.tail _ (List.Mem.head _))))))))))))))))
  have m134 : σ' 134 = 1 + (1 * τ 134 + 0) := hm 134 (by decide)
  clear hf hm
  exact Or.inl ⟨by omega, ⟨by omega, by omega, by omega, by omega, by omega, by omega⟩, by omega⟩
theorem lw_mwx_138 {as : List rv_A} {σ σ' : Nat → Int} {o : rv_O} {x : Int32} {a1 a2 : Int} {τ : Nat → Int} (hx : o.1 = some (.inl x)) (h1 : lw_av as 1 = a1) (h2 : lw_av as 2 = a2) (hb : ∀ s, (sx_sr s).1 ≤ σ s ∧ σ s ≤ (sx_sr s).2) (hW : lw_W ([(18545, 32, 255), (18549, 2, 255), (18590, 2, 255), (18593, 32, 255)], [(0, [(18545, (-1)), (1000000, 1)]), (0, [(18549, (-1)), (1000001, 1)]), ((-1), [(133, 1)]), (11, [(134, (-1))]), ((-5), [(19001, 1)]), (5, [(19001, (-1))]), ((-1), [(19002, 1)]), (1, [(19002, (-1))]), ((-1), [(19003, 1)]), (0, [(1000000, 1), (1000003, (-1))]), (0, [(1000000, (-1)), (1000003, 1)]), (0, [(1000001, 1), (1000002, (-1))]), (0, [(1000001, (-1)), (1000002, 1)]), ((-1), [(19001, 1), (19002, (-1))]), ((-1), [(133, 1), (19002, (-1))]), ((-1), [(133, 1), (19001, (-1))])], [(9, (0, [])), (134, (1, [(134, 1)])), (7048, ((-2), [])), (7049, ((-2), [])), (8069, (0, [])), (11396, ((-2), [])), (18545, (0, [(1000000, 1)])), (18549, (0, [(1000001, 1)])), (18588, (0, [(18549, 1)])), (18589, (2, [])), (18590, (0, [(1000002, 1)])), (18591, (0, [(18545, 1)])), (18592, (32, [])), (18593, (0, [(1000003, 1)])), (18594, (2, []))], some (false, (1, []))) as σ σ' τ o) : lw_mwx_C a1 a2 x.toInt σ σ' := by
  unfold lw_mwx_C
  have b133 : 0 ≤ σ 133 ∧ σ 133 ≤ 8 := by
    have h0 := hb 133
    rw [show sx_sr 133 = (0, 8) from by decide +kernel] at h0
    exact h0
  have b134 : 0 ≤ σ 134 ∧ σ 134 ≤ 12 := by
    have h0 := hb 134
    rw [show sx_sr 134 = (0, 12) from by decide +kernel] at h0
    exact h0
  obtain ⟨hs, ht, hf, hr, hm, hw⟩ := hW
  have e1 : τ 19001 = a1 := by rw [ht 19001 (by decide) (by decide)]; exact h1
  have e2 : τ 19002 = a2 := by rw [ht 19002 (by decide) (by decide)]; exact h2
  have s133 : τ 133 = σ 133 := hs 133 (by decide)
  have s134 : τ 134 = σ 134 := hs 134 (by decide)
  clear hs ht hb
  rw [hx] at hr
  obtain ⟨y, hy, hv⟩ := hr
  cases hy
  replace hv : x.toInt = 1 + 0 := hv
  have f0 : 0 ≤ 0 + ((-1) * τ 18545 + (1 * τ 1000000 + 0)) := hf _ (List.Mem.head _)
  have f1 : 0 ≤ 0 + ((-1) * τ 18549 + (1 * τ 1000001 + 0)) := hf _ (List.Mem.tail _ (List.Mem.head _))
  have f2 : 0 ≤ (-1) + (1 * τ 133 + 0) := hf _ (List.Mem.tail _ (List.Mem.tail _ (List.Mem.head _)))
  have f3 : 0 ≤ 11 + ((-1) * τ 134 + 0) := hf _ (List.Mem.tail _ (List.Mem.tail _ (List.Mem.tail _ (List.Mem.head _))))
  have f4 : 0 ≤ (-5) + (1 * τ 19001 + 0) := hf _ (List.Mem.tail _ (List.Mem.tail _ (List.Mem.tail _ (List.Mem.tail _ (List.Mem.head _)))))
  have f5 : 0 ≤ 5 + ((-1) * τ 19001 + 0) := hf _ (List.Mem.tail _ (List.Mem.tail _ (List.Mem.tail _ (List.Mem.tail _ (List.Mem.tail _ (List.Mem.head _))))))
  have f6 : 0 ≤ (-1) + (1 * τ 19002 + 0) := hf _ (List.Mem.tail _ (List.Mem.tail _ (List.Mem.tail _ (List.Mem.tail _ (List.Mem.tail _ (List.Mem.tail _ (List.Mem.head _)))))))
  have f7 : 0 ≤ 1 + ((-1) * τ 19002 + 0) := hf _ (List.Mem.tail _ (List.Mem.tail _ (List.Mem.tail _ (List.Mem.tail _ (List.Mem.tail _ (List.Mem.tail _ (List.Mem.tail _ (List.Mem.head _))))))))
  have f8 : 0 ≤ (-1) + (1 * τ 19003 + 0) := hf _ (List.Mem.tail _ (List.Mem.tail _ (List.Mem.tail _ (List.Mem.tail _ (List.Mem.tail _ (List.Mem.tail _ (List.Mem.tail _ (List.Mem.tail _ (List.Mem.head _)))))))))
  have f9 : 0 ≤ 0 + (1 * τ 1000000 + ((-1) * τ 1000003 + 0)) := hf _ (List.Mem.tail _ (List.Mem.tail _ (List.Mem.tail _ (List.Mem.tail _ (List.Mem.tail _ (List.Mem.tail _ (List.Mem.tail _ (List.Mem.tail _ (List.Mem.tail _ (List.Mem.head _))))))))))
  have f10 : 0 ≤ 0 + ((-1) * τ 1000000 + (1 * τ 1000003 + 0)) := hf _ (List.Mem.tail _ (List.Mem.tail _ (List.Mem.tail _ (List.Mem.tail _ (List.Mem.tail _ (List.Mem.tail _ (List.Mem.tail _ (List.Mem.tail _ (List.Mem.tail _ (List.Mem.tail _ (List.Mem.head _)))))))))))
  have f11 : 0 ≤ 0 + (1 * τ 1000001 + ((-1) * τ 1000002 + 0)) := hf _ (List.Mem.tail _ (List.Mem.tail _ (List.Mem.tail _ (List.Mem.tail _ (List.Mem.tail _ (List.Mem.tail _ (List.Mem.tail _ (List.Mem.tail _ (List.Mem.tail _ (List.Mem.tail _ (List.Mem.tail _ (List.Mem.head _))))))))))))
  have f12 : 0 ≤ 0 + ((-1) * τ 1000001 + (1 * τ 1000002 + 0)) := hf _ (List.Mem.tail _ (List.Mem.tail _ (List.Mem.tail _ (List.Mem.tail _ (List.Mem.tail _ (List.Mem.tail _ (List.Mem.tail _ (List.Mem.tail _ (List.Mem.tail _ (List.Mem.tail _ (List.Mem.tail _ (List.Mem.tail _ (List.Mem.head _)))))))))))))
  have f13 : 0 ≤ (-1) + (1 * τ 19001 + ((-1) * τ 19002 + 0)) := hf _ (List.Mem.tail _ (List.Mem.tail _ (List.Mem.tail _ (List.Mem.tail _ (List.Mem.tail _ (List.Mem.tail _ (List.Mem.tail _ (List.Mem.tail _ (List.Mem.tail _ (List.Mem.tail _ (List.Mem.tail _ (List.Mem.tail _ (List.Mem.tail _ (List.Mem.head _))))))))))))))
  have f14 : 0 ≤ (-1) + (1 * τ 133 + ((-1) * τ 19002 + 0)) := hf _ (List.Mem.tail _ (List.Mem.tail _ (List.Mem.tail _ (List.Mem.tail _ (List.Mem.tail _ (List.Mem.tail _ (List.Mem.tail _ (List.Mem.tail _ (List.Mem.tail _ (List.Mem.tail _ (List.Mem.tail _ (List.Mem.tail _ (List.Mem.tail _ (List.Mem.tail _ (List.Mem.head _)))))))))))))))
  have f15 : 0 ≤ (-1) + (1 * τ 133 + ((-1) * τ 19001 + 0)) := hf _ (List.Mem.tail _ (List.Mem.tail _ (List.Mem.tail _ (List.Mem.tail _ (List.Mem.tail _ (List.Mem.tail _ (List.Mem.tail _ (List.Mem.tail _ (List.Mem.tail _ (List.Mem.tail _ (List.Mem.tail _ (List.Mem.tail _ (List.Mem.tail _ (List.Mem.tail _ (List.Mem.tail _ (List.Mem.head _))))))))))))))))
  have m134 : σ' 134 = 1 + (1 * τ 134 + 0) := hm 134 (by decide)
  clear hf hm
  exact Or.inl ⟨by omega, ⟨by omega, by omega, by omega, by omega, by omega, by omega⟩, by omega⟩
theorem lw_mwx_139 {as : List rv_A} {σ σ' : Nat → Int} {o : rv_O} {x : Int32} {a1 a2 : Int} {τ : Nat → Int} (hx : o.1 = some (.inl x)) (h1 : lw_av as 1 = a1) (h2 : lw_av as 2 = a2) (hb : ∀ s, (sx_sr s).1 ≤ σ s ∧ σ s ≤ (sx_sr s).2) (hW : lw_W ([(18538, 32, 255), (18541, 4, 255), (18590, 4, 255), (18593, 32, 255)], [(0, [(18538, (-1)), (1000000, 1)]), (0, [(18541, (-1)), (1000001, 1)]), ((-1), [(133, 1)]), (11, [(134, (-1))]), ((-5), [(19001, 1)]), (5, [(19001, (-1))]), ((-2), [(19002, 1)]), (2, [(19002, (-1))]), (0, [(19003, (-1))]), (0, [(1000000, 1), (1000003, (-1))]), (0, [(1000000, (-1)), (1000003, 1)]), (0, [(1000001, 1), (1000002, (-1))]), (0, [(1000001, (-1)), (1000002, 1)]), ((-1), [(19001, (-1)), (19002, 1)]), ((-1), [(133, 1), (19002, (-1))]), ((-1), [(133, 1), (19001, (-1))])], [(9, (0, [])), (134, (1, [(134, 1)])), (7048, ((-2), [])), (7049, ((-2), [])), (8069, (0, [])), (11396, ((-2), [])), (18538, (0, [(1000000, 1)])), (18541, (0, [(1000001, 1)])), (18588, (0, [(18541, 1)])), (18589, (4, [])), (18590, (0, [(1000002, 1)])), (18591, (0, [(18538, 1)])), (18592, (32, [])), (18593, (0, [(1000003, 1)])), (18594, (2, []))], some (false, (1, []))) as σ σ' τ o) : lw_mwx_C a1 a2 x.toInt σ σ' := by
  unfold lw_mwx_C
  have b133 : 0 ≤ σ 133 ∧ σ 133 ≤ 8 := by
    have h0 := hb 133
    rw [show sx_sr 133 = (0, 8) from by decide +kernel] at h0
    exact h0
  have b134 : 0 ≤ σ 134 ∧ σ 134 ≤ 12 := by
    have h0 := hb 134
    rw [show sx_sr 134 = (0, 12) from by decide +kernel] at h0
    exact h0
  obtain ⟨hs, ht, hf, hr, hm, hw⟩ := hW
  have e1 : τ 19001 = a1 := by rw [ht 19001 (by decide) (by decide)]; exact h1
  have e2 : τ 19002 = a2 := by rw [ht 19002 (by decide) (by decide)]; exact h2
  have s133 : τ 133 = σ 133 := hs 133 (by decide)
  have s134 : τ 134 = σ 134 := hs 134 (by decide)
  clear hs ht hb
  rw [hx] at hr
  obtain ⟨y, hy, hv⟩ := hr
  cases hy
  replace hv : x.toInt = 1 + 0 := hv
  have f0 : 0 ≤ 0 + ((-1) * τ 18538 + (1 * τ 1000000 + 0)) := hf _ (List.Mem.head _)
  have f1 : 0 ≤ 0 + ((-1) * τ 18541 + (1 * τ 1000001 + 0)) := hf _ (List.Mem.tail _ (List.Mem.head _))
  have f2 : 0 ≤ (-1) + (1 * τ 133 + 0) := hf _ (List.Mem.tail _ (List.Mem.tail _ (List.Mem.head _)))
  have f3 : 0 ≤ 11 + ((-1) * τ 134 + 0) := hf _ (List.Mem.tail _ (List.Mem.tail _ (List.Mem.tail _ (List.Mem.head _))))
  have f4 : 0 ≤ (-5) + (1 * τ 19001 + 0) := hf _ (List.Mem.tail _ (List.Mem.tail _ (List.Mem.tail _ (List.Mem.tail _ (List.Mem.head _)))))
  have f5 : 0 ≤ 5 + ((-1) * τ 19001 + 0) := hf _ (List.Mem.tail _ (List.Mem.tail _ (List.Mem.tail _ (List.Mem.tail _ (List.Mem.tail _ (List.Mem.head _))))))
  have f6 : 0 ≤ (-2) + (1 * τ 19002 + 0) := hf _ (List.Mem.tail _ (List.Mem.tail _ (List.Mem.tail _ (List.Mem.tail _ (List.Mem.tail _ (List.Mem.tail _ (List.Mem.head _)))))))
  have f7 : 0 ≤ 2 + ((-1) * τ 19002 + 0) := hf _ (List.Mem.tail _ (List.Mem.tail _ (List.Mem.tail _ (List.Mem.tail _ (List.Mem.tail _ (List.Mem.tail _ (List.Mem.tail _ (List.Mem.head _))))))))
  have f8 : 0 ≤ 0 + ((-1) * τ 19003 + 0) := hf _ (List.Mem.tail _ (List.Mem.tail _ (List.Mem.tail _ (List.Mem.tail _ (List.Mem.tail _ (List.Mem.tail _ (List.Mem.tail _ (List.Mem.tail _ (List.Mem.head _)))))))))
  have f9 : 0 ≤ 0 + (1 * τ 1000000 + ((-1) * τ 1000003 + 0)) := hf _ (List.Mem.tail _ (List.Mem.tail _ (List.Mem.tail _ (List.Mem.tail _ (List.Mem.tail _ (List.Mem.tail _ (List.Mem.tail _ (List.Mem.tail _ (List.Mem.tail _ (List.Mem.head _))))))))))
  have f10 : 0 ≤ 0 + ((-1) * τ 1000000 + (1 * τ 1000003 + 0)) := hf _ (List.Mem.tail _ (List.Mem.tail _ (List.Mem.tail _ (List.Mem.tail _ (List.Mem.tail _ (List.Mem.tail _ (List.Mem.tail _ (List.Mem.tail _ (List.Mem.tail _ (List.Mem.tail _ (List.Mem.head _)))))))))))
  have f11 : 0 ≤ 0 + (1 * τ 1000001 + ((-1) * τ 1000002 + 0)) := hf _ (List.Mem.tail _ (List.Mem.tail _ (List.Mem.tail _ (List.Mem.tail _ (List.Mem.tail _ (List.Mem.tail _ (List.Mem.tail _ (List.Mem.tail _ (List.Mem.tail _ (List.Mem.tail _ (List.Mem.tail _ (List.Mem.head _))))))))))))
  have f12 : 0 ≤ 0 + ((-1) * τ 1000001 + (1 * τ 1000002 + 0)) := hf _ (List.Mem.tail _ (List.Mem.tail _ (List.Mem.tail _ (List.Mem.tail _ (List.Mem.tail _ (List.Mem.tail _ (List.Mem.tail _ (List.Mem.tail _ (List.Mem.tail _ (List.Mem.tail _ (List.Mem.tail _ (List.Mem.tail _ (List.Mem.head _)))))))))))))
  have f13 : 0 ≤ (-1) + ((-1) * τ 19001 + (1 * τ 19002 + 0)) := hf _ (List.Mem.tail _ (List.Mem.tail _ (List.Mem.tail _ (List.Mem.tail _ (List.Mem.tail _ (List.Mem.tail _ (List.Mem.tail _ (List.Mem.tail _ (List.Mem.tail _ (List.Mem.tail _ (List.Mem.tail _ (List.Mem.tail _ (List.Mem.tail _ (List.Mem.head _))))))))))))))
  have f14 : 0 ≤ (-1) + (1 * τ 133 + ((-1) * τ 19002 + 0)) := hf _ (List.Mem.tail _ (List.Mem.tail _ (List.Mem.tail _ (List.Mem.tail _ (List.Mem.tail _ (List.Mem.tail _ (List.Mem.tail _ (List.Mem.tail _ (List.Mem.tail _ (List.Mem.tail _ (List.Mem.tail _ (List.Mem.tail _ (List.Mem.tail _ (List.Mem.tail _ (List.Mem.head _)))))))))))))))
  have f15 : 0 ≤ (-1) + (1 * τ 133 + ((-1) * τ 19001 + 0)) := hf _ (List.Mem.tail _ (List.Mem.tail _ (List.Mem.tail _ (List.Mem.tail _ (List.Mem.tail _ (List.Mem.tail _ (List.Mem.tail _ (List.Mem.tail _ (List.Mem.tail _ (List.Mem.tail _ (List.Mem.tail _ (List.Mem.tail _ (List.Mem.tail _ (List.Mem.tail _ (List.Mem.tail _ (List.Mem.head _))))))))))))))))
  have m134 : σ' 134 = 1 + (1 * τ 134 + 0) := hm 134 (by decide)
  clear hf hm
  exact Or.inl ⟨by omega, ⟨by omega, by omega, by omega, by omega, by omega, by omega⟩, by omega⟩
theorem lw_mwx_140 {as : List rv_A} {σ σ' : Nat → Int} {o : rv_O} {x : Int32} {a1 a2 : Int} {τ : Nat → Int} (hx : o.1 = some (.inl x)) (h1 : lw_av as 1 = a1) (h2 : lw_av as 2 = a2) (hb : ∀ s, (sx_sr s).1 ≤ σ s ∧ σ s ≤ (sx_sr s).2) (hW : lw_W ([(18538, 32, 255), (18541, 4, 255), (18590, 4, 255), (18593, 32, 255)], [(0, [(18538, (-1)), (1000000, 1)]), (0, [(18541, (-1)), (1000001, 1)]), ((-1), [(133, 1)]), (11, [(134, (-1))]), ((-5), [(19001, 1)]), (5, [(19001, (-1))]), ((-2), [(19002, 1)]), (2, [(19002, (-1))]), (0, [(19003, (-1))]), (0, [(1000000, 1), (1000003, (-1))]), (0, [(1000000, (-1)), (1000003, 1)]), (0, [(1000001, 1), (1000002, (-1))]), (0, [(1000001, (-1)), (1000002, 1)]), ((-1), [(19001, 1), (19002, (-1))]), ((-1), [(133, 1), (19002, (-1))]), ((-1), [(133, 1), (19001, (-1))])], [(9, (0, [])), (134, (1, [(134, 1)])), (7048, ((-2), [])), (7049, ((-2), [])), (8069, (0, [])), (11396, ((-2), [])), (18538, (0, [(1000000, 1)])), (18541, (0, [(1000001, 1)])), (18588, (0, [(18541, 1)])), (18589, (4, [])), (18590, (0, [(1000002, 1)])), (18591, (0, [(18538, 1)])), (18592, (32, [])), (18593, (0, [(1000003, 1)])), (18594, (2, []))], some (false, (1, []))) as σ σ' τ o) : lw_mwx_C a1 a2 x.toInt σ σ' := by
  unfold lw_mwx_C
  have b133 : 0 ≤ σ 133 ∧ σ 133 ≤ 8 := by
    have h0 := hb 133
    rw [show sx_sr 133 = (0, 8) from by decide +kernel] at h0
    exact h0
  have b134 : 0 ≤ σ 134 ∧ σ 134 ≤ 12 := by
    have h0 := hb 134
    rw [show sx_sr 134 = (0, 12) from by decide +kernel] at h0
    exact h0
  obtain ⟨hs, ht, hf, hr, hm, hw⟩ := hW
  have e1 : τ 19001 = a1 := by rw [ht 19001 (by decide) (by decide)]; exact h1
  have e2 : τ 19002 = a2 := by rw [ht 19002 (by decide) (by decide)]; exact h2
  have s133 : τ 133 = σ 133 := hs 133 (by decide)
  have s134 : τ 134 = σ 134 := hs 134 (by decide)
  clear hs ht hb
  rw [hx] at hr
  obtain ⟨y, hy, hv⟩ := hr
  cases hy
  replace hv : x.toInt = 1 + 0 := hv
  have f0 : 0 ≤ 0 + ((-1) * τ 18538 + (1 * τ 1000000 + 0)) := hf _ (List.Mem.head _)
  have f1 : 0 ≤ 0 + ((-1) * τ 18541 + (1 * τ 1000001 + 0)) := hf _ (List.Mem.tail _ (List.Mem.head _))
  have f2 : 0 ≤ (-1) + (1 * τ 133 + 0) := hf _ (List.Mem.tail _ (List.Mem.tail _ (List.Mem.head _)))
  have f3 : 0 ≤ 11 + ((-1) * τ 134 + 0) := hf _ (List.Mem.tail _ (List.Mem.tail _ (List.Mem.tail _ (List.Mem.head _))))
  have f4 : 0 ≤ (-5) + (1 * τ 19001 + 0) := hf _ (List.Mem.tail _ (List.Mem.tail _ (List.Mem.tail _ (List.Mem.tail _ (List.Mem.head _)))))
  have f5 : 0 ≤ 5 + ((-1) * τ 19001 + 0) := hf _ (List.Mem.tail _ (List.Mem.tail _ (List.Mem.tail _ (List.Mem.tail _ (List.Mem.tail _ (List.Mem.head _))))))
  have f6 : 0 ≤ (-2) + (1 * τ 19002 + 0) := hf _ (List.Mem.tail _ (List.Mem.tail _ (List.Mem.tail _ (List.Mem.tail _ (List.Mem.tail _ (List.Mem.tail _ (List.Mem.head _)))))))
  have f7 : 0 ≤ 2 + ((-1) * τ 19002 + 0) := hf _ (List.Mem.tail _ (List.Mem.tail _ (List.Mem.tail _ (List.Mem.tail _ (List.Mem.tail _ (List.Mem.tail _ (List.Mem.tail _ (List.Mem.head _))))))))
  have f8 : 0 ≤ 0 + ((-1) * τ 19003 + 0) := hf _ (List.Mem.tail _ (List.Mem.tail _ (List.Mem.tail _ (List.Mem.tail _ (List.Mem.tail _ (List.Mem.tail _ (List.Mem.tail _ (List.Mem.tail _ (List.Mem.head _)))))))))
  have f9 : 0 ≤ 0 + (1 * τ 1000000 + ((-1) * τ 1000003 + 0)) := hf _ (List.Mem.tail _ (List.Mem.tail _ (List.Mem.tail _ (List.Mem.tail _ (List.Mem.tail _ (List.Mem.tail _ (List.Mem.tail _ (List.Mem.tail _ (List.Mem.tail _ (List.Mem.head _))))))))))
  have f10 : 0 ≤ 0 + ((-1) * τ 1000000 + (1 * τ 1000003 + 0)) := hf _ (List.Mem.tail _ (List.Mem.tail _ (List.Mem.tail _ (List.Mem.tail _ (List.Mem.tail _ (List.Mem.tail _ (List.Mem.tail _ (List.Mem.tail _ (List.Mem.tail _ (List.Mem.tail _ (List.Mem.head _)))))))))))
  have f11 : 0 ≤ 0 + (1 * τ 1000001 + ((-1) * τ 1000002 + 0)) := hf _ (List.Mem.tail _ (List.Mem.tail _ (List.Mem.tail _ (List.Mem.tail _ (List.Mem.tail _ (List.Mem.tail _ (List.Mem.tail _ (List.Mem.tail _ (List.Mem.tail _ (List.Mem.tail _ (List.Mem.tail _ (List.Mem.head _))))))))))))
  have f12 : 0 ≤ 0 + ((-1) * τ 1000001 + (1 * τ 1000002 + 0)) := hf _ (List.Mem.tail _ (List.Mem.tail _ (List.Mem.tail _ (List.Mem.tail _ (List.Mem.tail _ (List.Mem.tail _ (List.Mem.tail _ (List.Mem.tail _ (List.Mem.tail _ (List.Mem.tail _ (List.Mem.tail _ (List.Mem.tail _ (List.Mem.head _)))))))))))))
  have f13 : 0 ≤ (-1) + (1 * τ 19001 + ((-1) * τ 19002 + 0)) := hf _ (List.Mem.tail _ (List.Mem.tail _ (List.Mem.tail _ (List.Mem.tail _ (List.Mem.tail _ (List.Mem.tail _ (List.Mem.tail _ (List.Mem.tail _ (List.Mem.tail _ (List.Mem.tail _ (List.Mem.tail _ (List.Mem.tail _ (List.Mem.tail _ (List.Mem.head _))))))))))))))
  have f14 : 0 ≤ (-1) + (1 * τ 133 + ((-1) * τ 19002 + 0)) := hf _ (List.Mem.tail _ (List.Mem.tail _ (List.Mem.tail _ (List.Mem.tail _ (List.Mem.tail _ (List.Mem.tail _ (List.Mem.tail _ (List.Mem.tail _ (List.Mem.tail _ (List.Mem.tail _ (List.Mem.tail _ (List.Mem.tail _ (List.Mem.tail _ (List.Mem.tail _ (List.Mem.head _)))))))))))))))
  have f15 : 0 ≤ (-1) + (1 * τ 133 + ((-1) * τ 19001 + 0)) := hf _ (List.Mem.tail _ (List.Mem.tail _ (List.Mem.tail _ (List.Mem.tail _ (List.Mem.tail _ (List.Mem.tail _ (List.Mem.tail _ (List.Mem.tail _ (List.Mem.tail _ (List.Mem.tail _ (List.Mem.tail _ (List.Mem.tail _ (List.Mem.tail _ (List.Mem.tail _ (List.Mem.tail _ (List.Mem.head _))))))))))))))))
  have m134 : σ' 134 = 1 + (1 * τ 134 + 0) := hm 134 (by decide)
  clear hf hm
  exact Or.inl ⟨by omega, ⟨by omega, by omega, by omega, by omega, by omega, by omega⟩, by omega⟩
theorem lw_mwx_141 {as : List rv_A} {σ σ' : Nat → Int} {o : rv_O} {x : Int32} {a1 a2 : Int} {τ : Nat → Int} (hx : o.1 = some (.inl x)) (h1 : lw_av as 1 = a1) (h2 : lw_av as 2 = a2) (hb : ∀ s, (sx_sr s).1 ≤ σ s ∧ σ s ≤ (sx_sr s).2) (hW : lw_W ([(18546, 32, 255), (18549, 4, 255), (18590, 4, 255), (18593, 32, 255)], [(0, [(18546, (-1)), (1000000, 1)]), (0, [(18549, (-1)), (1000001, 1)]), ((-1), [(133, 1)]), (11, [(134, (-1))]), ((-5), [(19001, 1)]), (5, [(19001, (-1))]), ((-2), [(19002, 1)]), (2, [(19002, (-1))]), ((-1), [(19003, 1)]), (0, [(1000000, 1), (1000003, (-1))]), (0, [(1000000, (-1)), (1000003, 1)]), (0, [(1000001, 1), (1000002, (-1))]), (0, [(1000001, (-1)), (1000002, 1)]), ((-1), [(19001, (-1)), (19002, 1)]), ((-1), [(133, 1), (19002, (-1))]), ((-1), [(133, 1), (19001, (-1))])], [(9, (0, [])), (134, (1, [(134, 1)])), (7048, ((-2), [])), (7049, ((-2), [])), (8069, (0, [])), (11396, ((-2), [])), (18546, (0, [(1000000, 1)])), (18549, (0, [(1000001, 1)])), (18588, (0, [(18549, 1)])), (18589, (4, [])), (18590, (0, [(1000002, 1)])), (18591, (0, [(18546, 1)])), (18592, (32, [])), (18593, (0, [(1000003, 1)])), (18594, (2, []))], some (false, (1, []))) as σ σ' τ o) : lw_mwx_C a1 a2 x.toInt σ σ' := by
  unfold lw_mwx_C
  have b133 : 0 ≤ σ 133 ∧ σ 133 ≤ 8 := by
    have h0 := hb 133
    rw [show sx_sr 133 = (0, 8) from by decide +kernel] at h0
    exact h0
  have b134 : 0 ≤ σ 134 ∧ σ 134 ≤ 12 := by
    have h0 := hb 134
    rw [show sx_sr 134 = (0, 12) from by decide +kernel] at h0
    exact h0
  obtain ⟨hs, ht, hf, hr, hm, hw⟩ := hW
  have e1 : τ 19001 = a1 := by rw [ht 19001 (by decide) (by decide)]; exact h1
  have e2 : τ 19002 = a2 := by rw [ht 19002 (by decide) (by decide)]; exact h2
  have s133 : τ 133 = σ 133 := hs 133 (by decide)
  have s134 : τ 134 = σ 134 := hs 134 (by decide)
  clear hs ht hb
  rw [hx] at hr
  obtain ⟨y, hy, hv⟩ := hr
  cases hy
  replace hv : x.toInt = 1 + 0 := hv
  have f0 : 0 ≤ 0 + ((-1) * τ 18546 + (1 * τ 1000000 + 0)) := hf _ (List.Mem.head _)
  have f1 : 0 ≤ 0 + ((-1) * τ 18549 + (1 * τ 1000001 + 0)) := hf _ (List.Mem.tail _ (List.Mem.head _))
  have f2 : 0 ≤ (-1) + (1 * τ 133 + 0) := hf _ (List.Mem.tail _ (List.Mem.tail _ (List.Mem.head _)))
  have f3 : 0 ≤ 11 + ((-1) * τ 134 + 0) := hf _ (List.Mem.tail _ (List.Mem.tail _ (List.Mem.tail _ (List.Mem.head _))))
  have f4 : 0 ≤ (-5) + (1 * τ 19001 + 0) := hf _ (List.Mem.tail _ (List.Mem.tail _ (List.Mem.tail _ (List.Mem.tail _ (List.Mem.head _)))))
  have f5 : 0 ≤ 5 + ((-1) * τ 19001 + 0) := hf _ (List.Mem.tail _ (List.Mem.tail _ (List.Mem.tail _ (List.Mem.tail _ (List.Mem.tail _ (List.Mem.head _))))))
  have f6 : 0 ≤ (-2) + (1 * τ 19002 + 0) := hf _ (List.Mem.tail _ (List.Mem.tail _ (List.Mem.tail _ (List.Mem.tail _ (List.Mem.tail _ (List.Mem.tail _ (List.Mem.head _)))))))
  have f7 : 0 ≤ 2 + ((-1) * τ 19002 + 0) := hf _ (List.Mem.tail _ (List.Mem.tail _ (List.Mem.tail _ (List.Mem.tail _ (List.Mem.tail _ (List.Mem.tail _ (List.Mem.tail _ (List.Mem.head _))))))))
  have f8 : 0 ≤ (-1) + (1 * τ 19003 + 0) := hf _ (List.Mem.tail _ (List.Mem.tail _ (List.Mem.tail _ (List.Mem.tail _ (List.Mem.tail _ (List.Mem.tail _ (List.Mem.tail _ (List.Mem.tail _ (List.Mem.head _)))))))))
  have f9 : 0 ≤ 0 + (1 * τ 1000000 + ((-1) * τ 1000003 + 0)) := hf _ (List.Mem.tail _ (List.Mem.tail _ (List.Mem.tail _ (List.Mem.tail _ (List.Mem.tail _ (List.Mem.tail _ (List.Mem.tail _ (List.Mem.tail _ (List.Mem.tail _ (List.Mem.head _))))))))))
  have f10 : 0 ≤ 0 + ((-1) * τ 1000000 + (1 * τ 1000003 + 0)) := hf _ (List.Mem.tail _ (List.Mem.tail _ (List.Mem.tail _ (List.Mem.tail _ (List.Mem.tail _ (List.Mem.tail _ (List.Mem.tail _ (List.Mem.tail _ (List.Mem.tail _ (List.Mem.tail _ (List.Mem.head _)))))))))))
  have f11 : 0 ≤ 0 + (1 * τ 1000001 + ((-1) * τ 1000002 + 0)) := hf _ (List.Mem.tail _ (List.Mem.tail _ (List.Mem.tail _ (List.Mem.tail _ (List.Mem.tail _ (List.Mem.tail _ (List.Mem.tail _ (List.Mem.tail _ (List.Mem.tail _ (List.Mem.tail _ (List.Mem.tail _ (List.Mem.head _))))))))))))
  have f12 : 0 ≤ 0 + ((-1) * τ 1000001 + (1 * τ 1000002 + 0)) := hf _ (List.Mem.tail _ (List.Mem.tail _ (List.Mem.tail _ (List.Mem.tail _ (List.Mem.tail _ (List.Mem.tail _ (List.Mem.tail _ (List.Mem.tail _ (List.Mem.tail _ (List.Mem.tail _ (List.Mem.tail _ (List.Mem.tail _ (List.Mem.head _)))))))))))))
  have f13 : 0 ≤ (-1) + ((-1) * τ 19001 + (1 * τ 19002 + 0)) := hf _ (List.Mem.tail _ (List.Mem.tail _ (List.Mem.tail _ (List.Mem.tail _ (List.Mem.tail _ (List.Mem.tail _ (List.Mem.tail _ (List.Mem.tail _ (List.Mem.tail _ (List.Mem.tail _ (List.Mem.tail _ (List.Mem.tail _ (List.Mem.tail _ (List.Mem.head _))))))))))))))
  have f14 : 0 ≤ (-1) + (1 * τ 133 + ((-1) * τ 19002 + 0)) := hf _ (List.Mem.tail _ (List.Mem.tail _ (List.Mem.tail _ (List.Mem.tail _ (List.Mem.tail _ (List.Mem.tail _ (List.Mem.tail _ (List.Mem.tail _ (List.Mem.tail _ (List.Mem.tail _ (List.Mem.tail _ (List.Mem.tail _ (List.Mem.tail _ (List.Mem.tail _ (List.Mem.head _)))))))))))))))
  have f15 : 0 ≤ (-1) + (1 * τ 133 + ((-1) * τ 19001 + 0)) := hf _ (List.Mem.tail _ (List.Mem.tail _ (List.Mem.tail _ (List.Mem.tail _ (List.Mem.tail _ (List.Mem.tail _ (List.Mem.tail _ (List.Mem.tail _ (List.Mem.tail _ (List.Mem.tail _ (List.Mem.tail _ (List.Mem.tail _ (List.Mem.tail _ (List.Mem.tail _ (List.Mem.tail _ (List.Mem.head _))))))))))))))))
  have m134 : σ' 134 = 1 + (1 * τ 134 + 0) := hm 134 (by decide)
  clear hf hm
  exact Or.inl ⟨by omega, ⟨by omega, by omega, by omega, by omega, by omega, by omega⟩, by omega⟩
theorem lw_mwx_142 {as : List rv_A} {σ σ' : Nat → Int} {o : rv_O} {x : Int32} {a1 a2 : Int} {τ : Nat → Int} (hx : o.1 = some (.inl x)) (h1 : lw_av as 1 = a1) (h2 : lw_av as 2 = a2) (hb : ∀ s, (sx_sr s).1 ≤ σ s ∧ σ s ≤ (sx_sr s).2) (hW : lw_W ([(18546, 32, 255), (18549, 4, 255), (18590, 4, 255), (18593, 32, 255)], [(0, [(18546, (-1)), (1000000, 1)]), (0, [(18549, (-1)), (1000001, 1)]), ((-1), [(133, 1)]), (11, [(134, (-1))]), ((-5), [(19001, 1)]), (5, [(19001, (-1))]), ((-2), [(19002, 1)]), (2, [(19002, (-1))]), ((-1), [(19003, 1)]), (0, [(1000000, 1), (1000003, (-1))]), (0, [(1000000, (-1)), (1000003, 1)]), (0, [(1000001, 1), (1000002, (-1))]), (0, [(1000001, (-1)), (1000002, 1)]), ((-1), [(19001, 1), (19002, (-1))]), ((-1), [(133, 1), (19002, (-1))]), ((-1), [(133, 1), (19001, (-1))])], [(9, (0, [])), (134, (1, [(134, 1)])), (7048, ((-2), [])), (7049, ((-2), [])), (8069, (0, [])), (11396, ((-2), [])), (18546, (0, [(1000000, 1)])), (18549, (0, [(1000001, 1)])), (18588, (0, [(18549, 1)])), (18589, (4, [])), (18590, (0, [(1000002, 1)])), (18591, (0, [(18546, 1)])), (18592, (32, [])), (18593, (0, [(1000003, 1)])), (18594, (2, []))], some (false, (1, []))) as σ σ' τ o) : lw_mwx_C a1 a2 x.toInt σ σ' := by
  unfold lw_mwx_C
  have b133 : 0 ≤ σ 133 ∧ σ 133 ≤ 8 := by
    have h0 := hb 133
    rw [show sx_sr 133 = (0, 8) from by decide +kernel] at h0
    exact h0
  have b134 : 0 ≤ σ 134 ∧ σ 134 ≤ 12 := by
    have h0 := hb 134
    rw [show sx_sr 134 = (0, 12) from by decide +kernel] at h0
    exact h0
  obtain ⟨hs, ht, hf, hr, hm, hw⟩ := hW
  have e1 : τ 19001 = a1 := by rw [ht 19001 (by decide) (by decide)]; exact h1
  have e2 : τ 19002 = a2 := by rw [ht 19002 (by decide) (by decide)]; exact h2
  have s133 : τ 133 = σ 133 := hs 133 (by decide)
  have s134 : τ 134 = σ 134 := hs 134 (by decide)
  clear hs ht hb
  rw [hx] at hr
  obtain ⟨y, hy, hv⟩ := hr
  cases hy
  replace hv : x.toInt = 1 + 0 := hv
  have f0 : 0 ≤ 0 + ((-1) * τ 18546 + (1 * τ 1000000 + 0)) := hf _ (List.Mem.head _)
  have f1 : 0 ≤ 0 + ((-1) * τ 18549 + (1 * τ 1000001 + 0)) := hf _ (List.Mem.tail _ (List.Mem.head _))
  have f2 : 0 ≤ (-1) + (1 * τ 133 + 0) := hf _ (List.Mem.tail _ (List.Mem.tail _ (List.Mem.head _)))
  have f3 : 0 ≤ 11 + ((-1) * τ 134 + 0) := hf _ (List.Mem.tail _ (List.Mem.tail _ (List.Mem.tail _ (List.Mem.head _))))
  have f4 : 0 ≤ (-5) + (1 * τ 19001 + 0) := hf _ (List.Mem.tail _ (List.Mem.tail _ (List.Mem.tail _ (List.Mem.tail _ (List.Mem.head _)))))
  have f5 : 0 ≤ 5 + ((-1) * τ 19001 + 0) := hf _ (List.Mem.tail _ (List.Mem.tail _ (List.Mem.tail _ (List.Mem.tail _ (List.Mem.tail _ (List.Mem.head _))))))
  have f6 : 0 ≤ (-2) + (1 * τ 19002 + 0) := hf _ (List.Mem.tail _ (List.Mem.tail _ (List.Mem.tail _ (List.Mem.tail _ (List.Mem.tail _ (List.Mem.tail _ (List.Mem.head _)))))))
  have f7 : 0 ≤ 2 + ((-1) * τ 19002 + 0) := hf _ (List.Mem.tail _ (List.Mem.tail _ (List.Mem.tail _ (List.Mem.tail _ (List.Mem.tail _ (List.Mem.tail _ (List.Mem.tail _ (List.Mem.head _))))))))
  have f8 : 0 ≤ (-1) + (1 * τ 19003 + 0) := hf _ (List.Mem.tail _ (List.Mem.tail _ (List.Mem.tail _ (List.Mem.tail _ (List.Mem.tail _ (List.Mem.tail _ (List.Mem.tail _ (List.Mem.tail _ (List.Mem.head _)))))))))
  have f9 : 0 ≤ 0 + (1 * τ 1000000 + ((-1) * τ 1000003 + 0)) := hf _ (List.Mem.tail _ (List.Mem.tail _ (List.Mem.tail _ (List.Mem.tail _ (List.Mem.tail _ (List.Mem.tail _ (List.Mem.tail _ (List.Mem.tail _ (List.Mem.tail _ (List.Mem.head _))))))))))
  have f10 : 0 ≤ 0 + ((-1) * τ 1000000 + (1 * τ 1000003 + 0)) := hf _ (List.Mem.tail _ (List.Mem.tail _ (List.Mem.tail _ (List.Mem.tail _ (List.Mem.tail _ (List.Mem.tail _ (List.Mem.tail _ (List.Mem.tail _ (List.Mem.tail _ (List.Mem.tail _ (List.Mem.head _)))))))))))
  have f11 : 0 ≤ 0 + (1 * τ 1000001 + ((-1) * τ 1000002 + 0)) := hf _ (List.Mem.tail _ (List.Mem.tail _ (List.Mem.tail _ (List.Mem.tail _ (List.Mem.tail _ (List.Mem.tail _ (List.Mem.tail _ (List.Mem.tail _ (List.Mem.tail _ (List.Mem.tail _ (List.Mem.tail _ (List.Mem.head _))))))))))))
  have f12 : 0 ≤ 0 + ((-1) * τ 1000001 + (1 * τ 1000002 + 0)) := hf _ (List.Mem.tail _ (List.Mem.tail _ (List.Mem.tail _ (List.Mem.tail _ (List.Mem.tail _ (List.Mem.tail _ (List.Mem.tail _ (List.Mem.tail _ (List.Mem.tail _ (List.Mem.tail _ (List.Mem.tail _ (List.Mem.tail _ (List.Mem.head _)))))))))))))
  have f13 : 0 ≤ (-1) + (1 * τ 19001 + ((-1) * τ 19002 + 0)) := hf _ (List.Mem.tail _ (List.Mem.tail _ (List.Mem.tail _ (List.Mem.tail _ (List.Mem.tail _ (List.Mem.tail _ (List.Mem.tail _ (List.Mem.tail _ (List.Mem.tail _ (List.Mem.tail _ (List.Mem.tail _ (List.Mem.tail _ (List.Mem.tail _ (List.Mem.head _))))))))))))))
  have f14 : 0 ≤ (-1) + (1 * τ 133 + ((-1) * τ 19002 + 0)) := hf _ (List.Mem.tail _ (List.Mem.tail _ (List.Mem.tail _ (List.Mem.tail _ (List.Mem.tail _ (List.Mem.tail _ (List.Mem.tail _ (List.Mem.tail _ (List.Mem.tail _ (List.Mem.tail _ (List.Mem.tail _ (List.Mem.tail _ (List.Mem.tail _ (List.Mem.tail _ (List.Mem.head _)))))))))))))))
  have f15 : 0 ≤ (-1) + (1 * τ 133 + ((-1) * τ 19001 + 0)) := hf _ (List.Mem.tail _ (List.Mem.tail _ (List.Mem.tail _ (List.Mem.tail _ (List.Mem.tail _ (List.Mem.tail _ (List.Mem.tail _ (List.Mem.tail _ (List.Mem.tail _ (List.Mem.tail _ (List.Mem.tail _ (List.Mem.tail _ (List.Mem.tail _ (List.Mem.tail _ (List.Mem.tail _ (List.Mem.head _))))))))))))))))
  have m134 : σ' 134 = 1 + (1 * τ 134 + 0) := hm 134 (by decide)
  clear hf hm
  exact Or.inl ⟨by omega, ⟨by omega, by omega, by omega, by omega, by omega, by omega⟩, by omega⟩
theorem lw_mwx_143 {as : List rv_A} {σ σ' : Nat → Int} {o : rv_O} {x : Int32} {a1 a2 : Int} {τ : Nat → Int} (hx : o.1 = some (.inl x)) (h1 : lw_av as 1 = a1) (h2 : lw_av as 2 = a2) (hb : ∀ s, (sx_sr s).1 ≤ σ s ∧ σ s ≤ (sx_sr s).2) (hW : lw_W ([(18539, 32, 255), (18541, 8, 255), (18590, 8, 255), (18593, 32, 255)], [(0, [(18539, (-1)), (1000000, 1)]), (0, [(18541, (-1)), (1000001, 1)]), ((-1), [(133, 1)]), (11, [(134, (-1))]), ((-5), [(19001, 1)]), (5, [(19001, (-1))]), ((-3), [(19002, 1)]), (3, [(19002, (-1))]), (0, [(19003, (-1))]), (0, [(1000000, 1), (1000003, (-1))]), (0, [(1000000, (-1)), (1000003, 1)]), (0, [(1000001, 1), (1000002, (-1))]), (0, [(1000001, (-1)), (1000002, 1)]), ((-1), [(19001, (-1)), (19002, 1)]), ((-1), [(133, 1), (19002, (-1))]), ((-1), [(133, 1), (19001, (-1))])], [(9, (0, [])), (134, (1, [(134, 1)])), (7048, ((-2), [])), (7049, ((-2), [])), (8069, (0, [])), (11396, ((-2), [])), (18539, (0, [(1000000, 1)])), (18541, (0, [(1000001, 1)])), (18588, (0, [(18541, 1)])), (18589, (8, [])), (18590, (0, [(1000002, 1)])), (18591, (0, [(18539, 1)])), (18592, (32, [])), (18593, (0, [(1000003, 1)])), (18594, (2, []))], some (false, (1, []))) as σ σ' τ o) : lw_mwx_C a1 a2 x.toInt σ σ' := by
  unfold lw_mwx_C
  have b133 : 0 ≤ σ 133 ∧ σ 133 ≤ 8 := by
    have h0 := hb 133
    rw [show sx_sr 133 = (0, 8) from by decide +kernel] at h0
    exact h0
  have b134 : 0 ≤ σ 134 ∧ σ 134 ≤ 12 := by
    have h0 := hb 134
    rw [show sx_sr 134 = (0, 12) from by decide +kernel] at h0
    exact h0
  obtain ⟨hs, ht, hf, hr, hm, hw⟩ := hW
  have e1 : τ 19001 = a1 := by rw [ht 19001 (by decide) (by decide)]; exact h1
  have e2 : τ 19002 = a2 := by rw [ht 19002 (by decide) (by decide)]; exact h2
  have s133 : τ 133 = σ 133 := hs 133 (by decide)
  have s134 : τ 134 = σ 134 := hs 134 (by decide)
  clear hs ht hb
  rw [hx] at hr
  obtain ⟨y, hy, hv⟩ := hr
  cases hy
  replace hv : x.toInt = 1 + 0 := hv
  have f0 : 0 ≤ 0 + ((-1) * τ 18539 + (1 * τ 1000000 + 0)) := hf _ (List.Mem.head _)
  have f1 : 0 ≤ 0 + ((-1) * τ 18541 + (1 * τ 1000001 + 0)) := hf _ (List.Mem.tail _ (List.Mem.head _))
  have f2 : 0 ≤ (-1) + (1 * τ 133 + 0) := hf _ (List.Mem.tail _ (List.Mem.tail _ (List.Mem.head _)))
  have f3 : 0 ≤ 11 + ((-1) * τ 134 + 0) := hf _ (List.Mem.tail _ (List.Mem.tail _ (List.Mem.tail _ (List.Mem.head _))))
  have f4 : 0 ≤ (-5) + (1 * τ 19001 + 0) := hf _ (List.Mem.tail _ (List.Mem.tail _ (List.Mem.tail _ (List.Mem.tail _ (List.Mem.head _)))))
  have f5 : 0 ≤ 5 + ((-1) * τ 19001 + 0) := hf _ (List.Mem.tail _ (List.Mem.tail _ (List.Mem.tail _ (List.Mem.tail _ (List.Mem.tail _ (List.Mem.head _))))))
  have f6 : 0 ≤ (-3) + (1 * τ 19002 + 0) := hf _ (List.Mem.tail _ (List.Mem.tail _ (List.Mem.tail _ (List.Mem.tail _ (List.Mem.tail _ (List.Mem.tail _ (List.Mem.head _)))))))
  have f7 : 0 ≤ 3 + ((-1) * τ 19002 + 0) := hf _ (List.Mem.tail _ (List.Mem.tail _ (List.Mem.tail _ (List.Mem.tail _ (List.Mem.tail _ (List.Mem.tail _ (List.Mem.tail _ (List.Mem.head _))))))))
  have f8 : 0 ≤ 0 + ((-1) * τ 19003 + 0) := hf _ (List.Mem.tail _ (List.Mem.tail _ (List.Mem.tail _ (List.Mem.tail _ (List.Mem.tail _ (List.Mem.tail _ (List.Mem.tail _ (List.Mem.tail _ (List.Mem.head _)))))))))
  have f9 : 0 ≤ 0 + (1 * τ 1000000 + ((-1) * τ 1000003 + 0)) := hf _ (List.Mem.tail _ (List.Mem.tail _ (List.Mem.tail _ (List.Mem.tail _ (List.Mem.tail _ (List.Mem.tail _ (List.Mem.tail _ (List.Mem.tail _ (List.Mem.tail _ (List.Mem.head _))))))))))
  have f10 : 0 ≤ 0 + ((-1) * τ 1000000 + (1 * τ 1000003 + 0)) := hf _ (List.Mem.tail _ (List.Mem.tail _ (List.Mem.tail _ (List.Mem.tail _ (List.Mem.tail _ (List.Mem.tail _ (List.Mem.tail _ (List.Mem.tail _ (List.Mem.tail _ (List.Mem.tail _ (List.Mem.head _)))))))))))
  have f11 : 0 ≤ 0 + (1 * τ 1000001 + ((-1) * τ 1000002 + 0)) := hf _ (List.Mem.tail _ (List.Mem.tail _ (List.Mem.tail _ (List.Mem.tail _ (List.Mem.tail _ (List.Mem.tail _ (List.Mem.tail _ (List.Mem.tail _ (List.Mem.tail _ (List.Mem.tail _ (List.Mem.tail _ (List.Mem.head _))))))))))))
  have f12 : 0 ≤ 0 + ((-1) * τ 1000001 + (1 * τ 1000002 + 0)) := hf _ (List.Mem.tail _ (List.Mem.tail _ (List.Mem.tail _ (List.Mem.tail _ (List.Mem.tail _ (List.Mem.tail _ (List.Mem.tail _ (List.Mem.tail _ (List.Mem.tail _ (List.Mem.tail _ (List.Mem.tail _ (List.Mem.tail _ (List.Mem.head _)))))))))))))
  have f13 : 0 ≤ (-1) + ((-1) * τ 19001 + (1 * τ 19002 + 0)) := hf _ (List.Mem.tail _ (List.Mem.tail _ (List.Mem.tail _ (List.Mem.tail _ (List.Mem.tail _ (List.Mem.tail _ (List.Mem.tail _ (List.Mem.tail _ (List.Mem.tail _ (List.Mem.tail _ (List.Mem.tail _ (List.Mem.tail _ (List.Mem.tail _ (List.Mem.head _))))))))))))))
  have f14 : 0 ≤ (-1) + (1 * τ 133 + ((-1) * τ 19002 + 0)) := hf _ (List.Mem.tail _ (List.Mem.tail _ (List.Mem.tail _ (List.Mem.tail _ (List.Mem.tail _ (List.Mem.tail _ (List.Mem.tail _ (List.Mem.tail _ (List.Mem.tail _ (List.Mem.tail _ (List.Mem.tail _ (List.Mem.tail _ (List.Mem.tail _ (List.Mem.tail _ (List.Mem.head _)))))))))))))))
  have f15 : 0 ≤ (-1) + (1 * τ 133 + ((-1) * τ 19001 + 0)) := hf _ (List.Mem.tail _ (List.Mem.tail _ (List.Mem.tail _ (List.Mem.tail _ (List.Mem.tail _ (List.Mem.tail _ (List.Mem.tail _ (List.Mem.tail _ (List.Mem.tail _ (List.Mem.tail _ (List.Mem.tail _ (List.Mem.tail _ (List.Mem.tail _ (List.Mem.tail _ (List.Mem.tail _ (List.Mem.head _))))))))))))))))
  have m134 : σ' 134 = 1 + (1 * τ 134 + 0) := hm 134 (by decide)
  clear hf hm
  exact Or.inl ⟨by omega, ⟨by omega, by omega, by omega, by omega, by omega, by omega⟩, by omega⟩
theorem lw_mwx_144 {as : List rv_A} {σ σ' : Nat → Int} {o : rv_O} {x : Int32} {a1 a2 : Int} {τ : Nat → Int} (hx : o.1 = some (.inl x)) (h1 : lw_av as 1 = a1) (h2 : lw_av as 2 = a2) (hb : ∀ s, (sx_sr s).1 ≤ σ s ∧ σ s ≤ (sx_sr s).2) (hW : lw_W ([(18539, 32, 255), (18541, 8, 255), (18590, 8, 255), (18593, 32, 255)], [(0, [(18539, (-1)), (1000000, 1)]), (0, [(18541, (-1)), (1000001, 1)]), ((-1), [(133, 1)]), (11, [(134, (-1))]), ((-5), [(19001, 1)]), (5, [(19001, (-1))]), ((-3), [(19002, 1)]), (3, [(19002, (-1))]), (0, [(19003, (-1))]), (0, [(1000000, 1), (1000003, (-1))]), (0, [(1000000, (-1)), (1000003, 1)]), (0, [(1000001, 1), (1000002, (-1))]), (0, [(1000001, (-1)), (1000002, 1)]), ((-1), [(19001, 1), (19002, (-1))]), ((-1), [(133, 1), (19002, (-1))]), ((-1), [(133, 1), (19001, (-1))])], [(9, (0, [])), (134, (1, [(134, 1)])), (7048, ((-2), [])), (7049, ((-2), [])), (8069, (0, [])), (11396, ((-2), [])), (18539, (0, [(1000000, 1)])), (18541, (0, [(1000001, 1)])), (18588, (0, [(18541, 1)])), (18589, (8, [])), (18590, (0, [(1000002, 1)])), (18591, (0, [(18539, 1)])), (18592, (32, [])), (18593, (0, [(1000003, 1)])), (18594, (2, []))], some (false, (1, []))) as σ σ' τ o) : lw_mwx_C a1 a2 x.toInt σ σ' := by
  unfold lw_mwx_C
  have b133 : 0 ≤ σ 133 ∧ σ 133 ≤ 8 := by
    have h0 := hb 133
    rw [show sx_sr 133 = (0, 8) from by decide +kernel] at h0
    exact h0
  have b134 : 0 ≤ σ 134 ∧ σ 134 ≤ 12 := by
    have h0 := hb 134
    rw [show sx_sr 134 = (0, 12) from by decide +kernel] at h0
    exact h0
  obtain ⟨hs, ht, hf, hr, hm, hw⟩ := hW
  have e1 : τ 19001 = a1 := by rw [ht 19001 (by decide) (by decide)]; exact h1
  have e2 : τ 19002 = a2 := by rw [ht 19002 (by decide) (by decide)]; exact h2
  have s133 : τ 133 = σ 133 := hs 133 (by decide)
  have s134 : τ 134 = σ 134 := hs 134 (by decide)
  clear hs ht hb
  rw [hx] at hr
  obtain ⟨y, hy, hv⟩ := hr
  cases hy
  replace hv : x.toInt = 1 + 0 := hv
  have f0 : 0 ≤ 0 + ((-1) * τ 18539 + (1 * τ 1000000 + 0)) := hf _ (List.Mem.head _)
  have f1 : 0 ≤ 0 + ((-1) * τ 18541 + (1 * τ 1000001 + 0)) := hf _ (List.Mem.tail _ (List.Mem.head _))
  have f2 : 0 ≤ (-1) + (1 * τ 133 + 0) := hf _ (List.Mem.tail _ (List.Mem.tail _ (List.Mem.head _)))
  have f3 : 0 ≤ 11 + ((-1) * τ 134 + 0) := hf _ (List.Mem.tail _ (List.Mem.tail _ (List.Mem.tail _ (List.Mem.head _))))
  have f4 : 0 ≤ (-5) + (1 * τ 19001 + 0) := hf _ (List.Mem.tail _ (List.Mem.tail _ (List.Mem.tail _ (List.Mem.tail _ (List.Mem.head _)))))
  have f5 : 0 ≤ 5 + ((-1) * τ 19001 + 0) := hf _ (List.Mem.tail _ (List.Mem.tail _ (List.Mem.tail _ (List.Mem.tail _ (List.Mem.tail _ (List.Mem.head _))))))
  have f6 : 0 ≤ (-3) + (1 * τ 19002 + 0) := hf _ (List.Mem.tail _ (List.Mem.tail _ (List.Mem.tail _ (List.Mem.tail _ (List.Mem.tail _ (List.Mem.tail _ (List.Mem.head _)))))))
  have f7 : 0 ≤ 3 + ((-1) * τ 19002 + 0) := hf _ (List.Mem.tail _ (List.Mem.tail _ (List.Mem.tail _ (List.Mem.tail _ (List.Mem.tail _ (List.Mem.tail _ (List.Mem.tail _ (List.Mem.head _))))))))
  have f8 : 0 ≤ 0 + ((-1) * τ 19003 + 0) := hf _ (List.Mem.tail _ (List.Mem.tail _ (List.Mem.tail _ (List.Mem.tail _ (List.Mem.tail _ (List.Mem.tail _ (List.Mem.tail _ (List.Mem.tail _ (List.Mem.head _)))))))))
  have f9 : 0 ≤ 0 + (1 * τ 1000000 + ((-1) * τ 1000003 + 0)) := hf _ (List.Mem.tail _ (List.Mem.tail _ (List.Mem.tail _ (List.Mem.tail _ (List.Mem.tail _ (List.Mem.tail _ (List.Mem.tail _ (List.Mem.tail _ (List.Mem.tail _ (List.Mem.head _))))))))))
  have f10 : 0 ≤ 0 + ((-1) * τ 1000000 + (1 * τ 1000003 + 0)) := hf _ (List.Mem.tail _ (List.Mem.tail _ (List.Mem.tail _ (List.Mem.tail _ (List.Mem.tail _ (List.Mem.tail _ (List.Mem.tail _ (List.Mem.tail _ (List.Mem.tail _ (List.Mem.tail _ (List.Mem.head _)))))))))))
  have f11 : 0 ≤ 0 + (1 * τ 1000001 + ((-1) * τ 1000002 + 0)) := hf _ (List.Mem.tail _ (List.Mem.tail _ (List.Mem.tail _ (List.Mem.tail _ (List.Mem.tail _ (List.Mem.tail _ (List.Mem.tail _ (List.Mem.tail _ (List.Mem.tail _ (List.Mem.tail _ (List.Mem.tail _ (List.Mem.head _))))))))))))
  have f12 : 0 ≤ 0 + ((-1) * τ 1000001 + (1 * τ 1000002 + 0)) := hf _ (List.Mem.tail _ (List.Mem.tail _ (List.Mem.tail _ (List.Mem.tail _ (List.Mem.tail _ (List.Mem.tail _ (List.Mem.tail _ (List.Mem.tail _ (List.Mem.tail _ (List.Mem.tail _ (List.Mem.tail _ (List.Mem.tail _ (List.Mem.head _)))))))))))))
  have f13 : 0 ≤ (-1) + (1 * τ 19001 + ((-1) * τ 19002 + 0)) := hf _ (List.Mem.tail _ (List.Mem.tail _ (List.Mem.tail _ (List.Mem.tail _ (List.Mem.tail _ (List.Mem.tail _ (List.Mem.tail _ (List.Mem.tail _ (List.Mem.tail _ (List.Mem.tail _ (List.Mem.tail _ (List.Mem.tail _ (List.Mem.tail _ (List.Mem.head _))))))))))))))
  have f14 : 0 ≤ (-1) + (1 * τ 133 + ((-1) * τ 19002 + 0)) := hf _ (List.Mem.tail _ (List.Mem.tail _ (List.Mem.tail _ (List.Mem.tail _ (List.Mem.tail _ (List.Mem.tail _ (List.Mem.tail _ (List.Mem.tail _ (List.Mem.tail _ (List.Mem.tail _ (List.Mem.tail _ (List.Mem.tail _ (List.Mem.tail _ (List.Mem.tail _ (List.Mem.head _)))))))))))))))
  have f15 : 0 ≤ (-1) + (1 * τ 133 + ((-1) * τ 19001 + 0)) := hf _ (List.Mem.tail _ (List.Mem.tail _ (List.Mem.tail _ (List.Mem.tail _ (List.Mem.tail _ (List.Mem.tail _ (List.Mem.tail _ (List.Mem.tail _ (List.Mem.tail _ (List.Mem.tail _ (List.Mem.tail _ (List.Mem.tail _ (List.Mem.tail _ (List.Mem.tail _ (List.Mem.tail _ (List.Mem.head _))))))))))))))))
  have m134 : σ' 134 = 1 + (1 * τ 134 + 0) := hm 134 (by decide)
  clear hf hm
  exact Or.inl ⟨by omega, ⟨by omega, by omega, by omega, by omega, by omega, by omega⟩, by omega⟩
theorem lw_mwx_145 {as : List rv_A} {σ σ' : Nat → Int} {o : rv_O} {x : Int32} {a1 a2 : Int} {τ : Nat → Int} (hx : o.1 = some (.inl x)) (h1 : lw_av as 1 = a1) (h2 : lw_av as 2 = a2) (hb : ∀ s, (sx_sr s).1 ≤ σ s ∧ σ s ≤ (sx_sr s).2) (hW : lw_W ([(18547, 32, 255), (18549, 8, 255), (18590, 8, 255), (18593, 32, 255)], [(0, [(18547, (-1)), (1000000, 1)]), (0, [(18549, (-1)), (1000001, 1)]), ((-1), [(133, 1)]), (11, [(134, (-1))]), ((-5), [(19001, 1)]), (5, [(19001, (-1))]), ((-3), [(19002, 1)]), (3, [(19002, (-1))]), ((-1), [(19003, 1)]), (0, [(1000000, 1), (1000003, (-1))]), (0, [(1000000, (-1)), (1000003, 1)]), (0, [(1000001, 1), (1000002, (-1))]), (0, [(1000001, (-1)), (1000002, 1)]), ((-1), [(19001, (-1)), (19002, 1)]), ((-1), [(133, 1), (19002, (-1))]), ((-1), [(133, 1), (19001, (-1))])], [(9, (0, [])), (134, (1, [(134, 1)])), (7048, ((-2), [])), (7049, ((-2), [])), (8069, (0, [])), (11396, ((-2), [])), (18547, (0, [(1000000, 1)])), (18549, (0, [(1000001, 1)])), (18588, (0, [(18549, 1)])), (18589, (8, [])), (18590, (0, [(1000002, 1)])), (18591, (0, [(18547, 1)])), (18592, (32, [])), (18593, (0, [(1000003, 1)])), (18594, (2, []))], some (false, (1, []))) as σ σ' τ o) : lw_mwx_C a1 a2 x.toInt σ σ' := by
  unfold lw_mwx_C
  have b133 : 0 ≤ σ 133 ∧ σ 133 ≤ 8 := by
    have h0 := hb 133
    rw [show sx_sr 133 = (0, 8) from by decide +kernel] at h0
    exact h0
  have b134 : 0 ≤ σ 134 ∧ σ 134 ≤ 12 := by
    have h0 := hb 134
    rw [show sx_sr 134 = (0, 12) from by decide +kernel] at h0
    exact h0
  obtain ⟨hs, ht, hf, hr, hm, hw⟩ := hW
  have e1 : τ 19001 = a1 := by rw [ht 19001 (by decide) (by decide)]; exact h1
  have e2 : τ 19002 = a2 := by rw [ht 19002 (by decide) (by decide)]; exact h2
  have s133 : τ 133 = σ 133 := hs 133 (by decide)
  have s134 : τ 134 = σ 134 := hs 134 (by decide)
  clear hs ht hb
  rw [hx] at hr
  obtain ⟨y, hy, hv⟩ := hr
  cases hy
  replace hv : x.toInt = 1 + 0 := hv
  have f0 : 0 ≤ 0 + ((-1) * τ 18547 + (1 * τ 1000000 + 0)) := hf _ (List.Mem.head _)
  have f1 : 0 ≤ 0 + ((-1) * τ 18549 + (1 * τ 1000001 + 0)) := hf _ (List.Mem.tail _ (List.Mem.head _))
  have f2 : 0 ≤ (-1) + (1 * τ 133 + 0) := hf _ (List.Mem.tail _ (List.Mem.tail _ (List.Mem.head _)))
  have f3 : 0 ≤ 11 + ((-1) * τ 134 + 0) := hf _ (List.Mem.tail _ (List.Mem.tail _ (List.Mem.tail _ (List.Mem.head _))))
  have f4 : 0 ≤ (-5) + (1 * τ 19001 + 0) := hf _ (List.Mem.tail _ (List.Mem.tail _ (List.Mem.tail _ (List.Mem.tail _ (List.Mem.head _)))))
  have f5 : 0 ≤ 5 + ((-1) * τ 19001 + 0) := hf _ (List.Mem.tail _ (List.Mem.tail _ (List.Mem.tail _ (List.Mem.tail _ (List.Mem.tail _ (List.Mem.head _))))))
  have f6 : 0 ≤ (-3) + (1 * τ 19002 + 0) := hf _ (List.Mem.tail _ (List.Mem.tail _ (List.Mem.tail _ (List.Mem.tail _ (List.Mem.tail _ (List.Mem.tail _ (List.Mem.head _)))))))
  have f7 : 0 ≤ 3 + ((-1) * τ 19002 + 0) := hf _ (List.Mem.tail _ (List.Mem.tail _ (List.Mem.tail _ (List.Mem.tail _ (List.Mem.tail _ (List.Mem.tail _ (List.Mem.tail _ (List.Mem.head _))))))))
  have f8 : 0 ≤ (-1) + (1 * τ 19003 + 0) := hf _ (List.Mem.tail _ (List.Mem.tail _ (List.Mem.tail _ (List.Mem.tail _ (List.Mem.tail _ (List.Mem.tail _ (List.Mem.tail _ (List.Mem.tail _ (List.Mem.head _)))))))))
  have f9 : 0 ≤ 0 + (1 * τ 1000000 + ((-1) * τ 1000003 + 0)) := hf _ (List.Mem.tail _ (List.Mem.tail _ (List.Mem.tail _ (List.Mem.tail _ (List.Mem.tail _ (List.Mem.tail _ (List.Mem.tail _ (List.Mem.tail _ (List.Mem.tail _ (List.Mem.head _))))))))))
  have f10 : 0 ≤ 0 + ((-1) * τ 1000000 + (1 * τ 1000003 + 0)) := hf _ (List.Mem.tail _ (List.Mem.tail _ (List.Mem.tail _ (List.Mem.tail _ (List.Mem.tail _ (List.Mem.tail _ (List.Mem.tail _ (List.Mem.tail _ (List.Mem.tail _ (List.Mem.tail _ (List.Mem.head _)))))))))))
  have f11 : 0 ≤ 0 + (1 * τ 1000001 + ((-1) * τ 1000002 + 0)) := hf _ (List.Mem.tail _ (List.Mem.tail _ (List.Mem.tail _ (List.Mem.tail _ (List.Mem.tail _ (List.Mem.tail _ (List.Mem.tail _ (List.Mem.tail _ (List.Mem.tail _ (List.Mem.tail _ (List.Mem.tail _ (List.Mem.head _))))))))))))
  have f12 : 0 ≤ 0 + ((-1) * τ 1000001 + (1 * τ 1000002 + 0)) := hf _ (List.Mem.tail _ (List.Mem.tail _ (List.Mem.tail _ (List.Mem.tail _ (List.Mem.tail _ (List.Mem.tail _ (List.Mem.tail _ (List.Mem.tail _ (List.Mem.tail _ (List.Mem.tail _ (List.Mem.tail _ (List.Mem.tail _ (List.Mem.head _)))))))))))))
  have f13 : 0 ≤ (-1) + ((-1) * τ 19001 + (1 * τ 19002 + 0)) := hf _ (List.Mem.tail _ (List.Mem.tail _ (List.Mem.tail _ (List.Mem.tail _ (List.Mem.tail _ (List.Mem.tail _ (List.Mem.tail _ (List.Mem.tail _ (List.Mem.tail _ (List.Mem.tail _ (List.Mem.tail _ (List.Mem.tail _ (List.Mem.tail _ (List.Mem.head _))))))))))))))
  have f14 : 0 ≤ (-1) + (1 * τ 133 + ((-1) * τ 19002 + 0)) := hf _ (List.Mem.tail _ (List.Mem.tail _ (List.Mem.tail _ (List.Mem.tail _ (List.Mem.tail _ (List.Mem.tail _ (List.Mem.tail _ (List.Mem.tail _ (List.Mem.tail _ (List.Mem.tail _ (List.Mem.tail _ (List.Mem.tail _ (List.Mem.tail _ (List.Mem.tail _ (List.Mem.head _)))))))))))))))
  have f15 : 0 ≤ (-1) + (1 * τ 133 + ((-1) * τ 19001 + 0)) := hf _ (List.Mem.tail _ (List.Mem.tail _ (List.Mem.tail _ (List.Mem.tail _ (List.Mem.tail _ (List.Mem.tail _ (List.Mem.tail _ (List.Mem.tail _ (List.Mem.tail _ (List.Mem.tail _ (List.Mem.tail _ (List.Mem.tail _ (List.Mem.tail _ (List.Mem.tail _ (List.Mem.tail _ (List.Mem.head _))))))))))))))))
  have m134 : σ' 134 = 1 + (1 * τ 134 + 0) := hm 134 (by decide)
  clear hf hm
  exact Or.inl ⟨by omega, ⟨by omega, by omega, by omega, by omega, by omega, by omega⟩, by omega⟩
theorem lw_mwx_146 {as : List rv_A} {σ σ' : Nat → Int} {o : rv_O} {x : Int32} {a1 a2 : Int} {τ : Nat → Int} (hx : o.1 = some (.inl x)) (h1 : lw_av as 1 = a1) (h2 : lw_av as 2 = a2) (hb : ∀ s, (sx_sr s).1 ≤ σ s ∧ σ s ≤ (sx_sr s).2) (hW : lw_W ([(18547, 32, 255), (18549, 8, 255), (18590, 8, 255), (18593, 32, 255)], [(0, [(18547, (-1)), (1000000, 1)]), (0, [(18549, (-1)), (1000001, 1)]), ((-1), [(133, 1)]), (11, [(134, (-1))]), ((-5), [(19001, 1)]), (5, [(19001, (-1))]), ((-3), [(19002, 1)]), (3, [(19002, (-1))]), ((-1), [(19003, 1)]), (0, [(1000000, 1), (1000003, (-1))]), (0, [(1000000, (-1)), (1000003, 1)]), (0, [(1000001, 1), (1000002, (-1))]), (0, [(1000001, (-1)), (1000002, 1)]), ((-1), [(19001, 1), (19002, (-1))]), ((-1), [(133, 1), (19002, (-1))]), ((-1), [(133, 1), (19001, (-1))])], [(9, (0, [])), (134, (1, [(134, 1)])), (7048, ((-2), [])), (7049, ((-2), [])), (8069, (0, [])), (11396, ((-2), [])), (18547, (0, [(1000000, 1)])), (18549, (0, [(1000001, 1)])), (18588, (0, [(18549, 1)])), (18589, (8, [])), (18590, (0, [(1000002, 1)])), (18591, (0, [(18547, 1)])), (18592, (32, [])), (18593, (0, [(1000003, 1)])), (18594, (2, []))], some (false, (1, []))) as σ σ' τ o) : lw_mwx_C a1 a2 x.toInt σ σ' := by
  unfold lw_mwx_C
  have b133 : 0 ≤ σ 133 ∧ σ 133 ≤ 8 := by
    have h0 := hb 133
    rw [show sx_sr 133 = (0, 8) from by decide +kernel] at h0
    exact h0
  have b134 : 0 ≤ σ 134 ∧ σ 134 ≤ 12 := by
    have h0 := hb 134
    rw [show sx_sr 134 = (0, 12) from by decide +kernel] at h0
    exact h0
  obtain ⟨hs, ht, hf, hr, hm, hw⟩ := hW
  have e1 : τ 19001 = a1 := by rw [ht 19001 (by decide) (by decide)]; exact h1
  have e2 : τ 19002 = a2 := by rw [ht 19002 (by decide) (by decide)]; exact h2
  have s133 : τ 133 = σ 133 := hs 133 (by decide)
  have s134 : τ 134 = σ 134 := hs 134 (by decide)
  clear hs ht hb
  rw [hx] at hr
  obtain ⟨y, hy, hv⟩ := hr
  cases hy
  replace hv : x.toInt = 1 + 0 := hv
  have f0 : 0 ≤ 0 + ((-1) * τ 18547 + (1 * τ 1000000 + 0)) := hf _ (List.Mem.head _)
  have f1 : 0 ≤ 0 + ((-1) * τ 18549 + (1 * τ 1000001 + 0)) := hf _ (List.Mem.tail _ (List.Mem.head _))
  have f2 : 0 ≤ (-1) + (1 * τ 133 + 0) := hf _ (List.Mem.tail _ (List.Mem.tail _ (List.Mem.head _)))
  have f3 : 0 ≤ 11 + ((-1) * τ 134 + 0) := hf _ (List.Mem.tail _ (List.Mem.tail _ (List.Mem.tail _ (List.Mem.head _))))
  have f4 : 0 ≤ (-5) + (1 * τ 19001 + 0) := hf _ (List.Mem.tail _ (List.Mem.tail _ (List.Mem.tail _ (List.Mem.tail _ (List.Mem.head _)))))
  have f5 : 0 ≤ 5 + ((-1) * τ 19001 + 0) := hf _ (List.Mem.tail _ (List.Mem.tail _ (List.Mem.tail _ (List.Mem.tail _ (List.Mem.tail _ (List.Mem.head _))))))
  have f6 : 0 ≤ (-3) + (1 * τ 19002 + 0) := hf _ (List.Mem.tail _ (List.Mem.tail _ (List.Mem.tail _ (List.Mem.tail _ (List.Mem.tail _ (List.Mem.tail _ (List.Mem.head _)))))))
  have f7 : 0 ≤ 3 + ((-1) * τ 19002 + 0) := hf _ (List.Mem.tail _ (List.Mem.tail _ (List.Mem.tail _ (List.Mem.tail _ (List.Mem.tail _ (List.Mem.tail _ (List.Mem.tail _ (List.Mem.head _))))))))
  have f8 : 0 ≤ (-1) + (1 * τ 19003 + 0) := hf _ (List.Mem.tail _ (List.Mem.tail _ (List.Mem.tail _ (List.Mem.tail _ (List.Mem.tail _ (List.Mem.tail _ (List.Mem.tail _ (List.Mem.tail _ (List.Mem.head _)))))))))
  have f9 : 0 ≤ 0 + (1 * τ 1000000 + ((-1) * τ 1000003 + 0)) := hf _ (List.Mem.tail _ (List.Mem.tail _ (List.Mem.tail _ (List.Mem.tail _ (List.Mem.tail _ (List.Mem.tail _ (List.Mem.tail _ (List.Mem.tail _ (List.Mem.tail _ (List.Mem.head _))))))))))
  have f10 : 0 ≤ 0 + ((-1) * τ 1000000 + (1 * τ 1000003 + 0)) := hf _ (List.Mem.tail _ (List.Mem.tail _ (List.Mem.tail _ (List.Mem.tail _ (List.Mem.tail _ (List.Mem.tail _ (List.Mem.tail _ (List.Mem.tail _ (List.Mem.tail _ (List.Mem.tail _ (List.Mem.head _)))))))))))
  have f11 : 0 ≤ 0 + (1 * τ 1000001 + ((-1) * τ 1000002 + 0)) := hf _ (List.Mem.tail _ (List.Mem.tail _ (List.Mem.tail _ (List.Mem.tail _ (List.Mem.tail _ (List.Mem.tail _ (List.Mem.tail _ (List.Mem.tail _ (List.Mem.tail _ (List.Mem.tail _ (List.Mem.tail _ (List.Mem.head _))))))))))))
  have f12 : 0 ≤ 0 + ((-1) * τ 1000001 + (1 * τ 1000002 + 0)) := hf _ (List.Mem.tail _ (List.Mem.tail _ (List.Mem.tail _ (List.Mem.tail _ (List.Mem.tail _ (List.Mem.tail _ (List.Mem.tail _ (List.Mem.tail _ (List.Mem.tail _ (List.Mem.tail _ (List.Mem.tail _ (List.Mem.tail _ (List.Mem.head _)))))))))))))
  have f13 : 0 ≤ (-1) + (1 * τ 19001 + ((-1) * τ 19002 + 0)) := hf _ (List.Mem.tail _ (List.Mem.tail _ (List.Mem.tail _ (List.Mem.tail _ (List.Mem.tail _ (List.Mem.tail _ (List.Mem.tail _ (List.Mem.tail _ (List.Mem.tail _ (List.Mem.tail _ (List.Mem.tail _ (List.Mem.tail _ (List.Mem.tail _ (List.Mem.head _))))))))))))))
  have f14 : 0 ≤ (-1) + (1 * τ 133 + ((-1) * τ 19002 + 0)) := hf _ (List.Mem.tail _ (List.Mem.tail _ (List.Mem.tail _ (List.Mem.tail _ (List.Mem.tail _ (List.Mem.tail _ (List.Mem.tail _ (List.Mem.tail _ (List.Mem.tail _ (List.Mem.tail _ (List.Mem.tail _ (List.Mem.tail _ (List.Mem.tail _ (List.Mem.tail _ (List.Mem.head _)))))))))))))))
  have f15 : 0 ≤ (-1) + (1 * τ 133 + ((-1) * τ 19001 + 0)) := hf _ (List.Mem.tail _ (List.Mem.tail _ (List.Mem.tail _ (List.Mem.tail _ (List.Mem.tail _ (List.Mem.tail _ (List.Mem.tail _ (List.Mem.tail _ (List.Mem.tail _ (List.Mem.tail _ (List.Mem.tail _ (List.Mem.tail _ (List.Mem.tail _ (List.Mem.tail _ (List.Mem.tail _ (List.Mem.head _))))))))))))))))
  have m134 : σ' 134 = 1 + (1 * τ 134 + 0) := hm 134 (by decide)
  clear hf hm
  exact Or.inl ⟨by omega, ⟨by omega, by omega, by omega, by omega, by omega, by omega⟩, by omega⟩
theorem lw_mwx_147 {as : List rv_A} {σ σ' : Nat → Int} {o : rv_O} {x : Int32} {a1 a2 : Int} {τ : Nat → Int} (hx : o.1 = some (.inl x)) (h1 : lw_av as 1 = a1) (h2 : lw_av as 2 = a2) (hb : ∀ s, (sx_sr s).1 ≤ σ s ∧ σ s ≤ (sx_sr s).2) (hW : lw_W ([(18540, 32, 255), (18541, 16, 255), (18590, 16, 255), (18593, 32, 255)], [(0, [(18540, (-1)), (1000000, 1)]), (0, [(18541, (-1)), (1000001, 1)]), ((-1), [(133, 1)]), (11, [(134, (-1))]), ((-5), [(19001, 1)]), (5, [(19001, (-1))]), ((-4), [(19002, 1)]), (4, [(19002, (-1))]), (0, [(19003, (-1))]), (0, [(1000000, 1), (1000003, (-1))]), (0, [(1000000, (-1)), (1000003, 1)]), (0, [(1000001, 1), (1000002, (-1))]), (0, [(1000001, (-1)), (1000002, 1)]), ((-1), [(19001, (-1)), (19002, 1)]), ((-1), [(133, 1), (19002, (-1))]), ((-1), [(133, 1), (19001, (-1))])], [(9, (0, [])), (134, (1, [(134, 1)])), (7048, ((-2), [])), (7049, ((-2), [])), (8069, (0, [])), (11396, ((-2), [])), (18540, (0, [(1000000, 1)])), (18541, (0, [(1000001, 1)])), (18588, (0, [(18541, 1)])), (18589, (16, [])), (18590, (0, [(1000002, 1)])), (18591, (0, [(18540, 1)])), (18592, (32, [])), (18593, (0, [(1000003, 1)])), (18594, (2, []))], some (false, (1, []))) as σ σ' τ o) : lw_mwx_C a1 a2 x.toInt σ σ' := by
  unfold lw_mwx_C
  have b133 : 0 ≤ σ 133 ∧ σ 133 ≤ 8 := by
    have h0 := hb 133
    rw [show sx_sr 133 = (0, 8) from by decide +kernel] at h0
    exact h0
  have b134 : 0 ≤ σ 134 ∧ σ 134 ≤ 12 := by
    have h0 := hb 134
    rw [show sx_sr 134 = (0, 12) from by decide +kernel] at h0
    exact h0
  obtain ⟨hs, ht, hf, hr, hm, hw⟩ := hW
  have e1 : τ 19001 = a1 := by rw [ht 19001 (by decide) (by decide)]; exact h1
  have e2 : τ 19002 = a2 := by rw [ht 19002 (by decide) (by decide)]; exact h2
  have s133 : τ 133 = σ 133 := hs 133 (by decide)
  have s134 : τ 134 = σ 134 := hs 134 (by decide)
  clear hs ht hb
  rw [hx] at hr
  obtain ⟨y, hy, hv⟩ := hr
  cases hy
  replace hv : x.toInt = 1 + 0 := hv
  have f0 : 0 ≤ 0 + ((-1) * τ 18540 + (1 * τ 1000000 + 0)) := hf _ (List.Mem.head _)
  have f1 : 0 ≤ 0 + ((-1) * τ 18541 + (1 * τ 1000001 + 0)) := hf _ (List.Mem.tail _ (List.Mem.head _))
  have f2 : 0 ≤ (-1) + (1 * τ 133 + 0) := hf _ (List.Mem.tail _ (List.Mem.tail _ (List.Mem.head _)))
  have f3 : 0 ≤ 11 + ((-1) * τ 134 + 0) := hf _ (List.Mem.tail _ (List.Mem.tail _ (List.Mem.tail _ (List.Mem.head _))))
  have f4 : 0 ≤ (-5) + (1 * τ 19001 + 0) := hf _ (List.Mem.tail _ (List.Mem.tail _ (List.Mem.tail _ (List.Mem.tail _ (List.Mem.head _)))))
  have f5 : 0 ≤ 5 + ((-1) * τ 19001 + 0) := hf _ (List.Mem.tail _ (List.Mem.tail _ (List.Mem.tail _ (List.Mem.tail _ (List.Mem.tail _ (List.Mem.head _))))))
  have f6 : 0 ≤ (-4) + (1 * τ 19002 + 0) := hf _ (List.Mem.tail _ (List.Mem.tail _ (List.Mem.tail _ (List.Mem.tail _ (List.Mem.tail _ (List.Mem.tail _ (List.Mem.head _)))))))
  have f7 : 0 ≤ 4 + ((-1) * τ 19002 + 0) := hf _ (List.Mem.tail _ (List.Mem.tail _ (List.Mem.tail _ (List.Mem.tail _ (List.Mem.tail _ (List.Mem.tail _ (List.Mem.tail _ (List.Mem.head _))))))))
  have f8 : 0 ≤ 0 + ((-1) * τ 19003 + 0) := hf _ (List.Mem.tail _ (List.Mem.tail _ (List.Mem.tail _ (List.Mem.tail _ (List.Mem.tail _ (List.Mem.tail _ (List.Mem.tail _ (List.Mem.tail _ (List.Mem.head _)))))))))
  have f9 : 0 ≤ 0 + (1 * τ 1000000 + ((-1) * τ 1000003 + 0)) := hf _ (List.Mem.tail _ (List.Mem.tail _ (List.Mem.tail _ (List.Mem.tail _ (List.Mem.tail _ (List.Mem.tail _ (List.Mem.tail _ (List.Mem.tail _ (List.Mem.tail _ (List.Mem.head _))))))))))
  have f10 : 0 ≤ 0 + ((-1) * τ 1000000 + (1 * τ 1000003 + 0)) := hf _ (List.Mem.tail _ (List.Mem.tail _ (List.Mem.tail _ (List.Mem.tail _ (List.Mem.tail _ (List.Mem.tail _ (List.Mem.tail _ (List.Mem.tail _ (List.Mem.tail _ (List.Mem.tail _ (List.Mem.head _)))))))))))
  have f11 : 0 ≤ 0 + (1 * τ 1000001 + ((-1) * τ 1000002 + 0)) := hf _ (List.Mem.tail _ (List.Mem.tail _ (List.Mem.tail _ (List.Mem.tail _ (List.Mem.tail _ (List.Mem.tail _ (List.Mem.tail _ (List.Mem.tail _ (List.Mem.tail _ (List.Mem.tail _ (List.Mem.tail _ (List.Mem.head _))))))))))))
  have f12 : 0 ≤ 0 + ((-1) * τ 1000001 + (1 * τ 1000002 + 0)) := hf _ (List.Mem.tail _ (List.Mem.tail _ (List.Mem.tail _ (List.Mem.tail _ (List.Mem.tail _ (List.Mem.tail _ (List.Mem.tail _ (List.Mem.tail _ (List.Mem.tail _ (List.Mem.tail _ (List.Mem.tail _ (List.Mem.tail _ (List.Mem.head _)))))))))))))
  have f13 : 0 ≤ (-1) + ((-1) * τ 19001 + (1 * τ 19002 + 0)) := hf _ (List.Mem.tail _ (List.Mem.tail _ (List.Mem.tail _ (List.Mem.tail _ (List.Mem.tail _ (List.Mem.tail _ (List.Mem.tail _ (List.Mem.tail _ (List.Mem.tail _ (List.Mem.tail _ (List.Mem.tail _ (List.Mem.tail _ (List.Mem.tail _ (List.Mem.head _))))))))))))))
  have f14 : 0 ≤ (-1) + (1 * τ 133 + ((-1) * τ 19002 + 0)) := hf _ (List.Mem.tail _ (List.Mem.tail _ (List.Mem.tail _ (List.Mem.tail _ (List.Mem.tail _ (List.Mem.tail _ (List.Mem.tail _ (List.Mem.tail _ (List.Mem.tail _ (List.Mem.tail _ (List.Mem.tail _ (List.Mem.tail _ (List.Mem.tail _ (List.Mem.tail _ (List.Mem.head _)))))))))))))))
  have f15 : 0 ≤ (-1) + (1 * τ 133 + ((-1) * τ 19001 + 0)) := hf _ (List.Mem.tail _ (List.Mem.tail _ (List.Mem.tail _ (List.Mem.tail _ (List.Mem.tail _ (List.Mem.tail _ (List.Mem.tail _ (List.Mem.tail _ (List.Mem.tail _ (List.Mem.tail _ (List.Mem.tail _ (List.Mem.tail _ (List.Mem.tail _ (List.Mem.tail _ (List.Mem.tail _ (List.Mem.head _))))))))))))))))
  have m134 : σ' 134 = 1 + (1 * τ 134 + 0) := hm 134 (by decide)
  clear hf hm
  exact Or.inl ⟨by omega, ⟨by omega, by omega, by omega, by omega, by omega, by omega⟩, by omega⟩
theorem lw_mwx_148 {as : List rv_A} {σ σ' : Nat → Int} {o : rv_O} {x : Int32} {a1 a2 : Int} {τ : Nat → Int} (hx : o.1 = some (.inl x)) (h1 : lw_av as 1 = a1) (h2 : lw_av as 2 = a2) (hb : ∀ s, (sx_sr s).1 ≤ σ s ∧ σ s ≤ (sx_sr s).2) (hW : lw_W ([(18540, 32, 255), (18541, 16, 255), (18590, 16, 255), (18593, 32, 255)], [(0, [(18540, (-1)), (1000000, 1)]), (0, [(18541, (-1)), (1000001, 1)]), ((-1), [(133, 1)]), (11, [(134, (-1))]), ((-5), [(19001, 1)]), (5, [(19001, (-1))]), ((-4), [(19002, 1)]), (4, [(19002, (-1))]), (0, [(19003, (-1))]), (0, [(1000000, 1), (1000003, (-1))]), (0, [(1000000, (-1)), (1000003, 1)]), (0, [(1000001, 1), (1000002, (-1))]), (0, [(1000001, (-1)), (1000002, 1)]), ((-1), [(19001, 1), (19002, (-1))]), ((-1), [(133, 1), (19002, (-1))]), ((-1), [(133, 1), (19001, (-1))])], [(9, (0, [])), (134, (1, [(134, 1)])), (7048, ((-2), [])), (7049, ((-2), [])), (8069, (0, [])), (11396, ((-2), [])), (18540, (0, [(1000000, 1)])), (18541, (0, [(1000001, 1)])), (18588, (0, [(18541, 1)])), (18589, (16, [])), (18590, (0, [(1000002, 1)])), (18591, (0, [(18540, 1)])), (18592, (32, [])), (18593, (0, [(1000003, 1)])), (18594, (2, []))], some (false, (1, []))) as σ σ' τ o) : lw_mwx_C a1 a2 x.toInt σ σ' := by
  unfold lw_mwx_C
  have b133 : 0 ≤ σ 133 ∧ σ 133 ≤ 8 := by
    have h0 := hb 133
    rw [show sx_sr 133 = (0, 8) from by decide +kernel] at h0
    exact h0
  have b134 : 0 ≤ σ 134 ∧ σ 134 ≤ 12 := by
    have h0 := hb 134
    rw [show sx_sr 134 = (0, 12) from by decide +kernel] at h0
    exact h0
  obtain ⟨hs, ht, hf, hr, hm, hw⟩ := hW
  have e1 : τ 19001 = a1 := by rw [ht 19001 (by decide) (by decide)]; exact h1
  have e2 : τ 19002 = a2 := by rw [ht 19002 (by decide) (by decide)]; exact h2
  have s133 : τ 133 = σ 133 := hs 133 (by decide)
  have s134 : τ 134 = σ 134 := hs 134 (by decide)
  clear hs ht hb
  rw [hx] at hr
  obtain ⟨y, hy, hv⟩ := hr
  cases hy
  replace hv : x.toInt = 1 + 0 := hv
  have f0 : 0 ≤ 0 + ((-1) * τ 18540 + (1 * τ 1000000 + 0)) := hf _ (List.Mem.head _)
  have f1 : 0 ≤ 0 + ((-1) * τ 18541 + (1 * τ 1000001 + 0)) := hf _ (List.Mem.tail _ (List.Mem.head _))
  have f2 : 0 ≤ (-1) + (1 * τ 133 + 0) := hf _ (List.Mem.tail _ (List.Mem.tail _ (List.Mem.head _)))
  have f3 : 0 ≤ 11 + ((-1) * τ 134 + 0) := hf _ (List.Mem.tail _ (List.Mem.tail _ (List.Mem.tail _ (List.Mem.head _))))
  have f4 : 0 ≤ (-5) + (1 * τ 19001 + 0) := hf _ (List.Mem.tail _ (List.Mem.tail _ (List.Mem.tail _ (List.Mem.tail _ (List.Mem.head _)))))
  have f5 : 0 ≤ 5 + ((-1) * τ 19001 + 0) := hf _ (List.Mem.tail _ (List.Mem.tail _ (List.Mem.tail _ (List.Mem.tail _ (List.Mem.tail _ (List.Mem.head _))))))
  have f6 : 0 ≤ (-4) + (1 * τ 19002 + 0) := hf _ (List.Mem.tail _ (List.Mem.tail _ (List.Mem.tail _ (List.Mem.tail _ (List.Mem.tail _ (List.Mem.tail _ (List.Mem.head _)))))))
  have f7 : 0 ≤ 4 + ((-1) * τ 19002 + 0) := hf _ (List.Mem.tail _ (List.Mem.tail _ (List.Mem.tail _ (List.Mem.tail _ (List.Mem.tail _ (List.Mem.tail _ (List.Mem.tail _ (List.Mem.head _))))))))
  have f8 : 0 ≤ 0 + ((-1) * τ 19003 + 0) := hf _ (List.Mem.tail _ (List.Mem.tail _ (List.Mem.tail _ (List.Mem.tail _ (List.Mem.tail _ (List.Mem.tail _ (List.Mem.tail _ (List.Mem.tail _ (List.Mem.head _)))))))))
  have f9 : 0 ≤ 0 + (1 * τ 1000000 + ((-1) * τ 1000003 + 0)) := hf _ (List.Mem.tail _ (List.Mem.tail _ (List.Mem.tail _ (List.Mem.tail _ (List.Mem.tail _ (List.Mem.tail _ (List.Mem.tail _ (List.Mem.tail _ (List.Mem.tail _ (List.Mem.head _))))))))))
  have f10 : 0 ≤ 0 + ((-1) * τ 1000000 + (1 * τ 1000003 + 0)) := hf _ (List.Mem.tail _ (List.Mem.tail _ (List.Mem.tail _ (List.Mem.tail _ (List.Mem.tail _ (List.Mem.tail _ (List.Mem.tail _ (List.Mem.tail _ (List.Mem.tail _ (List.Mem.tail _ (List.Mem.head _)))))))))))
  have f11 : 0 ≤ 0 + (1 * τ 1000001 + ((-1) * τ 1000002 + 0)) := hf _ (List.Mem.tail _ (List.Mem.tail _ (List.Mem.tail _ (List.Mem.tail _ (List.Mem.tail _ (List.Mem.tail _ (List.Mem.tail _ (List.Mem.tail _ (List.Mem.tail _ (List.Mem.tail _ (List.Mem.tail _ (List.Mem.head _))))))))))))
  have f12 : 0 ≤ 0 + ((-1) * τ 1000001 + (1 * τ 1000002 + 0)) := hf _ (List.Mem.tail _ (List.Mem.tail _ (List.Mem.tail _ (List.Mem.tail _ (List.Mem.tail _ (List.Mem.tail _ (List.Mem.tail _ (List.Mem.tail _ (List.Mem.tail _ (List.Mem.tail _ (List.Mem.tail _ (List.Mem.tail _ (List.Mem.head _)))))))))))))
  have f13 : 0 ≤ (-1) + (1 * τ 19001 + ((-1) * τ 19002 + 0)) := hf _ (List.Mem.tail _ (List.Mem.tail _ (List.Mem.tail _ (List.Mem.tail _ (List.Mem.tail _ (List.Mem.tail _ (List.Mem.tail _ (List.Mem.tail _ (List.Mem.tail _ (List.Mem.tail _ (List.Mem.tail _ (List.Mem.tail _ (List.Mem.tail _ (List.Mem.head _))))))))))))))
  have f14 : 0 ≤ (-1) + (1 * τ 133 + ((-1) * τ 19002 + 0)) := hf _ (List.Mem.tail _ (List.Mem.tail _ (List.Mem.tail _ (List.Mem.tail _ (List.Mem.tail _ (List.Mem.tail _ (List.Mem.tail _ (List.Mem.tail _ (List.Mem.tail _ (List.Mem.tail _ (List.Mem.tail _ (List.Mem.tail _ (List.Mem.tail _ (List.Mem.tail _ (List.Mem.head _)))))))))))))))
  have f15 : 0 ≤ (-1) + (1 * τ 133 + ((-1) * τ 19001 + 0)) := hf _ (List.Mem.tail _ (List.Mem.tail _ (List.Mem.tail _ (List.Mem.tail _ (List.Mem.tail _ (List.Mem.tail _ (List.Mem.tail _ (List.Mem.tail _ (List.Mem.tail _ (List.Mem.tail _ (List.Mem.tail _ (List.Mem.tail _ (List.Mem.tail _ (List.Mem.tail _ (List.Mem.tail _ (List.Mem.head _))))))))))))))))
  have m134 : σ' 134 = 1 + (1 * τ 134 + 0) := hm 134 (by decide)
  clear hf hm
  exact Or.inl ⟨by omega, ⟨by omega, by omega, by omega, by omega, by omega, by omega⟩, by omega⟩
theorem lw_mwx_149 {as : List rv_A} {σ σ' : Nat → Int} {o : rv_O} {x : Int32} {a1 a2 : Int} {τ : Nat → Int} (hx : o.1 = some (.inl x)) (h1 : lw_av as 1 = a1) (h2 : lw_av as 2 = a2) (hb : ∀ s, (sx_sr s).1 ≤ σ s ∧ σ s ≤ (sx_sr s).2) (hW : lw_W ([(18548, 32, 255), (18549, 16, 255), (18590, 16, 255), (18593, 32, 255)], [(0, [(18548, (-1)), (1000000, 1)]), (0, [(18549, (-1)), (1000001, 1)]), ((-1), [(133, 1)]), (11, [(134, (-1))]), ((-5), [(19001, 1)]), (5, [(19001, (-1))]), ((-4), [(19002, 1)]), (4, [(19002, (-1))]), ((-1), [(19003, 1)]), (0, [(1000000, 1), (1000003, (-1))]), (0, [(1000000, (-1)), (1000003, 1)]), (0, [(1000001, 1), (1000002, (-1))]), (0, [(1000001, (-1)), (1000002, 1)]), ((-1), [(19001, (-1)), (19002, 1)]), ((-1), [(133, 1), (19002, (-1))]), ((-1), [(133, 1), (19001, (-1))])], [(9, (0, [])), (134, (1, [(134, 1)])), (7048, ((-2), [])), (7049, ((-2), [])), (8069, (0, [])), (11396, ((-2), [])), (18548, (0, [(1000000, 1)])), (18549, (0, [(1000001, 1)])), (18588, (0, [(18549, 1)])), (18589, (16, [])), (18590, (0, [(1000002, 1)])), (18591, (0, [(18548, 1)])), (18592, (32, [])), (18593, (0, [(1000003, 1)])), (18594, (2, []))], some (false, (1, []))) as σ σ' τ o) : lw_mwx_C a1 a2 x.toInt σ σ' := by
  unfold lw_mwx_C
  have b133 : 0 ≤ σ 133 ∧ σ 133 ≤ 8 := by
    have h0 := hb 133
    rw [show sx_sr 133 = (0, 8) from by decide +kernel] at h0
    exact h0
  have b134 : 0 ≤ σ 134 ∧ σ 134 ≤ 12 := by
    have h0 := hb 134
    rw [show sx_sr 134 = (0, 12) from by decide +kernel] at h0
    exact h0
  obtain ⟨hs, ht, hf, hr, hm, hw⟩ := hW
  have e1 : τ 19001 = a1 := by rw [ht 19001 (by decide) (by decide)]; exact h1
  have e2 : τ 19002 = a2 := by rw [ht 19002 (by decide) (by decide)]; exact h2
  have s133 : τ 133 = σ 133 := hs 133 (by decide)
  have s134 : τ 134 = σ 134 := hs 134 (by decide)
  clear hs ht hb
  rw [hx] at hr
  obtain ⟨y, hy, hv⟩ := hr
  cases hy
  replace hv : x.toInt = 1 + 0 := hv
  have f0 : 0 ≤ 0 + ((-1) * τ 18548 + (1 * τ 1000000 + 0)) := hf _ (List.Mem.head _)
  have f1 : 0 ≤ 0 + ((-1) * τ 18549 + (1 * τ 1000001 + 0)) := hf _ (List.Mem.tail _ (List.Mem.head _))
  have f2 : 0 ≤ (-1) + (1 * τ 133 + 0) := hf _ (List.Mem.tail _ (List.Mem.tail _ (List.Mem.head _)))
  have f3 : 0 ≤ 11 + ((-1) * τ 134 + 0) := hf _ (List.Mem.tail _ (List.Mem.tail _ (List.Mem.tail _ (List.Mem.head _))))
  have f4 : 0 ≤ (-5) + (1 * τ 19001 + 0) := hf _ (List.Mem.tail _ (List.Mem.tail _ (List.Mem.tail _ (List.Mem.tail _ (List.Mem.head _)))))
  have f5 : 0 ≤ 5 + ((-1) * τ 19001 + 0) := hf _ (List.Mem.tail _ (List.Mem.tail _ (List.Mem.tail _ (List.Mem.tail _ (List.Mem.tail _ (List.Mem.head _))))))
  have f6 : 0 ≤ (-4) + (1 * τ 19002 + 0) := hf _ (List.Mem.tail _ (List.Mem.tail _ (List.Mem.tail _ (List.Mem.tail _ (List.Mem.tail _ (List.Mem.tail _ (List.Mem.head _)))))))
  have f7 : 0 ≤ 4 + ((-1) * τ 19002 + 0) := hf _ (List.Mem.tail _ (List.Mem.tail _ (List.Mem.tail _ (List.Mem.tail _ (List.Mem.tail _ (List.Mem.tail _ (List.Mem.tail _ (List.Mem.head _))))))))
  have f8 : 0 ≤ (-1) + (1 * τ 19003 + 0) := hf _ (List.Mem.tail _ (List.Mem.tail _ (List.Mem.tail _ (List.Mem.tail _ (List.Mem.tail _ (List.Mem.tail _ (List.Mem.tail _ (List.Mem.tail _ (List.Mem.head _)))))))))
  have f9 : 0 ≤ 0 + (1 * τ 1000000 + ((-1) * τ 1000003 + 0)) := hf _ (List.Mem.tail _ (List.Mem.tail _ (List.Mem.tail _ (List.Mem.tail _ (List.Mem.tail _ (List.Mem.tail _ (List.Mem.tail _ (List.Mem.tail _ (List.Mem.tail _ (List.Mem.head _))))))))))
  have f10 : 0 ≤ 0 + ((-1) * τ 1000000 + (1 * τ 1000003 + 0)) := hf _ (List.Mem.tail _ (List.Mem.tail _ (List.Mem.tail _ (List.Mem.tail _ (List.Mem.tail _ (List.Mem.tail _ (List.Mem.tail _ (List.Mem.tail _ (List.Mem.tail _ (List.Mem.tail _ (List.Mem.head _)))))))))))
  have f11 : 0 ≤ 0 + (1 * τ 1000001 + ((-1) * τ 1000002 + 0)) := hf _ (List.Mem.tail _ (List.Mem.tail _ (List.Mem.tail _ (List.Mem.tail _ (List.Mem.tail _ (List.Mem.tail _ (List.Mem.tail _ (List.Mem.tail _ (List.Mem.tail _ (List.Mem.tail _ (List.Mem.tail _ (List.Mem.head _))))))))))))
  have f12 : 0 ≤ 0 + ((-1) * τ 1000001 + (1 * τ 1000002 + 0)) := hf _ (List.Mem.tail _ (List.Mem.tail _ (List.Mem.tail _ (List.Mem.tail _ (List.Mem.tail _ (List.Mem.tail _ (List.Mem.tail _ (List.Mem.tail _ (List.Mem.tail _ (List.Mem.tail _ (List.Mem.tail _ (List.Mem.tail _ (List.Mem.head _)))))))))))))
  have f13 : 0 ≤ (-1) + ((-1) * τ 19001 + (1 * τ 19002 + 0)) := hf _ (List.Mem.tail _ (List.Mem.tail _ (List.Mem.tail _ (List.Mem.tail _ (List.Mem.tail _ (List.Mem.tail _ (List.Mem.tail _ (List.Mem.tail _ (List.Mem.tail _ (List.Mem.tail _ (List.Mem.tail _ (List.Mem.tail _ (List.Mem.tail _ (List.Mem.head _))))))))))))))
  have f14 : 0 ≤ (-1) + (1 * τ 133 + ((-1) * τ 19002 + 0)) := hf _ (List.Mem.tail _ (List.Mem.tail _ (List.Mem.tail _ (List.Mem.tail _ (List.Mem.tail _ (List.Mem.tail _ (List.Mem.tail _ (List.Mem.tail _ (List.Mem.tail _ (List.Mem.tail _ (List.Mem.tail _ (List.Mem.tail _ (List.Mem.tail _ (List.Mem.tail _ (List.Mem.head _)))))))))))))))
  have f15 : 0 ≤ (-1) + (1 * τ 133 + ((-1) * τ 19001 + 0)) := hf _ (List.Mem.tail _ (List.Mem.tail _ (List.Mem.tail _ (List.Mem.tail _ (List.Mem.tail _ (List.Mem.tail _ (List.Mem.tail _ (List.Mem.tail _ (List.Mem.tail _ (List.Mem.tail _ (List.Mem.tail _ (List.Mem.tail _ (List.Mem.tail _ (List.Mem.tail _ (List.Mem.tail _ (List.Mem.head _))))))))))))))))
  have m134 : σ' 134 = 1 + (1 * τ 134 + 0) := hm 134 (by decide)
  clear hf hm
  exact Or.inl ⟨by omega, ⟨by omega, by omega, by omega, by omega, by omega, by omega⟩, by omega⟩
theorem lw_mwx_150 {as : List rv_A} {σ σ' : Nat → Int} {o : rv_O} {x : Int32} {a1 a2 : Int} {τ : Nat → Int} (hx : o.1 = some (.inl x)) (h1 : lw_av as 1 = a1) (h2 : lw_av as 2 = a2) (hb : ∀ s, (sx_sr s).1 ≤ σ s ∧ σ s ≤ (sx_sr s).2) (hW : lw_W ([(18548, 32, 255), (18549, 16, 255), (18590, 16, 255), (18593, 32, 255)], [(0, [(18548, (-1)), (1000000, 1)]), (0, [(18549, (-1)), (1000001, 1)]), ((-1), [(133, 1)]), (11, [(134, (-1))]), ((-5), [(19001, 1)]), (5, [(19001, (-1))]), ((-4), [(19002, 1)]), (4, [(19002, (-1))]), ((-1), [(19003, 1)]), (0, [(1000000, 1), (1000003, (-1))]), (0, [(1000000, (-1)), (1000003, 1)]), (0, [(1000001, 1), (1000002, (-1))]), (0, [(1000001, (-1)), (1000002, 1)]), ((-1), [(19001, 1), (19002, (-1))]), ((-1), [(133, 1), (19002, (-1))]), ((-1), [(133, 1), (19001, (-1))])], [(9, (0, [])), (134, (1, [(134, 1)])), (7048, ((-2), [])), (7049, ((-2), [])), (8069, (0, [])), (11396, ((-2), [])), (18548, (0, [(1000000, 1)])), (18549, (0, [(1000001, 1)])), (18588, (0, [(18549, 1)])), (18589, (16, [])), (18590, (0, [(1000002, 1)])), (18591, (0, [(18548, 1)])), (18592, (32, [])), (18593, (0, [(1000003, 1)])), (18594, (2, []))], some (false, (1, []))) as σ σ' τ o) : lw_mwx_C a1 a2 x.toInt σ σ' := by
  unfold lw_mwx_C
  have b133 : 0 ≤ σ 133 ∧ σ 133 ≤ 8 := by
    have h0 := hb 133
    rw [show sx_sr 133 = (0, 8) from by decide +kernel] at h0
    exact h0
  have b134 : 0 ≤ σ 134 ∧ σ 134 ≤ 12 := by
    have h0 := hb 134
    rw [show sx_sr 134 = (0, 12) from by decide +kernel] at h0
    exact h0
  obtain ⟨hs, ht, hf, hr, hm, hw⟩ := hW
  have e1 : τ 19001 = a1 := by rw [ht 19001 (by decide) (by decide)]; exact h1
  have e2 : τ 19002 = a2 := by rw [ht 19002 (by decide) (by decide)]; exact h2
  have s133 : τ 133 = σ 133 := hs 133 (by decide)
  have s134 : τ 134 = σ 134 := hs 134 (by decide)
  clear hs ht hb
  rw [hx] at hr
  obtain ⟨y, hy, hv⟩ := hr
  cases hy
  replace hv : x.toInt = 1 + 0 := hv
  have f0 : 0 ≤ 0 + ((-1) * τ 18548 + (1 * τ 1000000 + 0)) := hf _ (List.Mem.head _)
  have f1 : 0 ≤ 0 + ((-1) * τ 18549 + (1 * τ 1000001 + 0)) := hf _ (List.Mem.tail _ (List.Mem.head _))
  have f2 : 0 ≤ (-1) + (1 * τ 133 + 0) := hf _ (List.Mem.tail _ (List.Mem.tail _ (List.Mem.head _)))
  have f3 : 0 ≤ 11 + ((-1) * τ 134 + 0) := hf _ (List.Mem.tail _ (List.Mem.tail _ (List.Mem.tail _ (List.Mem.head _))))
  have f4 : 0 ≤ (-5) + (1 * τ 19001 + 0) := hf _ (List.Mem.tail _ (List.Mem.tail _ (List.Mem.tail _ (List.Mem.tail _ (List.Mem.head _)))))
  have f5 : 0 ≤ 5 + ((-1) * τ 19001 + 0) := hf _ (List.Mem.tail _ (List.Mem.tail _ (List.Mem.tail _ (List.Mem.tail _ (List.Mem.tail _ (List.Mem.head _))))))
  have f6 : 0 ≤ (-4) + (1 * τ 19002 + 0) := hf _ (List.Mem.tail _ (List.Mem.tail _ (List.Mem.tail _ (List.Mem.tail _ (List.Mem.tail _ (List.Mem.tail _ (List.Mem.head _)))))))
  have f7 : 0 ≤ 4 + ((-1) * τ 19002 + 0) := hf _ (List.Mem.tail _ (List.Mem.tail _ (List.Mem.tail _ (List.Mem.tail _ (List.Mem.tail _ (List.Mem.tail _ (List.Mem.tail _ (List.Mem.head _))))))))
  have f8 : 0 ≤ (-1) + (1 * τ 19003 + 0) := hf _ (List.Mem.tail _ (List.Mem.tail _ (List.Mem.tail _ (List.Mem.tail _ (List.Mem.tail _ (List.Mem.tail _ (List.Mem.tail _ (List.Mem.tail _ (List.Mem.head _)))))))))
  have f9 : 0 ≤ 0 + (1 * τ 1000000 + ((-1) * τ 1000003 + 0)) := hf _ (List.Mem.tail _ (List.Mem.tail _ (List.Mem.tail _ (List.Mem.tail _ (List.Mem.tail _ (List.Mem.tail _ (List.Mem.tail _ (List.Mem.tail _ (List.Mem.tail _ (List.Mem.head _))))))))))
  have f10 : 0 ≤ 0 + ((-1) * τ 1000000 + (1 * τ 1000003 + 0)) := hf _ (List.Mem.tail _ (List.Mem.tail _ (List.Mem.tail _ (List.Mem.tail _ (List.Mem.tail _ (List.Mem.tail _ (List.Mem.tail _ (List.Mem.tail _ (List.Mem.tail _ (List.Mem.tail _ (List.Mem.head _)))))))))))
  have f11 : 0 ≤ 0 + (1 * τ 1000001 + ((-1) * τ 1000002 + 0)) := hf _ (List.Mem.tail _ (List.Mem.tail _ (List.Mem.tail _ (List.Mem.tail _ (List.Mem.tail _ (List.Mem.tail _ (List.Mem.tail _ (List.Mem.tail _ (List.Mem.tail _ (List.Mem.tail _ (List.Mem.tail _ (List.Mem.head _))))))))))))
  have f12 : 0 ≤ 0 + ((-1) * τ 1000001 + (1 * τ 1000002 + 0)) := hf _ (List.Mem.tail _ (List.Mem.tail _ (List.Mem.tail _ (List.Mem.tail _ (List.Mem.tail _ (List.Mem.tail _ (List.Mem.tail _ (List.Mem.tail _ (List.Mem.tail _ (List.Mem.tail _ (List.Mem.tail _ (List.Mem.tail _ (List.Mem.head _)))))))))))))
  have f13 : 0 ≤ (-1) + (1 * τ 19001 + ((-1) * τ 19002 + 0)) := hf _ (List.Mem.tail _ (List.Mem.tail _ (List.Mem.tail _ (List.Mem.tail _ (List.Mem.tail _ (List.Mem.tail _ (List.Mem.tail _ (List.Mem.tail _ (List.Mem.tail _ (List.Mem.tail _ (List.Mem.tail _ (List.Mem.tail _ (List.Mem.tail _ (List.Mem.head _))))))))))))))
  have f14 : 0 ≤ (-1) + (1 * τ 133 + ((-1) * τ 19002 + 0)) := hf _ (List.Mem.tail _ (List.Mem.tail _ (List.Mem.tail _ (List.Mem.tail _ (List.Mem.tail _ (List.Mem.tail _ (List.Mem.tail _ (List.Mem.tail _ (List.Mem.tail _ (List.Mem.tail _ (List.Mem.tail _ (List.Mem.tail _ (List.Mem.tail _ (List.Mem.tail _ (List.Mem.head _)))))))))))))))
  have f15 : 0 ≤ (-1) + (1 * τ 133 + ((-1) * τ 19001 + 0)) := hf _ (List.Mem.tail _ (List.Mem.tail _ (List.Mem.tail _ (List.Mem.tail _ (List.Mem.tail _ (List.Mem.tail _ (List.Mem.tail _ (List.Mem.tail _ (List.Mem.tail _ (List.Mem.tail _ (List.Mem.tail _ (List.Mem.tail _ (List.Mem.tail _ (List.Mem.tail _ (List.Mem.tail _ (List.Mem.head _))))))))))))))))
  have m134 : σ' 134 = 1 + (1 * τ 134 + 0) := hm 134 (by decide)
  clear hf hm
  exact Or.inl ⟨by omega, ⟨by omega, by omega, by omega, by omega, by omega, by omega⟩, by omega⟩
theorem lw_mwx_151 {as : List rv_A} {σ σ' : Nat → Int} {o : rv_O} {x : Int32} {a1 a2 : Int} {τ : Nat → Int} (hx : o.1 = some (.inl x)) (h1 : lw_av as 1 = a1) (h2 : lw_av as 2 = a2) (hb : ∀ s, (sx_sr s).1 ≤ σ s ∧ σ s ≤ (sx_sr s).2) (hW : lw_W ([(18541, 32, 255), (18590, 32, 255), (18591, 32, 255), (18593, 32, 255)], [(0, [(18541, (-1)), (1000000, 1)]), ((-1), [(133, 1)]), (11, [(134, (-1))]), ((-5), [(19001, 1)]), (5, [(19001, (-1))]), ((-5), [(19002, 1)]), (5, [(19002, (-1))]), (0, [(19003, (-1))]), (0, [(1000000, 1), (1000001, (-1))]), (0, [(1000000, 1), (1000003, (-1))]), (0, [(1000000, (-1)), (1000003, 1)]), ((-1), [(19001, (-1)), (19002, 1)]), ((-1), [(133, 1), (19002, (-1))]), ((-1), [(133, 1), (19001, (-1))])], [(9, (0, [])), (134, (1, [(134, 1)])), (7048, ((-2), [])), (7049, ((-2), [])), (8069, (0, [])), (11396, ((-2), [])), (18541, (0, [(1000000, 1)])), (18588, (0, [(18541, 1)])), (18589, (32, [])), (18590, (0, [(1000001, 1)])), (18591, (0, [(1000002, 1)])), (18592, (32, [])), (18593, (0, [(1000003, 1)])), (18594, (2, []))], some (false, (1, []))) as σ σ' τ o) : lw_mwx_C a1 a2 x.toInt σ σ' := by
  unfold lw_mwx_C
  have b133 : 0 ≤ σ 133 ∧ σ 133 ≤ 8 := by
    have h0 := hb 133
    rw [show sx_sr 133 = (0, 8) from by decide +kernel] at h0
    exact h0
  have b134 : 0 ≤ σ 134 ∧ σ 134 ≤ 12 := by
    have h0 := hb 134
    rw [show sx_sr 134 = (0, 12) from by decide +kernel] at h0
    exact h0
  obtain ⟨hs, ht, hf, hr, hm, hw⟩ := hW
  have e1 : τ 19001 = a1 := by rw [ht 19001 (by decide) (by decide)]; exact h1
  have e2 : τ 19002 = a2 := by rw [ht 19002 (by decide) (by decide)]; exact h2
  have s133 : τ 133 = σ 133 := hs 133 (by decide)
  have s134 : τ 134 = σ 134 := hs 134 (by decide)
  clear hs ht hb
  rw [hx] at hr
  obtain ⟨y, hy, hv⟩ := hr
  cases hy
  replace hv : x.toInt = 1 + 0 := hv
  have f0 : 0 ≤ 0 + ((-1) * τ 18541 + (1 * τ 1000000 + 0)) := hf _ (List.Mem.head _)
  have f1 : 0 ≤ (-1) + (1 * τ 133 + 0) := hf _ (List.Mem.tail _ (List.Mem.head _))
  have f2 : 0 ≤ 11 + ((-1) * τ 134 + 0) := hf _ (List.Mem.tail _ (List.Mem.tail _ (List.Mem.head _)))
  have f3 : 0 ≤ (-5) + (1 * τ 19001 + 0) := hf _ (List.Mem.tail _ (List.Mem.tail _ (List.Mem.tail _ (List.Mem.head _))))
  have f4 : 0 ≤ 5 + ((-1) * τ 19001 + 0) := hf _ (List.Mem.tail _ (List.Mem.tail _ (List.Mem.tail _ (List.Mem.tail _ (List.Mem.head _)))))
  have f5 : 0 ≤ (-5) + (1 * τ 19002 + 0) := hf _ (List.Mem.tail _ (List.Mem.tail _ (List.Mem.tail _ (List.Mem.tail _ (List.Mem.tail _ (List.Mem.head _))))))
  have f6 : 0 ≤ 5 + ((-1) * τ 19002 + 0) := hf _ (List.Mem.tail _ (List.Mem.tail _ (List.Mem.tail _ (List.Mem.tail _ (List.Mem.tail _ (List.Mem.tail _ (List.Mem.head _)))))))
  have f7 : 0 ≤ 0 + ((-1) * τ 19003 + 0) := hf _ (List.Mem.tail _ (List.Mem.tail _ (List.Mem.tail _ (List.Mem.tail _ (List.Mem.tail _ (List.Mem.tail _ (List.Mem.tail _ (List.Mem.head _))))))))
  have f8 : 0 ≤ 0 + (1 * τ 1000000 + ((-1) * τ 1000001 + 0)) := hf _ (List.Mem.tail _ (List.Mem.tail _ (List.Mem.tail _ (List.Mem.tail _ (List.Mem.tail _ (List.Mem.tail _ (List.Mem.tail _ (List.Mem.tail _ (List.Mem.head _)))))))))
  have f9 : 0 ≤ 0 + (1 * τ 1000000 + ((-1) * τ 1000003 + 0)) := hf _ (List.Mem.tail _ (List.Mem.tail _ (List.Mem.tail _ (List.Mem.tail _ (List.Mem.tail _ (List.Mem.tail _ (List.Mem.tail _ (List.Mem.tail _ (List.Mem.tail _ (List.Mem.head _))))))))))
  have f10 : 0 ≤ 0 + ((-1) * τ 1000000 + (1 * τ 1000003 + 0)) := hf _ (List.Mem.tail _ (List.Mem.tail _ (List.Mem.tail _ (List.Mem.tail _ (List.Mem.tail _ (List.Mem.tail _ (List.Mem.tail _ (List.Mem.tail _ (List.Mem.tail _ (List.Mem.tail _ (List.Mem.head _)))))))))))
  have f11 : 0 ≤ (-1) + ((-1) * τ 19001 + (1 * τ 19002 + 0)) := hf _ (List.Mem.tail _ (List.Mem.tail _ (List.Mem.tail _ (List.Mem.tail _ (List.Mem.tail _ (List.Mem.tail _ (List.Mem.tail _ (List.Mem.tail _ (List.Mem.tail _ (List.Mem.tail _ (List.Mem.tail _ (List.Mem.head _))))))))))))
  have f12 : 0 ≤ (-1) + (1 * τ 133 + ((-1) * τ 19002 + 0)) := hf _ (List.Mem.tail _ (List.Mem.tail _ (List.Mem.tail _ (List.Mem.tail _ (List.Mem.tail _ (List.Mem.tail _ (List.Mem.tail _ (List.Mem.tail _ (List.Mem.tail _ (List.Mem.tail _ (List.Mem.tail _ (List.Mem.tail _ (List.Mem.head _)))))))))))))
  have f13 : 0 ≤ (-1) + (1 * τ 133 + ((-1) * τ 19001 + 0)) := hf _ (List.Mem.tail _ (List.Mem.tail _ (List.Mem.tail _ (List.Mem.tail _ (List.Mem.tail _ (List.Mem.tail _ (List.Mem.tail _ (List.Mem.tail _ (List.Mem.tail _ (List.Mem.tail _ (List.Mem.tail _ (List.Mem.tail _ (List.Mem.tail _ (List.Mem.head _))))))))))))))
  have m134 : σ' 134 = 1 + (1 * τ 134 + 0) := hm 134 (by decide)
  clear hf hm
  exact Or.inl ⟨by omega, ⟨by omega, by omega, by omega, by omega, by omega, by omega⟩, by omega⟩
theorem lw_mwx_152 {as : List rv_A} {σ σ' : Nat → Int} {o : rv_O} {x : Int32} {a1 a2 : Int} {τ : Nat → Int} (hx : o.1 = some (.inl x)) (h1 : lw_av as 1 = a1) (h2 : lw_av as 2 = a2) (hb : ∀ s, (sx_sr s).1 ≤ σ s ∧ σ s ≤ (sx_sr s).2) (hW : lw_W ([(18541, 32, 255), (18590, 32, 255), (18591, 32, 255), (18593, 32, 255)], [(0, [(18541, (-1)), (1000000, 1)]), ((-1), [(133, 1)]), (11, [(134, (-1))]), ((-5), [(19001, 1)]), (5, [(19001, (-1))]), ((-5), [(19002, 1)]), (5, [(19002, (-1))]), (0, [(19003, (-1))]), (0, [(1000000, 1), (1000001, (-1))]), (0, [(1000000, 1), (1000003, (-1))]), (0, [(1000000, (-1)), (1000003, 1)]), ((-1), [(19001, 1), (19002, (-1))]), ((-1), [(133, 1), (19002, (-1))]), ((-1), [(133, 1), (19001, (-1))])], [(9, (0, [])), (134, (1, [(134, 1)])), (7048, ((-2), [])), (7049, ((-2), [])), (8069, (0, [])), (11396, ((-2), [])), (18541, (0, [(1000000, 1)])), (18588, (0, [(18541, 1)])), (18589, (32, [])), (18590, (0, [(1000001, 1)])), (18591, (0, [(1000002, 1)])), (18592, (32, [])), (18593, (0, [(1000003, 1)])), (18594, (2, []))], some (false, (1, []))) as σ σ' τ o) : lw_mwx_C a1 a2 x.toInt σ σ' := by
  unfold lw_mwx_C
  have b133 : 0 ≤ σ 133 ∧ σ 133 ≤ 8 := by
    have h0 := hb 133
    rw [show sx_sr 133 = (0, 8) from by decide +kernel] at h0
    exact h0
  have b134 : 0 ≤ σ 134 ∧ σ 134 ≤ 12 := by
    have h0 := hb 134
    rw [show sx_sr 134 = (0, 12) from by decide +kernel] at h0
    exact h0
  obtain ⟨hs, ht, hf, hr, hm, hw⟩ := hW
  have e1 : τ 19001 = a1 := by rw [ht 19001 (by decide) (by decide)]; exact h1
  have e2 : τ 19002 = a2 := by rw [ht 19002 (by decide) (by decide)]; exact h2
  have s133 : τ 133 = σ 133 := hs 133 (by decide)
  have s134 : τ 134 = σ 134 := hs 134 (by decide)
  clear hs ht hb
  rw [hx] at hr
  obtain ⟨y, hy, hv⟩ := hr
  cases hy
  replace hv : x.toInt = 1 + 0 := hv
  have f0 : 0 ≤ 0 + ((-1) * τ 18541 + (1 * τ 1000000 + 0)) := hf _ (List.Mem.head _)
  have f1 : 0 ≤ (-1) + (1 * τ 133 + 0) := hf _ (List.Mem.tail _ (List.Mem.head _))
  have f2 : 0 ≤ 11 + ((-1) * τ 134 + 0) := hf _ (List.Mem.tail _ (List.Mem.tail _ (List.Mem.head _)))
  have f3 : 0 ≤ (-5) + (1 * τ 19001 + 0) := hf _ (List.Mem.tail _ (List.Mem.tail _ (List.Mem.tail _ (List.Mem.head _))))
  have f4 : 0 ≤ 5 + ((-1) * τ 19001 + 0) := hf _ (List.Mem.tail _ (List.Mem.tail _ (List.Mem.tail _ (List.Mem.tail _ (List.Mem.head _)))))
  have f5 : 0 ≤ (-5) + (1 * τ 19002 + 0) := hf _ (List.Mem.tail _ (List.Mem.tail _ (List.Mem.tail _ (List.Mem.tail _ (List.Mem.tail _ (List.Mem.head _))))))
  have f6 : 0 ≤ 5 + ((-1) * τ 19002 + 0) := hf _ (List.Mem.tail _ (List.Mem.tail _ (List.Mem.tail _ (List.Mem.tail _ (List.Mem.tail _ (List.Mem.tail _ (List.Mem.head _)))))))
  have f7 : 0 ≤ 0 + ((-1) * τ 19003 + 0) := hf _ (List.Mem.tail _ (List.Mem.tail _ (List.Mem.tail _ (List.Mem.tail _ (List.Mem.tail _ (List.Mem.tail _ (List.Mem.tail _ (List.Mem.head _))))))))
  have f8 : 0 ≤ 0 + (1 * τ 1000000 + ((-1) * τ 1000001 + 0)) := hf _ (List.Mem.tail _ (List.Mem.tail _ (List.Mem.tail _ (List.Mem.tail _ (List.Mem.tail _ (List.Mem.tail _ (List.Mem.tail _ (List.Mem.tail _ (List.Mem.head _)))))))))
  have f9 : 0 ≤ 0 + (1 * τ 1000000 + ((-1) * τ 1000003 + 0)) := hf _ (List.Mem.tail _ (List.Mem.tail _ (List.Mem.tail _ (List.Mem.tail _ (List.Mem.tail _ (List.Mem.tail _ (List.Mem.tail _ (List.Mem.tail _ (List.Mem.tail _ (List.Mem.head _))))))))))
  have f10 : 0 ≤ 0 + ((-1) * τ 1000000 + (1 * τ 1000003 + 0)) := hf _ (List.Mem.tail _ (List.Mem.tail _ (List.Mem.tail _ (List.Mem.tail _ (List.Mem.tail _ (List.Mem.tail _ (List.Mem.tail _ (List.Mem.tail _ (List.Mem.tail _ (List.Mem.tail _ (List.Mem.head _)))))))))))
  have f11 : 0 ≤ (-1) + (1 * τ 19001 + ((-1) * τ 19002 + 0)) := hf _ (List.Mem.tail _ (List.Mem.tail _ (List.Mem.tail _ (List.Mem.tail _ (List.Mem.tail _ (List.Mem.tail _ (List.Mem.tail _ (List.Mem.tail _ (List.Mem.tail _ (List.Mem.tail _ (List.Mem.tail _ (List.Mem.head _))))))))))))
  have f12 : 0 ≤ (-1) + (1 * τ 133 + ((-1) * τ 19002 + 0)) := hf _ (List.Mem.tail _ (List.Mem.tail _ (List.Mem.tail _ (List.Mem.tail _ (List.Mem.tail _ (List.Mem.tail _ (List.Mem.tail _ (List.Mem.tail _ (List.Mem.tail _ (List.Mem.tail _ (List.Mem.tail _ (List.Mem.tail _ (List.Mem.head _)))))))))))))
  have f13 : 0 ≤ (-1) + (1 * τ 133 + ((-1) * τ 19001 + 0)) := hf _ (List.Mem.tail _ (List.Mem.tail _ (List.Mem.tail _ (List.Mem.tail _ (List.Mem.tail _ (List.Mem.tail _ (List.Mem.tail _ (List.Mem.tail _ (List.Mem.tail _ (List.Mem.tail _ (List.Mem.tail _ (List.Mem.tail _ (List.Mem.tail _ (List.Mem.head _))))))))))))))
  have m134 : σ' 134 = 1 + (1 * τ 134 + 0) := hm 134 (by decide)
  clear hf hm
  exact Or.inl ⟨by omega, ⟨by omega, by omega, by omega, by omega, by omega, by omega⟩, by omega⟩
theorem lw_mwx_153 {as : List rv_A} {σ σ' : Nat → Int} {o : rv_O} {x : Int32} {a1 a2 : Int} {τ : Nat → Int} (hx : o.1 = some (.inl x)) (h1 : lw_av as 1 = a1) (h2 : lw_av as 2 = a2) (hb : ∀ s, (sx_sr s).1 ≤ σ s ∧ σ s ≤ (sx_sr s).2) (hW : lw_W ([(18549, 32, 255), (18590, 32, 255), (18591, 32, 255), (18593, 32, 255)], [(0, [(18549, (-1)), (1000000, 1)]), ((-1), [(133, 1)]), (11, [(134, (-1))]), ((-5), [(19001, 1)]), (5, [(19001, (-1))]), ((-5), [(19002, 1)]), (5, [(19002, (-1))]), ((-1), [(19003, 1)]), (0, [(1000000, 1), (1000001, (-1))]), (0, [(1000000, 1), (1000003, (-1))]), (0, [(1000000, (-1)), (1000003, 1)]), ((-1), [(19001, (-1)), (19002, 1)]), ((-1), [(133, 1), (19002, (-1))]), ((-1), [(133, 1), (19001, (-1))])], [(9, (0, [])), (134, (1, [(134, 1)])), (7048, ((-2), [])), (7049, ((-2), [])), (8069, (0, [])), (11396, ((-2), [])), (18549, (0, [(1000000, 1)])), (18588, (0, [(18549, 1)])), (18589, (32, [])), (18590, (0, [(1000001, 1)])), (18591, (0, [(1000002, 1)])), (18592, (32, [])), (18593, (0, [(1000003, 1)])), (18594, (2, []))], some (false, (1, []))) as σ σ' τ o) : lw_mwx_C a1 a2 x.toInt σ σ' := by
  unfold lw_mwx_C
  have b133 : 0 ≤ σ 133 ∧ σ 133 ≤ 8 := by
    have h0 := hb 133
    rw [show sx_sr 133 = (0, 8) from by decide +kernel] at h0
    exact h0
  have b134 : 0 ≤ σ 134 ∧ σ 134 ≤ 12 := by
    have h0 := hb 134
    rw [show sx_sr 134 = (0, 12) from by decide +kernel] at h0
    exact h0
  obtain ⟨hs, ht, hf, hr, hm, hw⟩ := hW
  have e1 : τ 19001 = a1 := by rw [ht 19001 (by decide) (by decide)]; exact h1
  have e2 : τ 19002 = a2 := by rw [ht 19002 (by decide) (by decide)]; exact h2
  have s133 : τ 133 = σ 133 := hs 133 (by decide)
  have s134 : τ 134 = σ 134 := hs 134 (by decide)
  clear hs ht hb
  rw [hx] at hr
  obtain ⟨y, hy, hv⟩ := hr
  cases hy
  replace hv : x.toInt = 1 + 0 := hv
  have f0 : 0 ≤ 0 + ((-1) * τ 18549 + (1 * τ 1000000 + 0)) := hf _ (List.Mem.head _)
  have f1 : 0 ≤ (-1) + (1 * τ 133 + 0) := hf _ (List.Mem.tail _ (List.Mem.head _))
  have f2 : 0 ≤ 11 + ((-1) * τ 134 + 0) := hf _ (List.Mem.tail _ (List.Mem.tail _ (List.Mem.head _)))
  have f3 : 0 ≤ (-5) + (1 * τ 19001 + 0) := hf _ (List.Mem.tail _ (List.Mem.tail _ (List.Mem.tail _ (List.Mem.head _))))
  have f4 : 0 ≤ 5 + ((-1) * τ 19001 + 0) := hf _ (List.Mem.tail _ (List.Mem.tail _ (List.Mem.tail _ (List.Mem.tail _ (List.Mem.head _)))))
  have f5 : 0 ≤ (-5) + (1 * τ 19002 + 0) := hf _ (List.Mem.tail _ (List.Mem.tail _ (List.Mem.tail _ (List.Mem.tail _ (List.Mem.tail _ (List.Mem.head _))))))
  have f6 : 0 ≤ 5 + ((-1) * τ 19002 + 0) := hf _ (List.Mem.tail _ (List.Mem.tail _ (List.Mem.tail _ (List.Mem.tail _ (List.Mem.tail _ (List.Mem.tail _ (List.Mem.head _)))))))
  have f7 : 0 ≤ (-1) + (1 * τ 19003 + 0) := hf _ (List.Mem.tail _ (List.Mem.tail _ (List.Mem.tail _ (List.Mem.tail _ (List.Mem.tail _ (List.Mem.tail _ (List.Mem.tail _ (List.Mem.head _))))))))
  have f8 : 0 ≤ 0 + (1 * τ 1000000 + ((-1) * τ 1000001 + 0)) := hf _ (List.Mem.tail _ (List.Mem.tail _ (List.Mem.tail _ (List.Mem.tail _ (List.Mem.tail _ (List.Mem.tail _ (List.Mem.tail _ (List.Mem.tail _ (List.Mem.head _)))))))))
  have f9 : 0 ≤ 0 + (1 * τ 1000000 + ((-1) * τ 1000003 + 0)) := hf _ (List.Mem.tail _ (List.Mem.tail _ (List.Mem.tail _ (List.Mem.tail _ (List.Mem.tail _ (List.Mem.tail _ (List.Mem.tail _ (List.Mem.tail _ (List.Mem.tail _ (List.Mem.head _))))))))))
  have f10 : 0 ≤ 0 + ((-1) * τ 1000000 + (1 * τ 1000003 + 0)) := hf _ (List.Mem.tail _ (List.Mem.tail _ (List.Mem.tail _ (List.Mem.tail _ (List.Mem.tail _ (List.Mem.tail _ (List.Mem.tail _ (List.Mem.tail _ (List.Mem.tail _ (List.Mem.tail _ (List.Mem.head _)))))))))))
  have f11 : 0 ≤ (-1) + ((-1) * τ 19001 + (1 * τ 19002 + 0)) := hf _ (List.Mem.tail _ (List.Mem.tail _ (List.Mem.tail _ (List.Mem.tail _ (List.Mem.tail _ (List.Mem.tail _ (List.Mem.tail _ (List.Mem.tail _ (List.Mem.tail _ (List.Mem.tail _ (List.Mem.tail _ (List.Mem.head _))))))))))))
  have f12 : 0 ≤ (-1) + (1 * τ 133 + ((-1) * τ 19002 + 0)) := hf _ (List.Mem.tail _ (List.Mem.tail _ (List.Mem.tail _ (List.Mem.tail _ (List.Mem.tail _ (List.Mem.tail _ (List.Mem.tail _ (List.Mem.tail _ (List.Mem.tail _ (List.Mem.tail _ (List.Mem.tail _ (List.Mem.tail _ (List.Mem.head _)))))))))))))
  have f13 : 0 ≤ (-1) + (1 * τ 133 + ((-1) * τ 19001 + 0)) := hf _ (List.Mem.tail _ (List.Mem.tail _ (List.Mem.tail _ (List.Mem.tail _ (List.Mem.tail _ (List.Mem.tail _ (List.Mem.tail _ (List.Mem.tail _ (List.Mem.tail _ (List.Mem.tail _ (List.Mem.tail _ (List.Mem.tail _ (List.Mem.tail _ (List.Mem.head _))))))))))))))
  have m134 : σ' 134 = 1 + (1 * τ 134 + 0) := hm 134 (by decide)
  clear hf hm
  exact Or.inl ⟨by omega, ⟨by omega, by omega, by omega, by omega, by omega, by omega⟩, by omega⟩
theorem lw_mwx_154 {as : List rv_A} {σ σ' : Nat → Int} {o : rv_O} {x : Int32} {a1 a2 : Int} {τ : Nat → Int} (hx : o.1 = some (.inl x)) (h1 : lw_av as 1 = a1) (h2 : lw_av as 2 = a2) (hb : ∀ s, (sx_sr s).1 ≤ σ s ∧ σ s ≤ (sx_sr s).2) (hW : lw_W ([(18549, 32, 255), (18590, 32, 255), (18591, 32, 255), (18593, 32, 255)], [(0, [(18549, (-1)), (1000000, 1)]), ((-1), [(133, 1)]), (11, [(134, (-1))]), ((-5), [(19001, 1)]), (5, [(19001, (-1))]), ((-5), [(19002, 1)]), (5, [(19002, (-1))]), ((-1), [(19003, 1)]), (0, [(1000000, 1), (1000001, (-1))]), (0, [(1000000, 1), (1000003, (-1))]), (0, [(1000000, (-1)), (1000003, 1)]), ((-1), [(19001, 1), (19002, (-1))]), ((-1), [(133, 1), (19002, (-1))]), ((-1), [(133, 1), (19001, (-1))])], [(9, (0, [])), (134, (1, [(134, 1)])), (7048, ((-2), [])), (7049, ((-2), [])), (8069, (0, [])), (11396, ((-2), [])), (18549, (0, [(1000000, 1)])), (18588, (0, [(18549, 1)])), (18589, (32, [])), (18590, (0, [(1000001, 1)])), (18591, (0, [(1000002, 1)])), (18592, (32, [])), (18593, (0, [(1000003, 1)])), (18594, (2, []))], some (false, (1, []))) as σ σ' τ o) : lw_mwx_C a1 a2 x.toInt σ σ' := by
  unfold lw_mwx_C
  have b133 : 0 ≤ σ 133 ∧ σ 133 ≤ 8 := by
    have h0 := hb 133
    rw [show sx_sr 133 = (0, 8) from by decide +kernel] at h0
    exact h0
  have b134 : 0 ≤ σ 134 ∧ σ 134 ≤ 12 := by
    have h0 := hb 134
    rw [show sx_sr 134 = (0, 12) from by decide +kernel] at h0
    exact h0
  obtain ⟨hs, ht, hf, hr, hm, hw⟩ := hW
  have e1 : τ 19001 = a1 := by rw [ht 19001 (by decide) (by decide)]; exact h1
  have e2 : τ 19002 = a2 := by rw [ht 19002 (by decide) (by decide)]; exact h2
  have s133 : τ 133 = σ 133 := hs 133 (by decide)
  have s134 : τ 134 = σ 134 := hs 134 (by decide)
  clear hs ht hb
  rw [hx] at hr
  obtain ⟨y, hy, hv⟩ := hr
  cases hy
  replace hv : x.toInt = 1 + 0 := hv
  have f0 : 0 ≤ 0 + ((-1) * τ 18549 + (1 * τ 1000000 + 0)) := hf _ (List.Mem.head _)
  have f1 : 0 ≤ (-1) + (1 * τ 133 + 0) := hf _ (List.Mem.tail _ (List.Mem.head _))
  have f2 : 0 ≤ 11 + ((-1) * τ 134 + 0) := hf _ (List.Mem.tail _ (List.Mem.tail _ (List.Mem.head _)))
  have f3 : 0 ≤ (-5) + (1 * τ 19001 + 0) := hf _ (List.Mem.tail _ (List.Mem.tail _ (List.Mem.tail _ (List.Mem.head _))))
  have f4 : 0 ≤ 5 + ((-1) * τ 19001 + 0) := hf _ (List.Mem.tail _ (List.Mem.tail _ (List.Mem.tail _ (List.Mem.tail _ (List.Mem.head _)))))
  have f5 : 0 ≤ (-5) + (1 * τ 19002 + 0) := hf _ (List.Mem.tail _ (List.Mem.tail _ (List.Mem.tail _ (List.Mem.tail _ (List.Mem.tail _ (List.Mem.head _))))))
  have f6 : 0 ≤ 5 + ((-1) * τ 19002 + 0) := hf _ (List.Mem.tail _ (List.Mem.tail _ (List.Mem.tail _ (List.Mem.tail _ (List.Mem.tail _ (List.Mem.tail _ (List.Mem.head _)))))))
  have f7 : 0 ≤ (-1) + (1 * τ 19003 + 0) := hf _ (List.Mem.tail _ (List.Mem.tail _ (List.Mem.tail _ (List.Mem.tail _ (List.Mem.tail _ (List.Mem.tail _ (List.Mem.tail _ (List.Mem.head _))))))))
  have f8 : 0 ≤ 0 + (1 * τ 1000000 + ((-1) * τ 1000001 + 0)) := hf _ (List.Mem.tail _ (List.Mem.tail _ (List.Mem.tail _ (List.Mem.tail _ (List.Mem.tail _ (List.Mem.tail _ (List.Mem.tail _ (List.Mem.tail _ (List.Mem.head _)))))))))
  have f9 : 0 ≤ 0 + (1 * τ 1000000 + ((-1) * τ 1000003 + 0)) := hf _ (List.Mem.tail _ (List.Mem.tail _ (List.Mem.tail _ (List.Mem.tail _ (List.Mem.tail _ (List.Mem.tail _ (List.Mem.tail _ (List.Mem.tail _ (List.Mem.tail _ (List.Mem.head _))))))))))
  have f10 : 0 ≤ 0 + ((-1) * τ 1000000 + (1 * τ 1000003 + 0)) := hf _ (List.Mem.tail _ (List.Mem.tail _ (List.Mem.tail _ (List.Mem.tail _ (List.Mem.tail _ (List.Mem.tail _ (List.Mem.tail _ (List.Mem.tail _ (List.Mem.tail _ (List.Mem.tail _ (List.Mem.head _)))))))))))
  have f11 : 0 ≤ (-1) + (1 * τ 19001 + ((-1) * τ 19002 + 0)) := hf _ (List.Mem.tail _ (List.Mem.tail _ (List.Mem.tail _ (List.Mem.tail _ (List.Mem.tail _ (List.Mem.tail _ (List.Mem.tail _ (List.Mem.tail _ (List.Mem.tail _ (List.Mem.tail _ (List.Mem.tail _ (List.Mem.head _))))))))))))
  have f12 : 0 ≤ (-1) + (1 * τ 133 + ((-1) * τ 19002 + 0)) := hf _ (List.Mem.tail _ (List.Mem.tail _ (List.Mem.tail _ (List.Mem.tail _ (List.Mem.tail _ (List.Mem.tail _ (List.Mem.tail _ (List.Mem.tail _ (List.Mem.tail _ (List.Mem.tail _ (List.Mem.tail _ (List.Mem.tail _ (List.Mem.head _)))))))))))))
  have f13 : 0 ≤ (-1) + (1 * τ 133 + ((-1) * τ 19001 + 0)) := hf _ (List.Mem.tail _ (List.Mem.tail _ (List.Mem.tail _ (List.Mem.tail _ (List.Mem.tail _ (List.Mem.tail _ (List.Mem.tail _ (List.Mem.tail _ (List.Mem.tail _ (List.Mem.tail _ (List.Mem.tail _ (List.Mem.tail _ (List.Mem.tail _ (List.Mem.head _))))))))))))))
  have m134 : σ' 134 = 1 + (1 * τ 134 + 0) := hm 134 (by decide)
  clear hf hm
  exact Or.inl ⟨by omega, ⟨by omega, by omega, by omega, by omega, by omega, by omega⟩, by omega⟩
theorem lw_mwx_155 {as : List rv_A} {σ σ' : Nat → Int} {o : rv_O} {x : Int32} {a1 a2 : Int} {τ : Nat → Int} (hx : o.1 = some (.inl x)) (h1 : lw_av as 1 = a1) (h2 : lw_av as 2 = a2) (hb : ∀ s, (sx_sr s).1 ≤ σ s ∧ σ s ≤ (sx_sr s).2) (hW : lw_W ([(18541, 64, 255), (18542, 32, 255), (18590, 64, 255), (18593, 32, 255)], [(0, [(18541, (-1)), (1000000, 1)]), (0, [(18542, (-1)), (1000001, 1)]), ((-1), [(133, 1)]), (11, [(134, (-1))]), ((-5), [(19001, 1)]), (5, [(19001, (-1))]), ((-6), [(19002, 1)]), (6, [(19002, (-1))]), (0, [(19003, (-1))]), (0, [(1000000, 1), (1000002, (-1))]), (0, [(1000000, (-1)), (1000002, 1)]), (0, [(1000001, 1), (1000003, (-1))]), (0, [(1000001, (-1)), (1000003, 1)]), ((-1), [(19001, (-1)), (19002, 1)]), ((-1), [(133, 1), (19002, (-1))]), ((-1), [(133, 1), (19001, (-1))])], [(9, (0, [])), (134, (1, [(134, 1)])), (7048, ((-2), [])), (7049, ((-2), [])), (8069, (0, [])), (11396, ((-2), [])), (18541, (0, [(1000000, 1)])), (18542, (0, [(1000001, 1)])), (18588, (0, [(18541, 1)])), (18589, (64, [])), (18590, (0, [(1000002, 1)])), (18591, (0, [(18542, 1)])), (18592, (32, [])), (18593, (0, [(1000003, 1)])), (18594, (2, []))], some (false, (1, []))) as σ σ' τ o) : lw_mwx_C a1 a2 x.toInt σ σ' := by
  unfold lw_mwx_C
  have b133 : 0 ≤ σ 133 ∧ σ 133 ≤ 8 := by
    have h0 := hb 133
    rw [show sx_sr 133 = (0, 8) from by decide +kernel] at h0
    exact h0
  have b134 : 0 ≤ σ 134 ∧ σ 134 ≤ 12 := by
    have h0 := hb 134
    rw [show sx_sr 134 = (0, 12) from by decide +kernel] at h0
    exact h0
  obtain ⟨hs, ht, hf, hr, hm, hw⟩ := hW
  have e1 : τ 19001 = a1 := by rw [ht 19001 (by decide) (by decide)]; exact h1
  have e2 : τ 19002 = a2 := by rw [ht 19002 (by decide) (by decide)]; exact h2
  have s133 : τ 133 = σ 133 := hs 133 (by decide)
  have s134 : τ 134 = σ 134 := hs 134 (by decide)
  clear hs ht hb
  rw [hx] at hr
  obtain ⟨y, hy, hv⟩ := hr
  cases hy
  replace hv : x.toInt = 1 + 0 := hv
  have f0 : 0 ≤ 0 + ((-1) * τ 18541 + (1 * τ 1000000 + 0)) := hf _ (List.Mem.head _)
  have f1 : 0 ≤ 0 + ((-1) * τ 18542 + (1 * τ 1000001 + 0)) := hf _ (List.Mem.tail _ (List.Mem.head _))
  have f2 : 0 ≤ (-1) + (1 * τ 133 + 0) := hf _ (List.Mem.tail _ (List.Mem.tail _ (List.Mem.head _)))
  have f3 : 0 ≤ 11 + ((-1) * τ 134 + 0) := hf _ (List.Mem.tail _ (List.Mem.tail _ (List.Mem.tail _ (List.Mem.head _))))
  have f4 : 0 ≤ (-5) + (1 * τ 19001 + 0) := hf _ (List.Mem.tail _ (List.Mem.tail _ (List.Mem.tail _ (List.Mem.tail _ (List.Mem.head _)))))
  have f5 : 0 ≤ 5 + ((-1) * τ 19001 + 0) := hf _ (List.Mem.tail _ (List.Mem.tail _ (List.Mem.tail _ (List.Mem.tail _ (List.Mem.tail _ (List.Mem.head _))))))
  have f6 : 0 ≤ (-6) + (1 * τ 19002 + 0) := hf _ (List.Mem.tail _ (List.Mem.tail _ (List.Mem.tail _ (List.Mem.tail _ (List.Mem.tail _ (List.Mem.tail _ (List.Mem.head _)))))))
  have f7 : 0 ≤ 6 + ((-1) * τ 19002 + 0) := hf _ (List.Mem.tail _ (List.Mem.tail _ (List.Mem.tail _ (List.Mem.tail _ (List.Mem.tail _ (List.Mem.tail _ (List.Mem.tail _ (List.Mem.head _))))))))
  have f8 : 0 ≤ 0 + ((-1) * τ 19003 + 0) := hf _ (List.Mem.tail _ (List.Mem.tail _ (List.Mem.tail _ (List.Mem.tail _ (List.Mem.tail _ (List.Mem.tail _ (List.Mem.tail _ (List.Mem.tail _ (List.Mem.head _)))))))))
  have f9 : 0 ≤ 0 + (1 * τ 1000000 + ((-1) * τ 1000002 + 0)) := hf _ (List.Mem.tail _ (List.Mem.tail _ (List.Mem.tail _ (List.Mem.tail _ (List.Mem.tail _ (List.Mem.tail _ (List.Mem.tail _ (List.Mem.tail _ (List.Mem.tail _ (List.Mem.head _))))))))))
  have f10 : 0 ≤ 0 + ((-1) * τ 1000000 + (1 * τ 1000002 + 0)) := hf _ (List.Mem.tail _ (List.Mem.tail _ (List.Mem.tail _ (List.Mem.tail _ (List.Mem.tail _ (List.Mem.tail _ (List.Mem.tail _ (List.Mem.tail _ (List.Mem.tail _ (List.Mem.tail _ (List.Mem.head _)))))))))))
  have f11 : 0 ≤ 0 + (1 * τ 1000001 + ((-1) * τ 1000003 + 0)) := hf _ (List.Mem.tail _ (List.Mem.tail _ (List.Mem.tail _ (List.Mem.tail _ (List.Mem.tail _ (List.Mem.tail _ (List.Mem.tail _ (List.Mem.tail _ (List.Mem.tail _ (List.Mem.tail _ (List.Mem.tail _ (List.Mem.head _))))))))))))
  have f12 : 0 ≤ 0 + ((-1) * τ 1000001 + (1 * τ 1000003 + 0)) := hf _ (List.Mem.tail _ (List.Mem.tail _ (List.Mem.tail _ (List.Mem.tail _ (List.Mem.tail _ (List.Mem.tail _ (List.Mem.tail _ (List.Mem.tail _ (List.Mem.tail _ (List.Mem.tail _ (List.Mem.tail _ (List.Mem.tail _ (List.Mem.head _)))))))))))))
  have f13 : 0 ≤ (-1) + ((-1) * τ 19001 + (1 * τ 19002 + 0)) := hf _ (List.Mem.tail _ (List.Mem.tail _ (List.Mem.tail _ (List.Mem.tail _ (List.Mem.tail _ (List.Mem.tail _ (List.Mem.tail _ (List.Mem.tail _ (List.Mem.tail _ (List.Mem.tail _ (List.Mem.tail _ (List.Mem.tail _ (List.Mem.tail _ (List.Mem.head _))))))))))))))
  have f14 : 0 ≤ (-1) + (1 * τ 133 + ((-1) * τ 19002 + 0)) := hf _ (List.Mem.tail _ (List.Mem.tail _ (List.Mem.tail _ (List.Mem.tail _ (List.Mem.tail _ (List.Mem.tail _ (List.Mem.tail _ (List.Mem.tail _ (List.Mem.tail _ (List.Mem.tail _ (List.Mem.tail _ (List.Mem.tail _ (List.Mem.tail _ (List.Mem.tail _ (List.Mem.head _)))))))))))))))
  have f15 : 0 ≤ (-1) + (1 * τ 133 + ((-1) * τ 19001 + 0)) := hf _ (List.Mem.tail _ (List.Mem.tail _ (List.Mem.tail _ (List.Mem.tail _ (List.Mem.tail _ (List.Mem.tail _ (List.Mem.tail _ (List.Mem.tail _ (List.Mem.tail _ (List.Mem.tail _ (List.Mem.tail _ (List.Mem.tail _ (List.Mem.tail _ (List.Mem.tail _ (List.Mem.tail _ (List.Mem.head _))))))))))))))))
  have m134 : σ' 134 = 1 + (1 * τ 134 + 0) := hm 134 (by decide)
  clear hf hm
  exact Or.inl ⟨by omega, ⟨by omega, by omega, by omega, by omega, by omega, by omega⟩, by omega⟩
theorem lw_mwx_156 {as : List rv_A} {σ σ' : Nat → Int} {o : rv_O} {x : Int32} {a1 a2 : Int} {τ : Nat → Int} (hx : o.1 = some (.inl x)) (h1 : lw_av as 1 = a1) (h2 : lw_av as 2 = a2) (hb : ∀ s, (sx_sr s).1 ≤ σ s ∧ σ s ≤ (sx_sr s).2) (hW : lw_W ([(18541, 64, 255), (18542, 32, 255), (18590, 64, 255), (18593, 32, 255)], [(0, [(18541, (-1)), (1000000, 1)]), (0, [(18542, (-1)), (1000001, 1)]), ((-1), [(133, 1)]), (11, [(134, (-1))]), ((-5), [(19001, 1)]), (5, [(19001, (-1))]), ((-6), [(19002, 1)]), (6, [(19002, (-1))]), (0, [(19003, (-1))]), (0, [(1000000, 1), (1000002, (-1))]), (0, [(1000000, (-1)), (1000002, 1)]), (0, [(1000001, 1), (1000003, (-1))]), (0, [(1000001, (-1)), (1000003, 1)]), ((-1), [(19001, 1), (19002, (-1))]), ((-1), [(133, 1), (19002, (-1))]), ((-1), [(133, 1), (19001, (-1))])], [(9, (0, [])), (134, (1, [(134, 1)])), (7048, ((-2), [])), (7049, ((-2), [])), (8069, (0, [])), (11396, ((-2), [])), (18541, (0, [(1000000, 1)])), (18542, (0, [(1000001, 1)])), (18588, (0, [(18541, 1)])), (18589, (64, [])), (18590, (0, [(1000002, 1)])), (18591, (0, [(18542, 1)])), (18592, (32, [])), (18593, (0, [(1000003, 1)])), (18594, (2, []))], some (false, (1, []))) as σ σ' τ o) : lw_mwx_C a1 a2 x.toInt σ σ' := by
  unfold lw_mwx_C
  have b133 : 0 ≤ σ 133 ∧ σ 133 ≤ 8 := by
    have h0 := hb 133
    rw [show sx_sr 133 = (0, 8) from by decide +kernel] at h0
    exact h0
  have b134 : 0 ≤ σ 134 ∧ σ 134 ≤ 12 := by
    have h0 := hb 134
    rw [show sx_sr 134 = (0, 12) from by decide +kernel] at h0
    exact h0
  obtain ⟨hs, ht, hf, hr, hm, hw⟩ := hW
  have e1 : τ 19001 = a1 := by rw [ht 19001 (by decide) (by decide)]; exact h1
  have e2 : τ 19002 = a2 := by rw [ht 19002 (by decide) (by decide)]; exact h2
  have s133 : τ 133 = σ 133 := hs 133 (by decide)
  have s134 : τ 134 = σ 134 := hs 134 (by decide)
  clear hs ht hb
  rw [hx] at hr
  obtain ⟨y, hy, hv⟩ := hr
  cases hy
  replace hv : x.toInt = 1 + 0 := hv
  have f0 : 0 ≤ 0 + ((-1) * τ 18541 + (1 * τ 1000000 + 0)) := hf _ (List.Mem.head _)
  have f1 : 0 ≤ 0 + ((-1) * τ 18542 + (1 * τ 1000001 + 0)) := hf _ (List.Mem.tail _ (List.Mem.head _))
  have f2 : 0 ≤ (-1) + (1 * τ 133 + 0) := hf _ (List.Mem.tail _ (List.Mem.tail _ (List.Mem.head _)))
  have f3 : 0 ≤ 11 + ((-1) * τ 134 + 0) := hf _ (List.Mem.tail _ (List.Mem.tail _ (List.Mem.tail _ (List.Mem.head _))))
  have f4 : 0 ≤ (-5) + (1 * τ 19001 + 0) := hf _ (List.Mem.tail _ (List.Mem.tail _ (List.Mem.tail _ (List.Mem.tail _ (List.Mem.head _)))))
  have f5 : 0 ≤ 5 + ((-1) * τ 19001 + 0) := hf _ (List.Mem.tail _ (List.Mem.tail _ (List.Mem.tail _ (List.Mem.tail _ (List.Mem.tail _ (List.Mem.head _))))))
  have f6 : 0 ≤ (-6) + (1 * τ 19002 + 0) := hf _ (List.Mem.tail _ (List.Mem.tail _ (List.Mem.tail _ (List.Mem.tail _ (List.Mem.tail _ (List.Mem.tail _ (List.Mem.head _)))))))
  have f7 : 0 ≤ 6 + ((-1) * τ 19002 + 0) := hf _ (List.Mem.tail _ (List.Mem.tail _ (List.Mem.tail _ (List.Mem.tail _ (List.Mem.tail _ (List.Mem.tail _ (List.Mem.tail _ (List.Mem.head _))))))))
  have f8 : 0 ≤ 0 + ((-1) * τ 19003 + 0) := hf _ (List.Mem.tail _ (List.Mem.tail _ (List.Mem.tail _ (List.Mem.tail _ (List.Mem.tail _ (List.Mem.tail _ (List.Mem.tail _ (List.Mem.tail _ (List.Mem.head _)))))))))
  have f9 : 0 ≤ 0 + (1 * τ 1000000 + ((-1) * τ 1000002 + 0)) := hf _ (List.Mem.tail _ (List.Mem.tail _ (List.Mem.tail _ (List.Mem.tail _ (List.Mem.tail _ (List.Mem.tail _ (List.Mem.tail _ (List.Mem.tail _ (List.Mem.tail _ (List.Mem.head _))))))))))
  have f10 : 0 ≤ 0 + ((-1) * τ 1000000 + (1 * τ 1000002 + 0)) := hf _ (List.Mem.tail _ (List.Mem.tail _ (List.Mem.tail _ (List.Mem.tail _ (List.Mem.tail _ (List.Mem.tail _ (List.Mem.tail _ (List.Mem.tail _ (List.Mem.tail _ (List.Mem.tail _ (List.Mem.head _)))))))))))
  have f11 : 0 ≤ 0 + (1 * τ 1000001 + ((-1) * τ 1000003 + 0)) := hf _ (List.Mem.tail _ (List.Mem.tail _ (List.Mem.tail _ (List.Mem.tail _ (List.Mem.tail _ (List.Mem.tail _ (List.Mem.tail _ (List.Mem.tail _ (List.Mem.tail _ (List.Mem.tail _ (List.Mem.tail _ (List.Mem.head _))))))))))))
  have f12 : 0 ≤ 0 + ((-1) * τ 1000001 + (1 * τ 1000003 + 0)) := hf _ (List.Mem.tail _ (List.Mem.tail _ (List.Mem.tail _ (List.Mem.tail _ (List.Mem.tail _ (List.Mem.tail _ (List.Mem.tail _ (List.Mem.tail _ (List.Mem.tail _ (List.Mem.tail _ (List.Mem.tail _ (List.Mem.tail _ (List.Mem.head _)))))))))))))
  have f13 : 0 ≤ (-1) + (1 * τ 19001 + ((-1) * τ 19002 + 0)) := hf _ (List.Mem.tail _ (List.Mem.tail _ (List.Mem.tail _ (List.Mem.tail _ (List.Mem.tail _ (List.Mem.tail _ (List.Mem.tail _ (List.Mem.tail _ (List.Mem.tail _ (List.Mem.tail _ (List.Mem.tail _ (List.Mem.tail _ (List.Mem.tail _ (List.Mem.head _))))))))))))))
  have f14 : 0 ≤ (-1) + (1 * τ 133 + ((-1) * τ 19002 + 0)) := hf _ (List.Mem.tail _ (List.Mem.tail _ (List.Mem.tail _ (List.Mem.tail _ (List.Mem.tail _ (List.Mem.tail _ (List.Mem.tail _ (List.Mem.tail _ (List.Mem.tail _ (List.Mem.tail _ (List.Mem.tail _ (List.Mem.tail _ (List.Mem.tail _ (List.Mem.tail _ (List.Mem.head _)))))))))))))))
  have f15 : 0 ≤ (-1) + (1 * τ 133 + ((-1) * τ 19001 + 0)) := hf _ (List.Mem.tail _ (List.Mem.tail _ (List.Mem.tail _ (List.Mem.tail _ (List.Mem.tail _ (List.Mem.tail _ (List.Mem.tail _ (List.Mem.tail _ (List.Mem.tail _ (List.Mem.tail _ (List.Mem.tail _ (List.Mem.tail _ (List.Mem.tail _ (List.Mem.tail _ (List.Mem.tail _ (List.Mem.head _))))))))))))))))
  have m134 : σ' 134 = 1 + (1 * τ 134 + 0) := hm 134 (by decide)
  clear hf hm
  exact Or.inl ⟨by omega, ⟨by omega, by omega, by omega, by omega, by omega, by omega⟩, by omega⟩
theorem lw_mwx_157 {as : List rv_A} {σ σ' : Nat → Int} {o : rv_O} {x : Int32} {a1 a2 : Int} {τ : Nat → Int} (hx : o.1 = some (.inl x)) (h1 : lw_av as 1 = a1) (h2 : lw_av as 2 = a2) (hb : ∀ s, (sx_sr s).1 ≤ σ s ∧ σ s ≤ (sx_sr s).2) (hW : lw_W ([(18549, 64, 255), (18550, 32, 255), (18590, 64, 255), (18593, 32, 255)], [(0, [(18549, (-1)), (1000000, 1)]), (0, [(18550, (-1)), (1000001, 1)]), ((-1), [(133, 1)]), (11, [(134, (-1))]), ((-5), [(19001, 1)]), (5, [(19001, (-1))]), ((-6), [(19002, 1)]), (6, [(19002, (-1))]), ((-1), [(19003, 1)]), (0, [(1000000, 1), (1000002, (-1))]), (0, [(1000000, (-1)), (1000002, 1)]), (0, [(1000001, 1), (1000003, (-1))]), (0, [(1000001, (-1)), (1000003, 1)]), ((-1), [(19001, (-1)), (19002, 1)]), ((-1), [(133, 1), (19002, (-1))]), ((-1), [(133, 1), (19001, (-1))])], [(9, (0, [])), (134, (1, [(134, 1)])), (7048, ((-2), [])), (7049, ((-2), [])), (8069, (0, [])), (11396, ((-2), [])), (18549, (0, [(1000000, 1)])), (18550, (0, [(1000001, 1)])), (18588, (0, [(18549, 1)])), (18589, (64, [])), (18590, (0, [(1000002, 1)])), (18591, (0, [(18550, 1)])), (18592, (32, [])), (18593, (0, [(1000003, 1)])), (18594, (2, []))], some (false, (1, []))) as σ σ' τ o) : lw_mwx_C a1 a2 x.toInt σ σ' := by
  unfold lw_mwx_C
  have b133 : 0 ≤ σ 133 ∧ σ 133 ≤ 8 := by
    have h0 := hb 133
    rw [show sx_sr 133 = (0, 8) from by decide +kernel] at h0
    exact h0
  have b134 : 0 ≤ σ 134 ∧ σ 134 ≤ 12 := by
    have h0 := hb 134
    rw [show sx_sr 134 = (0, 12) from by decide +kernel] at h0
    exact h0
  obtain ⟨hs, ht, hf, hr, hm, hw⟩ := hW
  have e1 : τ 19001 = a1 := by rw [ht 19001 (by decide) (by decide)]; exact h1
  have e2 : τ 19002 = a2 := by rw [ht 19002 (by decide) (by decide)]; exact h2
  have s133 : τ 133 = σ 133 := hs 133 (by decide)
  have s134 : τ 134 = σ 134 := hs 134 (by decide)
  clear hs ht hb
  rw [hx] at hr
  obtain ⟨y, hy, hv⟩ := hr
  cases hy
  replace hv : x.toInt = 1 + 0 := hv
  have f0 : 0 ≤ 0 + ((-1) * τ 18549 + (1 * τ 1000000 + 0)) := hf _ (List.Mem.head _)
  have f1 : 0 ≤ 0 + ((-1) * τ 18550 + (1 * τ 1000001 + 0)) := hf _ (List.Mem.tail _ (List.Mem.head _))
  have f2 : 0 ≤ (-1) + (1 * τ 133 + 0) := hf _ (List.Mem.tail _ (List.Mem.tail _ (List.Mem.head _)))
  have f3 : 0 ≤ 11 + ((-1) * τ 134 + 0) := hf _ (List.Mem.tail _ (List.Mem.tail _ (List.Mem.tail _ (List.Mem.head _))))
  have f4 : 0 ≤ (-5) + (1 * τ 19001 + 0) := hf _ (List.Mem.tail _ (List.Mem.tail _ (List.Mem.tail _ (List.Mem.tail _ (List.Mem.head _)))))
  have f5 : 0 ≤ 5 + ((-1) * τ 19001 + 0) := hf _ (List.Mem.tail _ (List.Mem.tail _ (List.Mem.tail _ (List.Mem.tail _ (List.Mem.tail _ (List.Mem.head _))))))
  have f6 : 0 ≤ (-6) + (1 * τ 19002 + 0) := hf _ (List.Mem.tail _ (List.Mem.tail _ (List.Mem.tail _ (List.Mem.tail _ (List.Mem.tail _ (List.Mem.tail _ (List.Mem.head _)))))))
  have f7 : 0 ≤ 6 + ((-1) * τ 19002 + 0) := hf _ (List.Mem.tail _ (List.Mem.tail _ (List.Mem.tail _ (List.Mem.tail _ (List.Mem.tail _ (List.Mem.tail _ (List.Mem.tail _ (List.Mem.head _))))))))
  have f8 : 0 ≤ (-1) + (1 * τ 19003 + 0) := hf _ (List.Mem.tail _ (List.Mem.tail _ (List.Mem.tail _ (List.Mem.tail _ (List.Mem.tail _ (List.Mem.tail _ (List.Mem.tail _ (List.Mem.tail _ (List.Mem.head _)))))))))
  have f9 : 0 ≤ 0 + (1 * τ 1000000 + ((-1) * τ 1000002 + 0)) := hf _ (List.Mem.tail _ (List.Mem.tail _ (List.Mem.tail _ (List.Mem.tail _ (List.Mem.tail _ (List.Mem.tail _ (List.Mem.tail _ (List.Mem.tail _ (List.Mem.tail _ (List.Mem.head _))))))))))
  have f10 : 0 ≤ 0 + ((-1) * τ 1000000 + (1 * τ 1000002 + 0)) := hf _ (List.Mem.tail _ (List.Mem.tail _ (List.Mem.tail _ (List.Mem.tail _ (List.Mem.tail _ (List.Mem.tail _ (List.Mem.tail _ (List.Mem.tail _ (List.Mem.tail _ (List.Mem.tail _ (List.Mem.head _)))))))))))
  have f11 : 0 ≤ 0 + (1 * τ 1000001 + ((-1) * τ 1000003 + 0)) := hf _ (List.Mem.tail _ (List.Mem.tail _ (List.Mem.tail _ (List.Mem.tail _ (List.Mem.tail _ (List.Mem.tail _ (List.Mem.tail _ (List.Mem.tail _ (List.Mem.tail _ (List.Mem.tail _ (List.Mem.tail _ (List.Mem.head _))))))))))))
  have f12 : 0 ≤ 0 + ((-1) * τ 1000001 + (1 * τ 1000003 + 0)) := hf _ (List.Mem.tail _ (List.Mem.tail _ (List.Mem.tail _ (List.Mem.tail _ (List.Mem.tail _ (List.Mem.tail _ (List.Mem.tail _ (List.Mem.tail _ (List.Mem.tail _ (List.Mem.tail _ (List.Mem.tail _ (List.Mem.tail _ (List.Mem.head _)))))))))))))
  have f13 : 0 ≤ (-1) + ((-1) * τ 19001 + (1 * τ 19002 + 0)) := hf _ (List.Mem.tail _ (List.Mem.tail _ (List.Mem.tail _ (List.Mem.tail _ (List.Mem.tail _ (List.Mem.tail _ (List.Mem.tail _ (List.Mem.tail _ (List.Mem.tail _ (List.Mem.tail _ (List.Mem.tail _ (List.Mem.tail _ (List.Mem.tail _ (List.Mem.head _))))))))))))))
  have f14 : 0 ≤ (-1) + (1 * τ 133 + ((-1) * τ 19002 + 0)) := hf _ (List.Mem.tail _ (List.Mem.tail _ (List.Mem.tail _ (List.Mem.tail _ (List.Mem.tail _ (List.Mem.tail _ (List.Mem.tail _ (List.Mem.tail _ (List.Mem.tail _ (List.Mem.tail _ (List.Mem.tail _ (List.Mem.tail _ (List.Mem.tail _ (List.Mem.tail _ (List.Mem.head _)))))))))))))))
  have f15 : 0 ≤ (-1) + (1 * τ 133 + ((-1) * τ 19001 + 0)) := hf _ (List.Mem.tail _ (List.Mem.tail _ (List.Mem.tail _ (List.Mem.tail _ (List.Mem.tail _ (List.Mem.tail _ (List.Mem.tail _ (List.Mem.tail _ (List.Mem.tail _ (List.Mem.tail _ (List.Mem.tail _ (List.Mem.tail _ (List.Mem.tail _ (List.Mem.tail _ (List.Mem.tail _ (List.Mem.head _))))))))))))))))
  have m134 : σ' 134 = 1 + (1 * τ 134 + 0) := hm 134 (by decide)
  clear hf hm
  exact Or.inl ⟨by omega, ⟨by omega, by omega, by omega, by omega, by omega, by omega⟩, by omega⟩
theorem lw_mwx_158 {as : List rv_A} {σ σ' : Nat → Int} {o : rv_O} {x : Int32} {a1 a2 : Int} {τ : Nat → Int} (hx : o.1 = some (.inl x)) (h1 : lw_av as 1 = a1) (h2 : lw_av as 2 = a2) (hb : ∀ s, (sx_sr s).1 ≤ σ s ∧ σ s ≤ (sx_sr s).2) (hW : lw_W ([(18549, 64, 255), (18550, 32, 255), (18590, 64, 255), (18593, 32, 255)], [(0, [(18549, (-1)), (1000000, 1)]), (0, [(18550, (-1)), (1000001, 1)]), ((-1), [(133, 1)]), (11, [(134, (-1))]), ((-5), [(19001, 1)]), (5, [(19001, (-1))]), ((-6), [(19002, 1)]), (6, [(19002, (-1))]), ((-1), [(19003, 1)]), (0, [(1000000, 1), (1000002, (-1))]), (0, [(1000000, (-1)), (1000002, 1)]), (0, [(1000001, 1), (1000003, (-1))]), (0, [(1000001, (-1)), (1000003, 1)]), ((-1), [(19001, 1), (19002, (-1))]), ((-1), [(133, 1), (19002, (-1))]), ((-1), [(133, 1), (19001, (-1))])], [(9, (0, [])), (134, (1, [(134, 1)])), (7048, ((-2), [])), (7049, ((-2), [])), (8069, (0, [])), (11396, ((-2), [])), (18549, (0, [(1000000, 1)])), (18550, (0, [(1000001, 1)])), (18588, (0, [(18549, 1)])), (18589, (64, [])), (18590, (0, [(1000002, 1)])), (18591, (0, [(18550, 1)])), (18592, (32, [])), (18593, (0, [(1000003, 1)])), (18594, (2, []))], some (false, (1, []))) as σ σ' τ o) : lw_mwx_C a1 a2 x.toInt σ σ' := by
  unfold lw_mwx_C
  have b133 : 0 ≤ σ 133 ∧ σ 133 ≤ 8 := by
    have h0 := hb 133
    rw [show sx_sr 133 = (0, 8) from by decide +kernel] at h0
    exact h0
  have b134 : 0 ≤ σ 134 ∧ σ 134 ≤ 12 := by
    have h0 := hb 134
    rw [show sx_sr 134 = (0, 12) from by decide +kernel] at h0
    exact h0
  obtain ⟨hs, ht, hf, hr, hm, hw⟩ := hW
  have e1 : τ 19001 = a1 := by rw [ht 19001 (by decide) (by decide)]; exact h1
  have e2 : τ 19002 = a2 := by rw [ht 19002 (by decide) (by decide)]; exact h2
  have s133 : τ 133 = σ 133 := hs 133 (by decide)
  have s134 : τ 134 = σ 134 := hs 134 (by decide)
  clear hs ht hb
  rw [hx] at hr
  obtain ⟨y, hy, hv⟩ := hr
  cases hy
  replace hv : x.toInt = 1 + 0 := hv
  have f0 : 0 ≤ 0 + ((-1) * τ 18549 + (1 * τ 1000000 + 0)) := hf _ (List.Mem.head _)
  have f1 : 0 ≤ 0 + ((-1) * τ 18550 + (1 * τ 1000001 + 0)) := hf _ (List.Mem.tail _ (List.Mem.head _))
  have f2 : 0 ≤ (-1) + (1 * τ 133 + 0) := hf _ (List.Mem.tail _ (List.Mem.tail _ (List.Mem.head _)))
  have f3 : 0 ≤ 11 + ((-1) * τ 134 + 0) := hf _ (List.Mem.tail _ (List.Mem.tail _ (List.Mem.tail _ (List.Mem.head _))))
  have f4 : 0 ≤ (-5) + (1 * τ 19001 + 0) := hf _ (List.Mem.tail _ (List.Mem.tail _ (List.Mem.tail _ (List.Mem.tail _ (List.Mem.head _)))))
  have f5 : 0 ≤ 5 + ((-1) * τ 19001 + 0) := hf _ (List.Mem.tail _ (List.Mem.tail _ (List.Mem.tail _ (List.Mem.tail _ (List.Mem.tail _ (List.Mem.head _))))))
  have f6 : 0 ≤ (-6) + (1 * τ 19002 + 0) := hf _ (List.Mem.tail _ (List.Mem.tail _ (List.Mem.tail _ (List.Mem.tail _ (List.Mem.tail _ (List.Mem.tail _ (List.Mem.head _)))))))
  have f7 : 0 ≤ 6 + ((-1) * τ 19002 + 0) := hf _ (List.Mem.tail _ (List.Mem.tail _ (List.Mem.tail _ (List.Mem.tail _ (List.Mem.tail _ (List.Mem.tail _ (List.Mem.tail _ (List.Mem.head _))))))))
  have f8 : 0 ≤ (-1) + (1 * τ 19003 + 0) := hf _ (List.Mem.tail _ (List.Mem.tail _ (List.Mem.tail _ (List.Mem.tail _ (List.Mem.tail _ (List.Mem.tail _ (List.Mem.tail _ (List.Mem.tail _ (List.Mem.head _)))))))))
  have f9 : 0 ≤ 0 + (1 * τ 1000000 + ((-1) * τ 1000002 + 0)) := hf _ (List.Mem.tail _ (List.Mem.tail _ (List.Mem.tail _ (List.Mem.tail _ (List.Mem.tail _ (List.Mem.tail _ (List.Mem.tail _ (List.Mem.tail _ (List.Mem.tail _ (List.Mem.head _))))))))))
  have f10 : 0 ≤ 0 + ((-1) * τ 1000000 + (1 * τ 1000002 + 0)) := hf _ (List.Mem.tail _ (List.Mem.tail _ (List.Mem.tail _ (List.Mem.tail _ (List.Mem.tail _ (List.Mem.tail _ (List.Mem.tail _ (List.Mem.tail _ (List.Mem.tail _ (List.Mem.tail _ (List.Mem.head _)))))))))))
  have f11 : 0 ≤ 0 + (1 * τ 1000001 + ((-1) * τ 1000003 + 0)) := hf _ (List.Mem.tail _ (List.Mem.tail _ (List.Mem.tail _ (List.Mem.tail _ (List.Mem.tail _ (List.Mem.tail _ (List.Mem.tail _ (List.Mem.tail _ (List.Mem.tail _ (List.Mem.tail _ (List.Mem.tail _ (List.Mem.head _))))))))))))
  have f12 : 0 ≤ 0 + ((-1) * τ 1000001 + (1 * τ 1000003 + 0)) := hf _ (List.Mem.tail _ (List.Mem.tail _ (List.Mem.tail _ (List.Mem.tail _ (List.Mem.tail _ (List.Mem.tail _ (List.Mem.tail _ (List.Mem.tail _ (List.Mem.tail _ (List.Mem.tail _ (List.Mem.tail _ (List.Mem.tail _ (List.Mem.head _)))))))))))))
  have f13 : 0 ≤ (-1) + (1 * τ 19001 + ((-1) * τ 19002 + 0)) := hf _ (List.Mem.tail _ (List.Mem.tail _ (List.Mem.tail _ (List.Mem.tail _ (List.Mem.tail _ (List.Mem.tail _ (List.Mem.tail _ (List.Mem.tail _ (List.Mem.tail _ (List.Mem.tail _ (List.Mem.tail _ (List.Mem.tail _ (List.Mem.tail _ (List.Mem.head _))))))))))))))
  have f14 : 0 ≤ (-1) + (1 * τ 133 + ((-1) * τ 19002 + 0)) := hf _ (List.Mem.tail _ (List.Mem.tail _ (List.Mem.tail _ (List.Mem.tail _ (List.Mem.tail _ (List.Mem.tail _ (List.Mem.tail _ (List.Mem.tail _ (List.Mem.tail _ (List.Mem.tail _ (List.Mem.tail _ (List.Mem.tail _ (List.Mem.tail _ (List.Mem.tail _ (List.Mem.head _)))))))))))))))
  have f15 : 0 ≤ (-1) + (1 * τ 133 + ((-1) * τ 19001 + 0)) := hf _ (List.Mem.tail _ (List.Mem.tail _ (List.Mem.tail _ (List.Mem.tail _ (List.Mem.tail _ (List.Mem.tail _ (List.Mem.tail _ (List.Mem.tail _ (List.Mem.tail _ (List.Mem.tail _ (List.Mem.tail _ (List.Mem.tail _ (List.Mem.tail _ (List.Mem.tail _ (List.Mem.tail _ (List.Mem.head _))))))))))))))))
  have m134 : σ' 134 = 1 + (1 * τ 134 + 0) := hm 134 (by decide)
  clear hf hm
  exact Or.inl ⟨by omega, ⟨by omega, by omega, by omega, by omega, by omega, by omega⟩, by omega⟩
theorem lw_mwx_159 {as : List rv_A} {σ σ' : Nat → Int} {o : rv_O} {x : Int32} {a1 a2 : Int} {τ : Nat → Int} (hx : o.1 = some (.inl x)) (h1 : lw_av as 1 = a1) (h2 : lw_av as 2 = a2) (hb : ∀ s, (sx_sr s).1 ≤ σ s ∧ σ s ≤ (sx_sr s).2) (hW : lw_W ([(18541, 128, 255), (18543, 32, 255), (18590, 128, 255), (18593, 32, 255)], [(0, [(18541, (-1)), (1000000, 1)]), (0, [(18543, (-1)), (1000001, 1)]), ((-1), [(133, 1)]), (11, [(134, (-1))]), ((-5), [(19001, 1)]), (5, [(19001, (-1))]), ((-7), [(19002, 1)]), (7, [(19002, (-1))]), (0, [(19003, (-1))]), (0, [(1000000, 1), (1000002, (-1))]), (0, [(1000000, (-1)), (1000002, 1)]), (0, [(1000001, 1), (1000003, (-1))]), (0, [(1000001, (-1)), (1000003, 1)]), ((-1), [(19001, (-1)), (19002, 1)]), ((-1), [(133, 1), (19002, (-1))]), ((-1), [(133, 1), (19001, (-1))])], [(9, (0, [])), (134, (1, [(134, 1)])), (7048, ((-2), [])), (7049, ((-2), [])), (8069, (0, [])), (11396, ((-2), [])), (18541, (0, [(1000000, 1)])), (18543, (0, [(1000001, 1)])), (18588, (0, [(18541, 1)])), (18589, (128, [])), (18590, (0, [(1000002, 1)])), (18591, (0, [(18543, 1)])), (18592, (32, [])), (18593, (0, [(1000003, 1)])), (18594, (2, []))], some (false, (1, []))) as σ σ' τ o) : lw_mwx_C a1 a2 x.toInt σ σ' := by
  unfold lw_mwx_C
  have b133 : 0 ≤ σ 133 ∧ σ 133 ≤ 8 := by
    have h0 := hb 133
    rw [show sx_sr 133 = (0, 8) from by decide +kernel] at h0
    exact h0
  have b134 : 0 ≤ σ 134 ∧ σ 134 ≤ 12 := by
    have h0 := hb 134
    rw [show sx_sr 134 = (0, 12) from by decide +kernel] at h0
    exact h0
  obtain ⟨hs, ht, hf, hr, hm, hw⟩ := hW
  have e1 : τ 19001 = a1 := by rw [ht 19001 (by decide) (by decide)]; exact h1
  have e2 : τ 19002 = a2 := by rw [ht 19002 (by decide) (by decide)]; exact h2
  have s133 : τ 133 = σ 133 := hs 133 (by decide)
  have s134 : τ 134 = σ 134 := hs 134 (by decide)
  clear hs ht hb
  rw [hx] at hr
  obtain ⟨y, hy, hv⟩ := hr
  cases hy
  replace hv : x.toInt = 1 + 0 := hv
  have f0 : 0 ≤ 0 + ((-1) * τ 18541 + (1 * τ 1000000 + 0)) := hf _ (List.Mem.head _)
  have f1 : 0 ≤ 0 + ((-1) * τ 18543 + (1 * τ 1000001 + 0)) := hf _ (List.Mem.tail _ (List.Mem.head _))
  have f2 : 0 ≤ (-1) + (1 * τ 133 + 0) := hf _ (List.Mem.tail _ (List.Mem.tail _ (List.Mem.head _)))
  have f3 : 0 ≤ 11 + ((-1) * τ 134 + 0) := hf _ (List.Mem.tail _ (List.Mem.tail _ (List.Mem.tail _ (List.Mem.head _))))
  have f4 : 0 ≤ (-5) + (1 * τ 19001 + 0) := hf _ (List.Mem.tail _ (List.Mem.tail _ (List.Mem.tail _ (List.Mem.tail _ (List.Mem.head _)))))
  have f5 : 0 ≤ 5 + ((-1) * τ 19001 + 0) := hf _ (List.Mem.tail _ (List.Mem.tail _ (List.Mem.tail _ (List.Mem.tail _ (List.Mem.tail _ (List.Mem.head _))))))
  have f6 : 0 ≤ (-7) + (1 * τ 19002 + 0) := hf _ (List.Mem.tail _ (List.Mem.tail _ (List.Mem.tail _ (List.Mem.tail _ (List.Mem.tail _ (List.Mem.tail _ (List.Mem.head _)))))))
  have f7 : 0 ≤ 7 + ((-1) * τ 19002 + 0) := hf _ (List.Mem.tail _ (List.Mem.tail _ (List.Mem.tail _ (List.Mem.tail _ (List.Mem.tail _ (List.Mem.tail _ (List.Mem.tail _ (List.Mem.head _))))))))
  have f8 : 0 ≤ 0 + ((-1) * τ 19003 + 0) := hf _ (List.Mem.tail _ (List.Mem.tail _ (List.Mem.tail _ (List.Mem.tail _ (List.Mem.tail _ (List.Mem.tail _ (List.Mem.tail _ (List.Mem.tail _ (List.Mem.head _)))))))))
  have f9 : 0 ≤ 0 + (1 * τ 1000000 + ((-1) * τ 1000002 + 0)) := hf _ (List.Mem.tail _ (List.Mem.tail _ (List.Mem.tail _ (List.Mem.tail _ (List.Mem.tail _ (List.Mem.tail _ (List.Mem.tail _ (List.Mem.tail _ (List.Mem.tail _ (List.Mem.head _))))))))))
  have f10 : 0 ≤ 0 + ((-1) * τ 1000000 + (1 * τ 1000002 + 0)) := hf _ (List.Mem.tail _ (List.Mem.tail _ (List.Mem.tail _ (List.Mem.tail _ (List.Mem.tail _ (List.Mem.tail _ (List.Mem.tail _ (List.Mem.tail _ (List.Mem.tail _ (List.Mem.tail _ (List.Mem.head _)))))))))))
  have f11 : 0 ≤ 0 + (1 * τ 1000001 + ((-1) * τ 1000003 + 0)) := hf _ (List.Mem.tail _ (List.Mem.tail _ (List.Mem.tail _ (List.Mem.tail _ (List.Mem.tail _ (List.Mem.tail _ (List.Mem.tail _ (List.Mem.tail _ (List.Mem.tail _ (List.Mem.tail _ (List.Mem.tail _ (List.Mem.head _))))))))))))
  have f12 : 0 ≤ 0 + ((-1) * τ 1000001 + (1 * τ 1000003 + 0)) := hf _ (List.Mem.tail _ (List.Mem.tail _ (List.Mem.tail _ (List.Mem.tail _ (List.Mem.tail _ (List.Mem.tail _ (List.Mem.tail _ (List.Mem.tail _ (List.Mem.tail _ (List.Mem.tail _ (List.Mem.tail _ (List.Mem.tail _ (List.Mem.head _)))))))))))))
  have f13 : 0 ≤ (-1) + ((-1) * τ 19001 + (1 * τ 19002 + 0)) := hf _ (List.Mem.tail _ (List.Mem.tail _ (List.Mem.tail _ (List.Mem.tail _ (List.Mem.tail _ (List.Mem.tail _ (List.Mem.tail _ (List.Mem.tail _ (List.Mem.tail _ (List.Mem.tail _ (List.Mem.tail _ (List.Mem.tail _ (List.Mem.tail _ (List.Mem.head _))))))))))))))
  have f14 : 0 ≤ (-1) + (1 * τ 133 + ((-1) * τ 19002 + 0)) := hf _ (List.Mem.tail _ (List.Mem.tail _ (List.Mem.tail _ (List.Mem.tail _ (List.Mem.tail _ (List.Mem.tail _ (List.Mem.tail _ (List.Mem.tail _ (List.Mem.tail _ (List.Mem.tail _ (List.Mem.tail _ (List.Mem.tail _ (List.Mem.tail _ (List.Mem.tail _ (List.Mem.head _)))))))))))))))
  have f15 : 0 ≤ (-1) + (1 * τ 133 + ((-1) * τ 19001 + 0)) := hf _ (List.Mem.tail _ (List.Mem.tail _ (List.Mem.tail _ (List.Mem.tail _ (List.Mem.tail _ (List.Mem.tail _ (List.Mem.tail _ (List.Mem.tail _ (List.Mem.tail _ (List.Mem.tail _ (List.Mem.tail _ (List.Mem.tail _ (List.Mem.tail _ (List.Mem.tail _ (List.Mem.tail _ (List.Mem.head _))))))))))))))))
  have m134 : σ' 134 = 1 + (1 * τ 134 + 0) := hm 134 (by decide)
  clear hf hm
  exact Or.inl ⟨by omega, ⟨by omega, by omega, by omega, by omega, by omega, by omega⟩, by omega⟩
theorem lw_mwx_160 {as : List rv_A} {σ σ' : Nat → Int} {o : rv_O} {x : Int32} {a1 a2 : Int} {τ : Nat → Int} (hx : o.1 = some (.inl x)) (h1 : lw_av as 1 = a1) (h2 : lw_av as 2 = a2) (hb : ∀ s, (sx_sr s).1 ≤ σ s ∧ σ s ≤ (sx_sr s).2) (hW : lw_W ([(18549, 128, 255), (18551, 32, 255), (18590, 128, 255), (18593, 32, 255)], [(0, [(18549, (-1)), (1000000, 1)]), (0, [(18551, (-1)), (1000001, 1)]), ((-1), [(133, 1)]), (11, [(134, (-1))]), ((-5), [(19001, 1)]), (5, [(19001, (-1))]), ((-7), [(19002, 1)]), (7, [(19002, (-1))]), ((-1), [(19003, 1)]), (0, [(1000000, 1), (1000002, (-1))]), (0, [(1000000, (-1)), (1000002, 1)]), (0, [(1000001, 1), (1000003, (-1))]), (0, [(1000001, (-1)), (1000003, 1)]), ((-1), [(19001, (-1)), (19002, 1)]), ((-1), [(133, 1), (19002, (-1))]), ((-1), [(133, 1), (19001, (-1))])], [(9, (0, [])), (134, (1, [(134, 1)])), (7048, ((-2), [])), (7049, ((-2), [])), (8069, (0, [])), (11396, ((-2), [])), (18549, (0, [(1000000, 1)])), (18551, (0, [(1000001, 1)])), (18588, (0, [(18549, 1)])), (18589, (128, [])), (18590, (0, [(1000002, 1)])), (18591, (0, [(18551, 1)])), (18592, (32, [])), (18593, (0, [(1000003, 1)])), (18594, (2, []))], some (false, (1, []))) as σ σ' τ o) : lw_mwx_C a1 a2 x.toInt σ σ' := by
  unfold lw_mwx_C
  have b133 : 0 ≤ σ 133 ∧ σ 133 ≤ 8 := by
    have h0 := hb 133
    rw [show sx_sr 133 = (0, 8) from by decide +kernel] at h0
    exact h0
  have b134 : 0 ≤ σ 134 ∧ σ 134 ≤ 12 := by
    have h0 := hb 134
    rw [show sx_sr 134 = (0, 12) from by decide +kernel] at h0
    exact h0
  obtain ⟨hs, ht, hf, hr, hm, hw⟩ := hW
  have e1 : τ 19001 = a1 := by rw [ht 19001 (by decide) (by decide)]; exact h1
  have e2 : τ 19002 = a2 := by rw [ht 19002 (by decide) (by decide)]; exact h2
  have s133 : τ 133 = σ 133 := hs 133 (by decide)
  have s134 : τ 134 = σ 134 := hs 134 (by decide)
  clear hs ht hb
  rw [hx] at hr
  obtain ⟨y, hy, hv⟩ := hr
  cases hy
  replace hv : x.toInt = 1 + 0 := hv
  have f0 : 0 ≤ 0 + ((-1) * τ 18549 + (1 * τ 1000000 + 0)) := hf _ (List.Mem.head _)
  have f1 : 0 ≤ 0 + ((-1) * τ 18551 + (1 * τ 1000001 + 0)) := hf _ (List.Mem.tail _ (List.Mem.head _))
  have f2 : 0 ≤ (-1) + (1 * τ 133 + 0) := hf _ (List.Mem.tail _ (List.Mem.tail _ (List.Mem.head _)))
  have f3 : 0 ≤ 11 + ((-1) * τ 134 + 0) := hf _ (List.Mem.tail _ (List.Mem.tail _ (List.Mem.tail _ (List.Mem.head _))))
  have f4 : 0 ≤ (-5) + (1 * τ 19001 + 0) := hf _ (List.Mem.tail _ (List.Mem.tail _ (List.Mem.tail _ (List.Mem.tail _ (List.Mem.head _)))))
  have f5 : 0 ≤ 5 + ((-1) * τ 19001 + 0) := hf _ (List.Mem.tail _ (List.Mem.tail _ (List.Mem.tail _ (List.Mem.tail _ (List.Mem.tail _ (List.Mem.head _))))))
  have f6 : 0 ≤ (-7) + (1 * τ 19002 + 0) := hf _ (List.Mem.tail _ (List.Mem.tail _ (List.Mem.tail _ (List.Mem.tail _ (List.Mem.tail _ (List.Mem.tail _ (List.Mem.head _)))))))
  have f7 : 0 ≤ 7 + ((-1) * τ 19002 + 0) := hf _ (List.Mem.tail _ (List.Mem.tail _ (List.Mem.tail _ (List.Mem.tail _ (List.Mem.tail _ (List.Mem.tail _ (List.Mem.tail _ (List.Mem.head _))))))))
  have f8 : 0 ≤ (-1) + (1 * τ 19003 + 0) := hf _ (List.Mem.tail _ (List.Mem.tail _ (List.Mem.tail _ (List.Mem.tail _ (List.Mem.tail _ (List.Mem.tail _ (List.Mem.tail _ (List.Mem.tail _ (List.Mem.head _)))))))))
  have f9 : 0 ≤ 0 + (1 * τ 1000000 + ((-1) * τ 1000002 + 0)) := hf _ (List.Mem.tail _ (List.Mem.tail _ (List.Mem.tail _ (List.Mem.tail _ (List.Mem.tail _ (List.Mem.tail _ (List.Mem.tail _ (List.Mem.tail _ (List.Mem.tail _ (List.Mem.head _))))))))))
  have f10 : 0 ≤ 0 + ((-1) * τ 1000000 + (1 * τ 1000002 + 0)) := hf _ (List.Mem.tail _ (List.Mem.tail _ (List.Mem.tail _ (List.Mem.tail _ (List.Mem.tail _ (List.Mem.tail _ (List.Mem.tail _ (List.Mem.tail _ (List.Mem.tail _ (List.Mem.tail _ (List.Mem.head _)))))))))))
  have f11 : 0 ≤ 0 + (1 * τ 1000001 + ((-1) * τ 1000003 + 0)) := hf _ (List.Mem.tail _ (List.Mem.tail _ (List.Mem.tail _ (List.Mem.tail _ (List.Mem.tail _ (List.Mem.tail _ (List.Mem.tail _ (List.Mem.tail _ (List.Mem.tail _ (List.Mem.tail _ (List.Mem.tail _ (List.Mem.head _))))))))))))
  have f12 : 0 ≤ 0 + ((-1) * τ 1000001 + (1 * τ 1000003 + 0)) := hf _ (List.Mem.tail _ (List.Mem.tail _ (List.Mem.tail _ (List.Mem.tail _ (List.Mem.tail _ (List.Mem.tail _ (List.Mem.tail _ (List.Mem.tail _ (List.Mem.tail _ (List.Mem.tail _ (List.Mem.tail _ (List.Mem.tail _ (List.Mem.head _)))))))))))))
  have f13 : 0 ≤ (-1) + ((-1) * τ 19001 + (1 * τ 19002 + 0)) := hf _ (List.Mem.tail _ (List.Mem.tail _ (List.Mem.tail _ (List.Mem.tail _ (List.Mem.tail _ (List.Mem.tail _ (List.Mem.tail _ (List.Mem.tail _ (List.Mem.tail _ (List.Mem.tail _ (List.Mem.tail _ (List.Mem.tail _ (List.Mem.tail _ (List.Mem.head _))))))))))))))
  have f14 : 0 ≤ (-1) + (1 * τ 133 + ((-1) * τ 19002 + 0)) := hf _ (List.Mem.tail _ (List.Mem.tail _ (List.Mem.tail _ (List.Mem.tail _ (List.Mem.tail _ (List.Mem.tail _ (List.Mem.tail _ (List.Mem.tail _ (List.Mem.tail _ (List.Mem.tail _ (List.Mem.tail _ (List.Mem.tail _ (List.Mem.tail _ (List.Mem.tail _ (List.Mem.head _)))))))))))))))
  have f15 : 0 ≤ (-1) + (1 * τ 133 + ((-1) * τ 19001 + 0)) := hf _ (List.Mem.tail _ (List.Mem.tail _ (List.Mem.tail _ (List.Mem.tail _ (List.Mem.tail _ (List.Mem.tail _ (List.Mem.tail _ (List.Mem.tail _ (List.Mem.tail _ (List.Mem.tail _ (List.Mem.tail _ (List.Mem.tail _ (List.Mem.tail _ (List.Mem.tail _ (List.Mem.tail _ (List.Mem.head _))))))))))))))))
  have m134 : σ' 134 = 1 + (1 * τ 134 + 0) := hm 134 (by decide)
  clear hf hm
  exact Or.inl ⟨by omega, ⟨by omega, by omega, by omega, by omega, by omega, by omega⟩, by omega⟩
theorem lw_mwx_161 {as : List rv_A} {σ σ' : Nat → Int} {o : rv_O} {x : Int32} {a1 a2 : Int} {τ : Nat → Int} (hx : o.1 = some (.inl x)) (h1 : lw_av as 1 = a1) (h2 : lw_av as 2 = a2) (hb : ∀ s, (sx_sr s).1 ≤ σ s ∧ σ s ≤ (sx_sr s).2) (hW : lw_W ([(18536, 64, 255), (18542, 1, 255), (18590, 1, 255), (18593, 64, 255)], [(0, [(18536, (-1)), (1000000, 1)]), (0, [(18542, (-1)), (1000001, 1)]), ((-1), [(133, 1)]), (11, [(134, (-1))]), ((-6), [(19001, 1)]), (6, [(19001, (-1))]), (0, [(19002, 1)]), (0, [(19002, (-1))]), (0, [(19003, (-1))]), (0, [(1000000, 1), (1000003, (-1))]), (0, [(1000000, (-1)), (1000003, 1)]), (0, [(1000001, 1), (1000002, (-1))]), (0, [(1000001, (-1)), (1000002, 1)]), ((-1), [(19001, 1), (19002, (-1))]), ((-1), [(133, 1), (19002, (-1))]), ((-1), [(133, 1), (19001, (-1))])], [(9, (0, [])), (134, (1, [(134, 1)])), (7048, ((-2), [])), (7049, ((-2), [])), (8069, (0, [])), (11396, ((-2), [])), (18536, (0, [(1000000, 1)])), (18542, (0, [(1000001, 1)])), (18588, (0, [(18542, 1)])), (18589, (1, [])), (18590, (0, [(1000002, 1)])), (18591, (0, [(18536, 1)])), (18592, (64, [])), (18593, (0, [(1000003, 1)])), (18594, (2, []))], some (false, (1, []))) as σ σ' τ o) : lw_mwx_C a1 a2 x.toInt σ σ' := by
  unfold lw_mwx_C
  have b133 : 0 ≤ σ 133 ∧ σ 133 ≤ 8 := by
    have h0 := hb 133
    rw [show sx_sr 133 = (0, 8) from by decide +kernel] at h0
    exact h0
  have b134 : 0 ≤ σ 134 ∧ σ 134 ≤ 12 := by
    have h0 := hb 134
    rw [show sx_sr 134 = (0, 12) from by decide +kernel] at h0
    exact h0
  obtain ⟨hs, ht, hf, hr, hm, hw⟩ := hW
  have e1 : τ 19001 = a1 := by rw [ht 19001 (by decide) (by decide)]; exact h1
  have e2 : τ 19002 = a2 := by rw [ht 19002 (by decide) (by decide)]; exact h2
  have s133 : τ 133 = σ 133 := hs 133 (by decide)
  have s134 : τ 134 = σ 134 := hs 134 (by decide)
  clear hs ht hb
  rw [hx] at hr
  obtain ⟨y, hy, hv⟩ := hr
  cases hy
  replace hv : x.toInt = 1 + 0 := hv
  have f0 : 0 ≤ 0 + ((-1) * τ 18536 + (1 * τ 1000000 + 0)) := hf _ (List.Mem.head _)
  have f1 : 0 ≤ 0 + ((-1) * τ 18542 + (1 * τ 1000001 + 0)) := hf _ (List.Mem.tail _ (List.Mem.head _))
  have f2 : 0 ≤ (-1) + (1 * τ 133 + 0) := hf _ (List.Mem.tail _ (List.Mem.tail _ (List.Mem.head _)))
  have f3 : 0 ≤ 11 + ((-1) * τ 134 + 0) := hf _ (List.Mem.tail _ (List.Mem.tail _ (List.Mem.tail _ (List.Mem.head _))))
  have f4 : 0 ≤ (-6) + (1 * τ 19001 + 0) := hf _ (List.Mem.tail _ (List.Mem.tail _ (List.Mem.tail _ (List.Mem.tail _ (List.Mem.head _)))))
  have f5 : 0 ≤ 6 + ((-1) * τ 19001 + 0) := hf _ (List.Mem.tail _ (List.Mem.tail _ (List.Mem.tail _ (List.Mem.tail _ (List.Mem.tail _ (List.Mem.head _))))))
  have f6 : 0 ≤ 0 + (1 * τ 19002 + 0) := hf _ (List.Mem.tail _ (List.Mem.tail _ (List.Mem.tail _ (List.Mem.tail _ (List.Mem.tail _ (List.Mem.tail _ (List.Mem.head _)))))))
  have f7 : 0 ≤ 0 + ((-1) * τ 19002 + 0) := hf _ (List.Mem.tail _ (List.Mem.tail _ (List.Mem.tail _ (List.Mem.tail _ (List.Mem.tail _ (List.Mem.tail _ (List.Mem.tail _ (List.Mem.head _))))))))
  have f8 : 0 ≤ 0 + ((-1) * τ 19003 + 0) := hf _ (List.Mem.tail _ (List.Mem.tail _ (List.Mem.tail _ (List.Mem.tail _ (List.Mem.tail _ (List.Mem.tail _ (List.Mem.tail _ (List.Mem.tail _ (List.Mem.head _)))))))))
  have f9 : 0 ≤ 0 + (1 * τ 1000000 + ((-1) * τ 1000003 + 0)) := hf _ (List.Mem.tail _ (List.Mem.tail _ (List.Mem.tail _ (List.Mem.tail _ (List.Mem.tail _ (List.Mem.tail _ (List.Mem.tail _ (List.Mem.tail _ (List.Mem.tail _ (List.Mem.head _))))))))))
  have f10 : 0 ≤ 0 + ((-1) * τ 1000000 + (1 * τ 1000003 + 0)) := hf _ (List.Mem.tail _ (List.Mem.tail _ (List.Mem.tail _ (List.Mem.tail _ (List.Mem.tail _ (List.Mem.tail _ (List.Mem.tail _ (List.Mem.tail _ (List.Mem.tail _ (List.Mem.tail _ (List.Mem.head _)))))))))))
  have f11 : 0 ≤ 0 + (1 * τ 1000001 + ((-1) * τ 1000002 + 0)) := hf _ (List.Mem.tail _ (List.Mem.tail _ (List.Mem.tail _ (List.Mem.tail _ (List.Mem.tail _ (List.Mem.tail _ (List.Mem.tail _ (List.Mem.tail _ (List.Mem.tail _ (List.Mem.tail _ (List.Mem.tail _ (List.Mem.head _))))))))))))
  have f12 : 0 ≤ 0 + ((-1) * τ 1000001 + (1 * τ 1000002 + 0)) := hf _ (List.Mem.tail _ (List.Mem.tail _ (List.Mem.tail _ (List.Mem.tail _ (List.Mem.tail _ (List.Mem.tail _ (List.Mem.tail _ (List.Mem.tail _ (List.Mem.tail _ (List.Mem.tail _ (List.Mem.tail _ (List.Mem.tail _ (List.Mem.head _)))))))))))))
  have f13 : 0 ≤ (-1) + (1 * τ 19001 + ((-1) * τ 19002 + 0)) := hf _ (List.Mem.tail _ (List.Mem.tail _ (List.Mem.tail _ (List.Mem.tail _ (List.Mem.tail _ (List.Mem.tail _ (List.Mem.tail _ (List.Mem.tail _ (List.Mem.tail _ (List.Mem.tail _ (List.Mem.tail _ (List.Mem.tail _ (List.Mem.tail _ (List.Mem.head _))))))))))))))
  have f14 : 0 ≤ (-1) + (1 * τ 133 + ((-1) * τ 19002 + 0)) := hf _ (List.Mem.tail _ (List.Mem.tail _ (List.Mem.tail _ (List.Mem.tail _ (List.Mem.tail _ (List.Mem.tail _ (List.Mem.tail _ (List.Mem.tail _ (List.Mem.tail _ (List.Mem.tail _ (List.Mem.tail _ (List.Mem.tail _ (List.Mem.tail _ (List.Mem.tail _ (List.Mem.head _)))))))))))))))
  have f15 : 0 ≤ (-1) + (1 * τ 133 + ((-1) * τ 19001 + 0)) := hf _ (List.Mem.tail _ (List.Mem.tail _ (List.Mem.tail _ (List.Mem.tail _ (List.Mem.tail _ (List.Mem.tail _ (List.Mem.tail _ (List.Mem.tail _ (List.Mem.tail _ (List.Mem.tail _ (List.Mem.tail _ (List.Mem.tail _ (List.Mem.tail _ (List.Mem.tail _ (List.Mem.tail _ (List.Mem.head _))))))))))))))))
  have m134 : σ' 134 = 1 + (1 * τ 134 + 0) := hm 134 (by decide)
  clear hf hm
  exact Or.inl ⟨by omega, ⟨by omega, by omega, by omega, by omega, by omega, by omega⟩, by omega⟩
theorem lw_mwx_162 {as : List rv_A} {σ σ' : Nat → Int} {o : rv_O} {x : Int32} {a1 a2 : Int} {τ : Nat → Int} (hx : o.1 = some (.inl x)) (h1 : lw_av as 1 = a1) (h2 : lw_av as 2 = a2) (hb : ∀ s, (sx_sr s).1 ≤ σ s ∧ σ s ≤ (sx_sr s).2) (hW : lw_W ([(18544, 64, 255), (18550, 1, 255), (18590, 1, 255), (18593, 64, 255)], [(0, [(18544, (-1)), (1000000, 1)]), (0, [(18550, (-1)), (1000001, 1)]), ((-1), [(133, 1)]), (11, [(134, (-1))]), ((-6), [(19001, 1)]), (6, [(19001, (-1))]), (0, [(19002, 1)]), (0, [(19002, (-1))]), ((-1), [(19003, 1)]), (0, [(1000000, 1), (1000003, (-1))]), (0, [(1000000, (-1)), (1000003, 1)]), (0, [(1000001, 1), (1000002, (-1))]), (0, [(1000001, (-1)), (1000002, 1)]), ((-1), [(19001, 1), (19002, (-1))]), ((-1), [(133, 1), (19002, (-1))]), ((-1), [(133, 1), (19001, (-1))])], [(9, (0, [])), (134, (1, [(134, 1)])), (7048, ((-2), [])), (7049, ((-2), [])), (8069, (0, [])), (11396, ((-2), [])), (18544, (0, [(1000000, 1)])), (18550, (0, [(1000001, 1)])), (18588, (0, [(18550, 1)])), (18589, (1, [])), (18590, (0, [(1000002, 1)])), (18591, (0, [(18544, 1)])), (18592, (64, [])), (18593, (0, [(1000003, 1)])), (18594, (2, []))], some (false, (1, []))) as σ σ' τ o) : lw_mwx_C a1 a2 x.toInt σ σ' := by
  unfold lw_mwx_C
  have b133 : 0 ≤ σ 133 ∧ σ 133 ≤ 8 := by
    have h0 := hb 133
    rw [show sx_sr 133 = (0, 8) from by decide +kernel] at h0
    exact h0
  have b134 : 0 ≤ σ 134 ∧ σ 134 ≤ 12 := by
    have h0 := hb 134
    rw [show sx_sr 134 = (0, 12) from by decide +kernel] at h0
    exact h0
  obtain ⟨hs, ht, hf, hr, hm, hw⟩ := hW
  have e1 : τ 19001 = a1 := by rw [ht 19001 (by decide) (by decide)]; exact h1
  have e2 : τ 19002 = a2 := by rw [ht 19002 (by decide) (by decide)]; exact h2
  have s133 : τ 133 = σ 133 := hs 133 (by decide)
  have s134 : τ 134 = σ 134 := hs 134 (by decide)
  clear hs ht hb
  rw [hx] at hr
  obtain ⟨y, hy, hv⟩ := hr
  cases hy
  replace hv : x.toInt = 1 + 0 := hv
  have f0 : 0 ≤ 0 + ((-1) * τ 18544 + (1 * τ 1000000 + 0)) := hf _ (List.Mem.head _)
  have f1 : 0 ≤ 0 + ((-1) * τ 18550 + (1 * τ 1000001 + 0)) := hf _ (List.Mem.tail _ (List.Mem.head _))
  have f2 : 0 ≤ (-1) + (1 * τ 133 + 0) := hf _ (List.Mem.tail _ (List.Mem.tail _ (List.Mem.head _)))
  have f3 : 0 ≤ 11 + ((-1) * τ 134 + 0) := hf _ (List.Mem.tail _ (List.Mem.tail _ (List.Mem.tail _ (List.Mem.head _))))
  have f4 : 0 ≤ (-6) + (1 * τ 19001 + 0) := hf _ (List.Mem.tail _ (List.Mem.tail _ (List.Mem.tail _ (List.Mem.tail _ (List.Mem.head _)))))
  have f5 : 0 ≤ 6 + ((-1) * τ 19001 + 0) := hf _ (List.Mem.tail _ (List.Mem.tail _ (List.Mem.tail _ (List.Mem.tail _ (List.Mem.tail _ (List.Mem.head _))))))
  have f6 : 0 ≤ 0 + (1 * τ 19002 + 0) := hf _ (List.Mem.tail _ (List.Mem.tail _ (List.Mem.tail _ (List.Mem.tail _ (List.Mem.tail _ (List.Mem.tail _ (List.Mem.head _)))))))
  have f7 : 0 ≤ 0 + ((-1) * τ 19002 + 0) := hf _ (List.Mem.tail _ (List.Mem.tail _ (List.Mem.tail _ (List.Mem.tail _ (List.Mem.tail _ (List.Mem.tail _ (List.Mem.tail _ (List.Mem.head _))))))))
  have f8 : 0 ≤ (-1) + (1 * τ 19003 + 0) := hf _ (List.Mem.tail _ (List.Mem.tail _ (List.Mem.tail _ (List.Mem.tail _ (List.Mem.tail _ (List.Mem.tail _ (List.Mem.tail _ (List.Mem.tail _ (List.Mem.head _)))))))))
  have f9 : 0 ≤ 0 + (1 * τ 1000000 + ((-1) * τ 1000003 + 0)) := hf _ (List.Mem.tail _ (List.Mem.tail _ (List.Mem.tail _ (List.Mem.tail _ (List.Mem.tail _ (List.Mem.tail _ (List.Mem.tail _ (List.Mem.tail _ (List.Mem.tail _ (List.Mem.head _))))))))))
  have f10 : 0 ≤ 0 + ((-1) * τ 1000000 + (1 * τ 1000003 + 0)) := hf _ (List.Mem.tail _ (List.Mem.tail _ (List.Mem.tail _ (List.Mem.tail _ (List.Mem.tail _ (List.Mem.tail _ (List.Mem.tail _ (List.Mem.tail _ (List.Mem.tail _ (List.Mem.tail _ (List.Mem.head _)))))))))))
  have f11 : 0 ≤ 0 + (1 * τ 1000001 + ((-1) * τ 1000002 + 0)) := hf _ (List.Mem.tail _ (List.Mem.tail _ (List.Mem.tail _ (List.Mem.tail _ (List.Mem.tail _ (List.Mem.tail _ (List.Mem.tail _ (List.Mem.tail _ (List.Mem.tail _ (List.Mem.tail _ (List.Mem.tail _ (List.Mem.head _))))))))))))
  have f12 : 0 ≤ 0 + ((-1) * τ 1000001 + (1 * τ 1000002 + 0)) := hf _ (List.Mem.tail _ (List.Mem.tail _ (List.Mem.tail _ (List.Mem.tail _ (List.Mem.tail _ (List.Mem.tail _ (List.Mem.tail _ (List.Mem.tail _ (List.Mem.tail _ (List.Mem.tail _ (List.Mem.tail _ (List.Mem.tail _ (List.Mem.head _)))))))))))))
  have f13 : 0 ≤ (-1) + (1 * τ 19001 + ((-1) * τ 19002 + 0)) := hf _ (List.Mem.tail _ (List.Mem.tail _ (List.Mem.tail _ (List.Mem.tail _ (List.Mem.tail _ (List.Mem.tail _ (List.Mem.tail _ (List.Mem.tail _ (List.Mem.tail _ (List.Mem.tail _ (List.Mem.tail _ (List.Mem.tail _ (List.Mem.tail _ (List.Mem.head _))))))))))))))
  have f14 : 0 ≤ (-1) + (1 * τ 133 + ((-1) * τ 19002 + 0)) := hf _ (List.Mem.tail _ (List.Mem.tail _ (List.Mem.tail _ (List.Mem.tail _ (List.Mem.tail _ (List.Mem.tail _ (List.Mem.tail _ (List.Mem.tail _ (List.Mem.tail _ (List.Mem.tail _ (List.Mem.tail _ (List.Mem.tail _ (List.Mem.tail _ (List.Mem.tail _ (List.Mem.head _)))))))))))))))
  have f15 : 0 ≤ (-1) + (1 * τ 133 + ((-1) * τ 19001 + 0)) := hf _ (List.Mem.tail _ (List.Mem.tail _ (List.Mem.tail _ (List.Mem.tail _ (List.Mem.tail _ (List.Mem.tail _ (List.Mem.tail _ (List.Mem.tail _ (List.Mem.tail _ (List.Mem.tail _ (List.Mem.tail _ (List.Mem.tail _ (List.Mem.tail _ (List.Mem.tail _ (List.Mem.tail _ (List.Mem.head _))))))))))))))))
  have m134 : σ' 134 = 1 + (1 * τ 134 + 0) := hm 134 (by decide)
  clear hf hm
  exact Or.inl ⟨by omega, ⟨by omega, by omega, by omega, by omega, by omega, by omega⟩, by omega⟩
theorem lw_mwx_163 {as : List rv_A} {σ σ' : Nat → Int} {o : rv_O} {x : Int32} {a1 a2 : Int} {τ : Nat → Int} (hx : o.1 = some (.inl x)) (h1 : lw_av as 1 = a1) (h2 : lw_av as 2 = a2) (hb : ∀ s, (sx_sr s).1 ≤ σ s ∧ σ s ≤ (sx_sr s).2) (hW : lw_W ([(18537, 64, 255), (18542, 2, 255), (18590, 2, 255), (18593, 64, 255)], [(0, [(18537, (-1)), (1000000, 1)]), (0, [(18542, (-1)), (1000001, 1)]), ((-1), [(133, 1)]), (11, [(134, (-1))]), ((-6), [(19001, 1)]), (6, [(19001, (-1))]), ((-1), [(19002, 1)]), (1, [(19002, (-1))]), (0, [(19003, (-1))]), (0, [(1000000, 1), (1000003, (-1))]), (0, [(1000000, (-1)), (1000003, 1)]), (0, [(1000001, 1), (1000002, (-1))]), (0, [(1000001, (-1)), (1000002, 1)]), ((-1), [(19001, (-1)), (19002, 1)]), ((-1), [(133, 1), (19002, (-1))]), ((-1), [(133, 1), (19001, (-1))])], [(9, (0, [])), (134, (1, [(134, 1)])), (7048, ((-2), [])), (7049, ((-2), [])), (8069, (0, [])), (11396, ((-2), [])), (18537, (0, [(1000000, 1)])), (18542, (0, [(1000001, 1)])), (18588, (0, [(18542, 1)])), (18589, (2, [])), (18590, (0, [(1000002, 1)])), (18591, (0, [(18537, 1)])), (18592, (64, [])), (18593, (0, [(1000003, 1)])), (18594, (2, []))], some (false, (1, []))) as σ σ' τ o) : lw_mwx_C a1 a2 x.toInt σ σ' := by
  unfold lw_mwx_C
  have b133 : 0 ≤ σ 133 ∧ σ 133 ≤ 8 := by
    have h0 := hb 133
    rw [show sx_sr 133 = (0, 8) from by decide +kernel] at h0
    exact h0
  have b134 : 0 ≤ σ 134 ∧ σ 134 ≤ 12 := by
    have h0 := hb 134
    rw [show sx_sr 134 = (0, 12) from by decide +kernel] at h0
    exact h0
  obtain ⟨hs, ht, hf, hr, hm, hw⟩ := hW
  have e1 : τ 19001 = a1 := by rw [ht 19001 (by decide) (by decide)]; exact h1
  have e2 : τ 19002 = a2 := by rw [ht 19002 (by decide) (by decide)]; exact h2
  have s133 : τ 133 = σ 133 := hs 133 (by decide)
  have s134 : τ 134 = σ 134 := hs 134 (by decide)
  clear hs ht hb
  rw [hx] at hr
  obtain ⟨y, hy, hv⟩ := hr
  cases hy
  replace hv : x.toInt = 1 + 0 := hv
  have f0 : 0 ≤ 0 + ((-1) * τ 18537 + (1 * τ 1000000 + 0)) := hf _ (List.Mem.head _)
  have f1 : 0 ≤ 0 + ((-1) * τ 18542 + (1 * τ 1000001 + 0)) := hf _ (List.Mem.tail _ (List.Mem.head _))
  have f2 : 0 ≤ (-1) + (1 * τ 133 + 0) := hf _ (List.Mem.tail _ (List.Mem.tail _ (List.Mem.head _)))
  have f3 : 0 ≤ 11 + ((-1) * τ 134 + 0) := hf _ (List.Mem.tail _ (List.Mem.tail _ (List.Mem.tail _ (List.Mem.head _))))
  have f4 : 0 ≤ (-6) + (1 * τ 19001 + 0) := hf _ (List.Mem.tail _ (List.Mem.tail _ (List.Mem.tail _ (List.Mem.tail _ (List.Mem.head _)))))
  have f5 : 0 ≤ 6 + ((-1) * τ 19001 + 0) := hf _ (List.Mem.tail _ (List.Mem.tail _ (List.Mem.tail _ (List.Mem.tail _ (List.Mem.tail _ (List.Mem.head _))))))
  have f6 : 0 ≤ (-1) + (1 * τ 19002 + 0) := hf _ (List.Mem.tail _ (List.Mem.tail _ (List.Mem.tail _ (List.Mem.tail _ (List.Mem.tail _ (List.Mem.tail _ (List.Mem.head _)))))))
  have f7 : 0 ≤ 1 + ((-1) * τ 19002 + 0) := hf _ (List.Mem.tail _ (List.Mem.tail _ (List.Mem.tail _ (List.Mem.tail _ (List.Mem.tail _ (List.Mem.tail _ (List.Mem.tail _ (List.Mem.head _))))))))
  have f8 : 0 ≤ 0 + ((-1) * τ 19003 + 0) := hf _ (List.Mem.tail _ (List.Mem.tail _ (List.Mem.tail _ (List.Mem.tail _ (List.Mem.tail _ (List.Mem.tail _ (List.Mem.tail _ (List.Mem.tail _ (List.Mem.head _)))))))))
  have f9 : 0 ≤ 0 + (1 * τ 1000000 + ((-1) * τ 1000003 + 0)) := hf _ (List.Mem.tail _ (List.Mem.tail _ (List.Mem.tail _ (List.Mem.tail _ (List.Mem.tail _ (List.Mem.tail _ (List.Mem.tail _ (List.Mem.tail _ (List.Mem.tail _ (List.Mem.head _))))))))))
  have f10 : 0 ≤ 0 + ((-1) * τ 1000000 + (1 * τ 1000003 + 0)) := hf _ (List.Mem.tail _ (List.Mem.tail _ (List.Mem.tail _ (List.Mem.tail _ (List.Mem.tail _ (List.Mem.tail _ (List.Mem.tail _ (List.Mem.tail _ (List.Mem.tail _ (List.Mem.tail _ (List.Mem.head _)))))))))))
  have f11 : 0 ≤ 0 + (1 * τ 1000001 + ((-1) * τ 1000002 + 0)) := hf _ (List.Mem.tail _ (List.Mem.tail _ (List.Mem.tail _ (List.Mem.tail _ (List.Mem.tail _ (List.Mem.tail _ (List.Mem.tail _ (List.Mem.tail _ (List.Mem.tail _ (List.Mem.tail _ (List.Mem.tail _ (List.Mem.head _))))))))))))
  have f12 : 0 ≤ 0 + ((-1) * τ 1000001 + (1 * τ 1000002 + 0)) := hf _ (List.Mem.tail _ (List.Mem.tail _ (List.Mem.tail _ (List.Mem.tail _ (List.Mem.tail _ (List.Mem.tail _ (List.Mem.tail _ (List.Mem.tail _ (List.Mem.tail _ (List.Mem.tail _ (List.Mem.tail _ (List.Mem.tail _ (List.Mem.head _)))))))))))))
  have f13 : 0 ≤ (-1) + ((-1) * τ 19001 + (1 * τ 19002 + 0)) := hf _ (List.Mem.tail _ (List.Mem.tail _ (List.Mem.tail _ (List.Mem.tail _ (List.Mem.tail _ (List.Mem.tail _ (List.Mem.tail _ (List.Mem.tail _ (List.Mem.tail _ (List.Mem.tail _ (List.Mem.tail _ (List.Mem.tail _ (List.Mem.tail _ (List.Mem.head _))))))))))))))
  have f14 : 0 ≤ (-1) + (1 * τ 133 + ((-1) * τ 19002 + 0)) := hf _ (List.Mem.tail _ (List.Mem.tail _ (List.Mem.tail _ (List.Mem.tail _ (List.Mem.tail _ (List.Mem.tail _ (List.Mem.tail _ (List.Mem.tail _ (List.Mem.tail _ (List.Mem.tail _ (List.Mem.tail _ (List.Mem.tail _ (List.Mem.tail _ (List.Mem.tail _ (List.Mem.head _)))))))))))))))
  have f15 : 0 ≤ (-1) + (1 * τ 133 + ((-1) * τ 19001 + 0)) := hf _ (List.Mem.tail _ (List.Mem.tail _ (List.Mem.tail _ (List.Mem.tail _ (List.Mem.tail _ (List.Mem.tail _ (List.Mem.tail _ (List.Mem.tail _ (List.Mem.tail _ (List.Mem.tail _ (List.Mem.tail _ (List.Mem.tail _ (List.Mem.tail _ (List.Mem.tail _ (List.Mem.tail _ (List.Mem.head _))))))))))))))))
  have m134 : σ' 134 = 1 + (1 * τ 134 + 0) := hm 134 (by decide)
  clear hf hm
  exact Or.inl ⟨by omega, ⟨by omega, by omega, by omega, by omega, by omega, by omega⟩, by omega⟩
theorem lw_mwx_164 {as : List rv_A} {σ σ' : Nat → Int} {o : rv_O} {x : Int32} {a1 a2 : Int} {τ : Nat → Int} (hx : o.1 = some (.inl x)) (h1 : lw_av as 1 = a1) (h2 : lw_av as 2 = a2) (hb : ∀ s, (sx_sr s).1 ≤ σ s ∧ σ s ≤ (sx_sr s).2) (hW : lw_W ([(18537, 64, 255), (18542, 2, 255), (18590, 2, 255), (18593, 64, 255)], [(0, [(18537, (-1)), (1000000, 1)]), (0, [(18542, (-1)), (1000001, 1)]), ((-1), [(133, 1)]), (11, [(134, (-1))]), ((-6), [(19001, 1)]), (6, [(19001, (-1))]), ((-1), [(19002, 1)]), (1, [(19002, (-1))]), (0, [(19003, (-1))]), (0, [(1000000, 1), (1000003, (-1))]), (0, [(1000000, (-1)), (1000003, 1)]), (0, [(1000001, 1), (1000002, (-1))]), (0, [(1000001, (-1)), (1000002, 1)]), ((-1), [(19001, 1), (19002, (-1))]), ((-1), [(133, 1), (19002, (-1))]), ((-1), [(133, 1), (19001, (-1))])], [(9, (0, [])), (134, (1, [(134, 1)])), (7048, ((-2), [])), (7049, ((-2), [])), (8069, (0, [])), (11396, ((-2), [])), (18537, (0, [(1000000, 1)])), (18542, (0, [(1000001, 1)])), (18588, (0, [(18542, 1)])), (18589, (2, [])), (18590, (0, [(1000002, 1)])), (18591, (0, [(18537, 1)])), (18592, (64, [])), (18593, (0, [(1000003, 1)])), (18594, (2, []))], some (false, (1, []))) as σ σ' τ o) : lw_mwx_C a1 a2 x.toInt σ σ' := by
  unfold lw_mwx_C
  have b133 : 0 ≤ σ 133 ∧ σ 133 ≤ 8 := by
    have h0 := hb 133
    rw [show sx_sr 133 = (0, 8) from by decide +kernel] at h0
    exact h0
  have b134 : 0 ≤ σ 134 ∧ σ 134 ≤ 12 := by
    have h0 := hb 134
    rw [show sx_sr 134 = (0, 12) from by decide +kernel] at h0
    exact h0
  obtain ⟨hs, ht, hf, hr, hm, hw⟩ := hW
  have e1 : τ 19001 = a1 := by rw [ht 19001 (by decide) (by decide)]; exact h1
  have e2 : τ 19002 = a2 := by rw [ht 19002 (by decide) (by decide)]; exact h2
  have s133 : τ 133 = σ 133 := hs 133 (by decide)
  have s134 : τ 134 = σ 134 := hs 134 (by decide)
  clear hs ht hb
  rw [hx] at hr
  obtain ⟨y, hy, hv⟩ := hr
  cases hy
  replace hv : x.toInt = 1 + 0 := hv
  have f0 : 0 ≤ 0 + ((-1) * τ 18537 + (1 * τ 1000000 + 0)) := hf _ (List.Mem.head _)
  have f1 : 0 ≤ 0 + ((-1) * τ 18542 + (1 * τ 1000001 + 0)) := hf _ (List.Mem.tail _ (List.Mem.head _))
  have f2 : 0 ≤ (-1) + (1 * τ 133 + 0) := hf _ (List.Mem.tail _ (List.Mem.tail _ (List.Mem.head _)))
  have f3 : 0 ≤ 11 + ((-1) * τ 134 + 0) := hf _ (List.Mem.tail _ (List.Mem.tail _ (List.Mem.tail _ (List.Mem.head _))))
  have f4 : 0 ≤ (-6) + (1 * τ 19001 + 0) := hf _ (List.Mem.tail _ (List.Mem.tail _ (List.Mem.tail _ (List.Mem.tail _ (List.Mem.head _)))))
  have f5 : 0 ≤ 6 + ((-1) * τ 19001 + 0) := hf _ (List.Mem.tail _ (List.Mem.tail _ (List.Mem.tail _ (List.Mem.tail _ (List.Mem.tail _ (List.Mem.head _))))))
  have f6 : 0 ≤ (-1) + (1 * τ 19002 + 0) := hf _ (List.Mem.tail _ (List.Mem.tail _ (List.Mem.tail _ (List.Mem.tail _ (List.Mem.tail _ (List.Mem.tail _ (List.Mem.head _)))))))
  have f7 : 0 ≤ 1 + ((-1) * τ 19002 + 0) := hf _ (List.Mem.tail _ (List.Mem.tail _ (List.Mem.tail _ (List.Mem.tail _ (List.Mem.tail _ (List.Mem.tail _ (List.Mem.tail _ (List.Mem.head _))))))))
  have f8 : 0 ≤ 0 + ((-1) * τ 19003 + 0) := hf _ (List.Mem.tail _ (List.Mem.tail _ (List.Mem.tail _ (List.Mem.tail _ (List.Mem.tail _ (List.Mem.tail _ (List.Mem.tail _ (List.Mem.tail _ (List.Mem.head _)))))))))
  have f9 : 0 ≤ 0 + (1 * τ 1000000 + ((-1) * τ 1000003 + 0)) := hf _ (List.Mem.tail _ (List.Mem.tail _ (List.Mem.tail _ (List.Mem.tail _ (List.Mem.tail _ (List.Mem.tail _ (List.Mem.tail _ (List.Mem.tail _ (List.Mem.tail _ (List.Mem.head _))))))))))
  have f10 : 0 ≤ 0 + ((-1) * τ 1000000 + (1 * τ 1000003 + 0)) := hf _ (List.Mem.tail _ (List.Mem.tail _ (List.Mem.tail _ (List.Mem.tail _ (List.Mem.tail _ (List.Mem.tail _ (List.Mem.tail _ (List.Mem.tail _ (List.Mem.tail _ (List.Mem.tail _ (List.Mem.head _)))))))))))
  have f11 : 0 ≤ 0 + (1 * τ 1000001 + ((-1) * τ 1000002 + 0)) := hf _ (List.Mem.tail _ (List.Mem.tail _ (List.Mem.tail _ (List.Mem.tail _ (List.Mem.tail _ (List.Mem.tail _ (List.Mem.tail _ (List.Mem.tail _ (List.Mem.tail _ (List.Mem.tail _ (List.Mem.tail _ (List.Mem.head _))))))))))))
  have f12 : 0 ≤ 0 + ((-1) * τ 1000001 + (1 * τ 1000002 + 0)) := hf _ (List.Mem.tail _ (List.Mem.tail _ (List.Mem.tail _ (List.Mem.tail _ (List.Mem.tail _ (List.Mem.tail _ (List.Mem.tail _ (List.Mem.tail _ (List.Mem.tail _ (List.Mem.tail _ (List.Mem.tail _ (List.Mem.tail _ (List.Mem.head _)))))))))))))
  have f13 : 0 ≤ (-1) + (1 * τ 19001 + ((-1) * τ 19002 + 0)) := hf _ (List.Mem.tail _ (List.Mem.tail _ (List.Mem.tail _ (List.Mem.tail _ (List.Mem.tail _ (List.Mem.tail _ (List.Mem.tail _ (List.Mem.tail _ (List.Mem.tail _ (List.Mem.tail _ (List.Mem.tail _ (List.Mem.tail _ (List.Mem.tail _ (List.Mem.head _))))))))))))))
  have f14 : 0 ≤ (-1) + (1 * τ 133 + ((-1) * τ 19002 + 0)) := hf _ (List.Mem.tail _ (List.Mem.tail _ (List.Mem.tail _ (List.Mem.tail _ (List.Mem.tail _ (List.Mem.tail _ (List.Mem.tail _ (List.Mem.tail _ (List.Mem.tail _ (List.Mem.tail _ (List.Mem.tail _ (List.Mem.tail _ (List.Mem.tail _ (List.Mem.tail _ (List.Mem.head _)))))))))))))))
  have f15 : 0 ≤ (-1) + (1 * τ 133 + ((-1) * τ 19001 + 0)) := hf _ (List.Mem.tail _ (List.Mem.tail _ (List.Mem.tail _ (List.Mem.tail _ (List.Mem.tail _ (List.Mem.tail _ (List.Mem.tail _ (List.Mem.tail _ (List.Mem.tail _ (List.Mem.tail _ (List.Mem.tail _ (List.Mem.tail _ (List.Mem.tail _ (List.Mem.tail _ (List.Mem.tail _ (List.Mem.head _))))))))))))))))
  have m134 : σ' 134 = 1 + (1 * τ 134 + 0) := hm 134 (by decide)
  clear hf hm
  exact Or.inl ⟨by omega, ⟨by omega, by omega, by omega, by omega, by omega, by omega⟩, by omega⟩
theorem lw_mwx_165 {as : List rv_A} {σ σ' : Nat → Int} {o : rv_O} {x : Int32} {a1 a2 : Int} {τ : Nat → Int} (hx : o.1 = some (.inl x)) (h1 : lw_av as 1 = a1) (h2 : lw_av as 2 = a2) (hb : ∀ s, (sx_sr s).1 ≤ σ s ∧ σ s ≤ (sx_sr s).2) (hW : lw_W ([(18545, 64, 255), (18550, 2, 255), (18590, 2, 255), (18593, 64, 255)], [(0, [(18545, (-1)), (1000000, 1)]), (0, [(18550, (-1)), (1000001, 1)]), ((-1), [(133, 1)]), (11, [(134, (-1))]), ((-6), [(19001, 1)]), (6, [(19001, (-1))]), ((-1), [(19002, 1)]), (1, [(19002, (-1))]), ((-1), [(19003, 1)]), (0, [(1000000, 1), (1000003, (-1))]), (0, [(1000000, (-1)), (1000003, 1)]), (0, [(1000001, 1), (1000002, (-1))]), (0, [(1000001, (-1)), (1000002, 1)]), ((-1), [(19001, (-1)), (19002, 1)]), ((-1), [(133, 1), (19002, (-1))]), ((-1), [(133, 1), (19001, (-1))])], [(9, (0, [])), (134, (1, [(134, 1)])), (7048, ((-2), [])), (7049, ((-2), [])), (8069, (0, [])), (11396, ((-2), [])), (18545, (0, [(1000000, 1)])), (18550, (0, [(1000001, 1)])), (18588, (0, [(18550, 1)])), (18589, (2, [])), (18590, (0, [(1000002, 1)])), (18591, (0, [(18545, 1)])), (18592, (64, [])), (18593, (0, [(1000003, 1)])), (18594, (2, []))], some (false, (1, []))) as σ σ' τ o) : lw_mwx_C a1 a2 x.toInt σ σ' := by
  unfold lw_mwx_C
  have b133 : 0 ≤ σ 133 ∧ σ 133 ≤ 8 := by
    have h0 := hb 133
    rw [show sx_sr 133 = (0, 8) from by decide +kernel] at h0
    exact h0
  have b134 : 0 ≤ σ 134 ∧ σ 134 ≤ 12 := by
    have h0 := hb 134
    rw [show sx_sr 134 = (0, 12) from by decide +kernel] at h0
    exact h0
  obtain ⟨hs, ht, hf, hr, hm, hw⟩ := hW
  have e1 : τ 19001 = a1 := by rw [ht 19001 (by decide) (by decide)]; exact h1
  have e2 : τ 19002 = a2 := by rw [ht 19002 (by decide) (by decide)]; exact h2
  have s133 : τ 133 = σ 133 := hs 133 (by decide)
  have s134 : τ 134 = σ 134 := hs 134 (by decide)
  clear hs ht hb
  rw [hx] at hr
  obtain ⟨y, hy, hv⟩ := hr
  cases hy
  replace hv : x.toInt = 1 + 0 := hv
  have f0 : 0 ≤ 0 + ((-1) * τ 18545 + (1 * τ 1000000 + 0)) := hf _ (List.Mem.head _)
  have f1 : 0 ≤ 0 + ((-1) * τ 18550 + (1 * τ 1000001 + 0)) := hf _ (List.Mem.tail _ (List.Mem.head _))
  have f2 : 0 ≤ (-1) + (1 * τ 133 + 0) := hf _ (List.Mem.tail _ (List.Mem.tail _ (List.Mem.head _)))
  have f3 : 0 ≤ 11 + ((-1) * τ 134 + 0) := hf _ (List.Mem.tail _ (List.Mem.tail _ (List.Mem.tail _ (List.Mem.head _))))
  have f4 : 0 ≤ (-6) + (1 * τ 19001 + 0) := hf _ (List.Mem.tail _ (List.Mem.tail _ (List.Mem.tail _ (List.Mem.tail _ (List.Mem.head _)))))
  have f5 : 0 ≤ 6 + ((-1) * τ 19001 + 0) := hf _ (List.Mem.tail _ (List.Mem.tail _ (List.Mem.tail _ (List.Mem.tail _ (List.Mem.tail _ (List.Mem.head _))))))
  have f6 : 0 ≤ (-1) + (1 * τ 19002 + 0) := hf _ (List.Mem.tail _ (List.Mem.tail _ (List.Mem.tail _ (List.Mem.tail _ (List.Mem.tail _ (List.Mem.tail _ (List.Mem.head _)))))))
  have f7 : 0 ≤ 1 + ((-1) * τ 19002 + 0) := hf _ (List.Mem.tail _ (List.Mem.tail _ (List.Mem.tail _ (List.Mem.tail _ (List.Mem.tail _ (List.Mem.tail _ (List.Mem.tail _ (List.Mem.head _))))))))
  have f8 : 0 ≤ (-1) + (1 * τ 19003 + 0) := hf _ (List.Mem.tail _ (List.Mem.tail _ (List.Mem.tail _ (List.Mem.tail _ (List.Mem.tail _ (List.Mem.tail _ (List.Mem.tail _ (List.Mem.tail _ (List.Mem.head _)))))))))
  have f9 : 0 ≤ 0 + (1 * τ 1000000 + ((-1) * τ 1000003 + 0)) := hf _ (List.Mem.tail _ (List.Mem.tail _ (List.Mem.tail _ (List.Mem.tail _ (List.Mem.tail _ (List.Mem.tail _ (List.Mem.tail _ (List.Mem.tail _ (List.Mem.tail _ (List.Mem.head _))))))))))
  have f10 : 0 ≤ 0 + ((-1) * τ 1000000 + (1 * τ 1000003 + 0)) := hf _ (List.Mem.tail _ (List.Mem.tail _ (List.Mem.tail _ (List.Mem.tail _ (List.Mem.tail _ (List.Mem.tail _ (List.Mem.tail _ (List.Mem.tail _ (List.Mem.tail _ (List.Mem.tail _ (List.Mem.head _)))))))))))
  have f11 : 0 ≤ 0 + (1 * τ 1000001 + ((-1) * τ 1000002 + 0)) := hf _ (List.Mem.tail _ (List.Mem.tail _ (List.Mem.tail _ (List.Mem.tail _ (List.Mem.tail _ (List.Mem.tail _ (List.Mem.tail _ (List.Mem.tail _ (List.Mem.tail _ (List.Mem.tail _ (List.Mem.tail _ (List.Mem.head _))))))))))))
  have f12 : 0 ≤ 0 + ((-1) * τ 1000001 + (1 * τ 1000002 + 0)) := hf _ (List.Mem.tail _ (List.Mem.tail _ (List.Mem.tail _ (List.Mem.tail _ (List.Mem.tail _ (List.Mem.tail _ (List.Mem.tail _ (List.Mem.tail _ (List.Mem.tail _ (List.Mem.tail _ (List.Mem.tail _ (List.Mem.tail _ (List.Mem.head _)))))))))))))
  have f13 : 0 ≤ (-1) + ((-1) * τ 19001 + (1 * τ 19002 + 0)) := hf _ (List.Mem.tail _ (List.Mem.tail _ (List.Mem.tail _ (List.Mem.tail _ (List.Mem.tail _ (List.Mem.tail _ (List.Mem.tail _ (List.Mem.tail _ (List.Mem.tail _ (List.Mem.tail _ (List.Mem.tail _ (List.Mem.tail _ (List.Mem.tail _ (List.Mem.head _))))))))))))))
  have f14 : 0 ≤ (-1) + (1 * τ 133 + ((-1) * τ 19002 + 0)) := hf _ (List.Mem.tail _ (List.Mem.tail _ (List.Mem.tail _ (List.Mem.tail _ (List.Mem.tail _ (List.Mem.tail _ (List.Mem.tail _ (List.Mem.tail _ (List.Mem.tail _ (List.Mem.tail _ (List.Mem.tail _ (List.Mem.tail _ (List.Mem.tail _ (List.Mem.tail _ (List.Mem.head _)))))))))))))))
  have f15 : 0 ≤ (-1) + (1 * τ 133 + ((-1) * τ 19001 + 0)) := hf _ (List.Mem.tail _ (List.Mem.tail _ (List.Mem.tail _ (List.Mem.tail _ (List.Mem.tail _ (List.Mem.tail _ (List.Mem.tail _ (List.Mem.tail _ (List.Mem.tail _ (List.Mem.tail _ (List.Mem.tail _ (List.Mem.tail _ (List.Mem.tail _ (List.Mem.tail _ (List.Mem.tail _ (List.Mem.head _))))))))))))))))
  have m134 : σ' 134 = 1 + (1 * τ 134 + 0) := hm 134 (by decide)
  clear hf hm
  exact Or.inl ⟨by omega, ⟨by omega, by omega, by omega, by omega, by omega, by omega⟩, by omega⟩
theorem lw_mwx_166 {as : List rv_A} {σ σ' : Nat → Int} {o : rv_O} {x : Int32} {a1 a2 : Int} {τ : Nat → Int} (hx : o.1 = some (.inl x)) (h1 : lw_av as 1 = a1) (h2 : lw_av as 2 = a2) (hb : ∀ s, (sx_sr s).1 ≤ σ s ∧ σ s ≤ (sx_sr s).2) (hW : lw_W ([(18545, 64, 255), (18550, 2, 255), (18590, 2, 255), (18593, 64, 255)], [(0, [(18545, (-1)), (1000000, 1)]), (0, [(18550, (-1)), (1000001, 1)]), ((-1), [(133, 1)]), (11, [(134, (-1))]), ((-6), [(19001, 1)]), (6, [(19001, (-1))]), ((-1), [(19002, 1)]), (1, [(19002, (-1))]), ((-1), [(19003, 1)]), (0, [(1000000, 1), (1000003, (-1))]), (0, [(1000000, (-1)), (1000003, 1)]), (0, [(1000001, 1), (1000002, (-1))]), (0, [(1000001, (-1)), (1000002, 1)]), ((-1), [(19001, 1), (19002, (-1))]), ((-1), [(133, 1), (19002, (-1))]), ((-1), [(133, 1), (19001, (-1))])], [(9, (0, [])), (134, (1, [(134, 1)])), (7048, ((-2), [])), (7049, ((-2), [])), (8069, (0, [])), (11396, ((-2), [])), (18545, (0, [(1000000, 1)])), (18550, (0, [(1000001, 1)])), (18588, (0, [(18550, 1)])), (18589, (2, [])), (18590, (0, [(1000002, 1)])), (18591, (0, [(18545, 1)])), (18592, (64, [])), (18593, (0, [(1000003, 1)])), (18594, (2, []))], some (false, (1, []))) as σ σ' τ o) : lw_mwx_C a1 a2 x.toInt σ σ' := by
  unfold lw_mwx_C
  have b133 : 0 ≤ σ 133 ∧ σ 133 ≤ 8 := by
    have h0 := hb 133
    rw [show sx_sr 133 = (0, 8) from by decide +kernel] at h0
    exact h0
  have b134 : 0 ≤ σ 134 ∧ σ 134 ≤ 12 := by
    have h0 := hb 134
    rw [show sx_sr 134 = (0, 12) from by decide +kernel] at h0
    exact h0
  obtain ⟨hs, ht, hf, hr, hm, hw⟩ := hW
  have e1 : τ 19001 = a1 := by rw [ht 19001 (by decide) (by decide)]; exact h1
  have e2 : τ 19002 = a2 := by rw [ht 19002 (by decide) (by decide)]; exact h2
  have s133 : τ 133 = σ 133 := hs 133 (by decide)
  have s134 : τ 134 = σ 134 := hs 134 (by decide)
  clear hs ht hb
  rw [hx] at hr
  obtain ⟨y, hy, hv⟩ := hr
  cases hy
  replace hv : x.toInt = 1 + 0 := hv
  have f0 : 0 ≤ 0 + ((-1) * τ 18545 + (1 * τ 1000000 + 0)) := hf _ (List.Mem.head _)
  have f1 : 0 ≤ 0 + ((-1) * τ 18550 + (1 * τ 1000001 + 0)) := hf _ (List.Mem.tail _ (List.Mem.head _))
  have f2 : 0 ≤ (-1) + (1 * τ 133 + 0) := hf _ (List.Mem.tail _ (List.Mem.tail _ (List.Mem.head _)))
  have f3 : 0 ≤ 11 + ((-1) * τ 134 + 0) := hf _ (List.Mem.tail _ (List.Mem.tail _ (List.Mem.tail _ (List.Mem.head _))))
  have f4 : 0 ≤ (-6) + (1 * τ 19001 + 0) := hf _ (List.Mem.tail _ (List.Mem.tail _ (List.Mem.tail _ (List.Mem.tail _ (List.Mem.head _)))))
  have f5 : 0 ≤ 6 + ((-1) * τ 19001 + 0) := hf _ (List.Mem.tail _ (List.Mem.tail _ (List.Mem.tail _ (List.Mem.tail _ (List.Mem.tail _ (List.Mem.head _))))))
  have f6 : 0 ≤ (-1) + (1 * τ 19002 + 0) := hf _ (List.Mem.tail _ (List.Mem.tail _ (List.Mem.tail _ (List.Mem.tail _ (List.Mem.tail _ (List.Mem.tail _ (List.Mem.head _)))))))
  have f7 : 0 ≤ 1 + ((-1) * τ 19002 + 0) := hf _ (List.Mem.tail _ (List.Mem.tail _ (List.Mem.tail _ (List.Mem.tail _ (List.Mem.tail _ (List.Mem.tail _ (List.Mem.tail _ (List.Mem.head _))))))))
  have f8 : 0 ≤ (-1) + (1 * τ 19003 + 0) := hf _ (List.Mem.tail _ (List.Mem.tail _ (List.Mem.tail _ (List.Mem.tail _ (List.Mem.tail _ (List.Mem.tail _ (List.Mem.tail _ (List.Mem.tail _ (List.Mem.head _)))))))))
  have f9 : 0 ≤ 0 + (1 * τ 1000000 + ((-1) * τ 1000003 + 0)) := hf _ (List.Mem.tail _ (List.Mem.tail _ (List.Mem.tail _ (List.Mem.tail _ (List.Mem.tail _ (List.Mem.tail _ (List.Mem.tail _ (List.Mem.tail _ (List.Mem.tail _ (List.Mem.head _))))))))))
  have f10 : 0 ≤ 0 + ((-1) * τ 1000000 + (1 * τ 1000003 + 0)) := hf _ (List.Mem.tail _ (List.Mem.tail _ (List.Mem.tail _ (List.Mem.tail _ (List.Mem.tail _ (List.Mem.tail _ (List.Mem.tail _ (List.Mem.tail _ (List.Mem.tail _ (List.Mem.tail _ (List.Mem.head _)))))))))))
  have f11 : 0 ≤ 0 + (1 * τ 1000001 + ((-1) * τ 1000002 + 0)) := hf _ (List.Mem.tail _ (List.Mem.tail _ (List.Mem.tail _ (List.Mem.tail _ (List.Mem.tail _ (List.Mem.tail _ (List.Mem.tail _ (List.Mem.tail _ (List.Mem.tail _ (List.Mem.tail _ (List.Mem.tail _ (List.Mem.head _))))))))))))
  have f12 : 0 ≤ 0 + ((-1) * τ 1000001 + (1 * τ 1000002 + 0)) := hf _ (List.Mem.tail _ (List.Mem.tail _ (List.Mem.tail _ (List.Mem.tail _ (List.Mem.tail _ (List.Mem.tail _ (List.Mem.tail _ (List.Mem.tail _ (List.Mem.tail _ (List.Mem.tail _ (List.Mem.tail _ (List.Mem.tail _ (List.Mem.head _)))))))))))))
  have f13 : 0 ≤ (-1) + (1 * τ 19001 + ((-1) * τ 19002 + 0)) := hf _ (List.Mem.tail _ (List.Mem.tail _ (List.Mem.tail _ (List.Mem.tail _ (List.Mem.tail _ (List.Mem.tail _ (List.Mem.tail _ (List.Mem.tail _ (List.Mem.tail _ (List.Mem.tail _ (List.Mem.tail _ (List.Mem.tail _ (List.Mem.tail _ (List.Mem.head _))))))))))))))
  have f14 : 0 ≤ (-1) + (1 * τ 133 + ((-1) * τ 19002 + 0)) := hf _ (List.Mem.tail _ (List.Mem.tail _ (List.Mem.tail _ (List.Mem.tail _ (List.Mem.tail _ (List.Mem.tail _ (List.Mem.tail _ (List.Mem.tail _ (List.Mem.tail _ (List.Mem.tail _ (List.Mem.tail _ (List.Mem.tail _ (List.Mem.tail _ (List.Mem.tail _ (List.Mem.head _)))))))))))))))
  have f15 : 0 ≤ (-1) + (1 * τ 133 + ((-1) * τ 19001 + 0)) := hf _ (List.Mem.tail _ (List.Mem.tail _ (List.Mem.tail _ (List.Mem.tail _ (List.Mem.tail _ (List.Mem.tail _ (List.Mem.tail _ (List.Mem.tail _ (List.Mem.tail _ (List.Mem.tail _ (List.Mem.tail _ (List.Mem.tail _ (List.Mem.tail _ (List.Mem.tail _ (List.Mem.tail _ (List.Mem.head _))))))))))))))))
  have m134 : σ' 134 = 1 + (1 * τ 134 + 0) := hm 134 (by decide)
  clear hf hm
  exact Or.inl ⟨by omega, ⟨by omega, by omega, by omega, by omega, by omega, by omega⟩, by omega⟩
theorem lw_mwx_167 {as : List rv_A} {σ σ' : Nat → Int} {o : rv_O} {x : Int32} {a1 a2 : Int} {τ : Nat → Int} (hx : o.1 = some (.inl x)) (h1 : lw_av as 1 = a1) (h2 : lw_av as 2 = a2) (hb : ∀ s, (sx_sr s).1 ≤ σ s ∧ σ s ≤ (sx_sr s).2) (hW : lw_W ([(18538, 64, 255), (18542, 4, 255), (18590, 4, 255), (18593, 64, 255)], [(0, [(18538, (-1)), (1000000, 1)]), (0, [(18542, (-1)), (1000001, 1)]), ((-1), [(133, 1)]), (11, [(134, (-1))]), ((-6), [(19001, 1)]), (6, [(19001, (-1))]), ((-2), [(19002, 1)]), (2, [(19002, (-1))]), (0, [(19003, (-1))]), (0, [(1000000, 1), (1000003, (-1))]), (0, [(1000000, (-1)), (1000003, 1)]), (0, [(1000001, 1), (1000002, (-1))]), (0, [(1000001, (-1)), (1000002, 1)]), ((-1), [(19001, (-1)), (19002, 1)]), ((-1), [(133, 1), (19002, (-1))]), ((-1), [(133, 1), (19001, (-1))])], [(9, (0, [])), (134, (1, [(134, 1)])), (7048, ((-2), [])), (7049, ((-2), [])), (8069, (0, [])), (11396, ((-2), [])), (18538, (0, [(1000000, 1)])), (18542, (0, [(1000001, 1)])), (18588, (0, [(18542, 1)])), (18589, (4, [])), (18590, (0, [(1000002, 1)])), (18591, (0, [(18538, 1)])), (18592, (64, [])), (18593, (0, [(1000003, 1)])), (18594, (2, []))], some (false, (1, []))) as σ σ' τ o) : lw_mwx_C a1 a2 x.toInt σ σ' := by
  unfold lw_mwx_C
  have b133 : 0 ≤ σ 133 ∧ σ 133 ≤ 8 := by
    have h0 := hb 133
    rw [show sx_sr 133 = (0, 8) from by decide +kernel] at h0
    exact h0
  have b134 : 0 ≤ σ 134 ∧ σ 134 ≤ 12 := by
    have h0 := hb 134
    rw [show sx_sr 134 = (0, 12) from by decide +kernel] at h0
    exact h0
  obtain ⟨hs, ht, hf, hr, hm, hw⟩ := hW
  have e1 : τ 19001 = a1 := by rw [ht 19001 (by decide) (by decide)]; exact h1
  have e2 : τ 19002 = a2 := by rw [ht 19002 (by decide) (by decide)]; exact h2
  have s133 : τ 133 = σ 133 := hs 133 (by decide)
  have s134 : τ 134 = σ 134 := hs 134 (by decide)
  clear hs ht hb
  rw [hx] at hr
  obtain ⟨y, hy, hv⟩ := hr
  cases hy
  replace hv : x.toInt = 1 + 0 := hv
  have f0 : 0 ≤ 0 + ((-1) * τ 18538 + (1 * τ 1000000 + 0)) := hf _ (List.Mem.head _)
  have f1 : 0 ≤ 0 + ((-1) * τ 18542 + (1 * τ 1000001 + 0)) := hf _ (List.Mem.tail _ (List.Mem.head _))
  have f2 : 0 ≤ (-1) + (1 * τ 133 + 0) := hf _ (List.Mem.tail _ (List.Mem.tail _ (List.Mem.head _)))
  have f3 : 0 ≤ 11 + ((-1) * τ 134 + 0) := hf _ (List.Mem.tail _ (List.Mem.tail _ (List.Mem.tail _ (List.Mem.head _))))
  have f4 : 0 ≤ (-6) + (1 * τ 19001 + 0) := hf _ (List.Mem.tail _ (List.Mem.tail _ (List.Mem.tail _ (List.Mem.tail _ (List.Mem.head _)))))
  have f5 : 0 ≤ 6 + ((-1) * τ 19001 + 0) := hf _ (List.Mem.tail _ (List.Mem.tail _ (List.Mem.tail _ (List.Mem.tail _ (List.Mem.tail _ (List.Mem.head _))))))
  have f6 : 0 ≤ (-2) + (1 * τ 19002 + 0) := hf _ (List.Mem.tail _ (List.Mem.tail _ (List.Mem.tail _ (List.Mem.tail _ (List.Mem.tail _ (List.Mem.tail _ (List.Mem.head _)))))))
  have f7 : 0 ≤ 2 + ((-1) * τ 19002 + 0) := hf _ (List.Mem.tail _ (List.Mem.tail _ (List.Mem.tail _ (List.Mem.tail _ (List.Mem.tail _ (List.Mem.tail _ (List.Mem.tail _ (List.Mem.head _))))))))
  have f8 : 0 ≤ 0 + ((-1) * τ 19003 + 0) := hf _ (List.Mem.tail _ (List.Mem.tail _ (List.Mem.tail _ (List.Mem.tail _ (List.Mem.tail _ (List.Mem.tail _ (List.Mem.tail _ (List.Mem.tail _ (List.Mem.head _)))))))))
  have f9 : 0 ≤ 0 + (1 * τ 1000000 + ((-1) * τ 1000003 + 0)) := hf _ (List.Mem.tail _ (List.Mem.tail _ (List.Mem.tail _ (List.Mem.tail _ (List.Mem.tail _ (List.Mem.tail _ (List.Mem.tail _ (List.Mem.tail _ (List.Mem.tail _ (List.Mem.head _))))))))))
  have f10 : 0 ≤ 0 + ((-1) * τ 1000000 + (1 * τ 1000003 + 0)) := hf _ (List.Mem.tail _ (List.Mem.tail _ (List.Mem.tail _ (List.Mem.tail _ (List.Mem.tail _ (List.Mem.tail _ (List.Mem.tail _ (List.Mem.tail _ (List.Mem.tail _ (List.Mem.tail _ (List.Mem.head _)))))))))))
  have f11 : 0 ≤ 0 + (1 * τ 1000001 + ((-1) * τ 1000002 + 0)) := hf _ (List.Mem.tail _ (List.Mem.tail _ (List.Mem.tail _ (List.Mem.tail _ (List.Mem.tail _ (List.Mem.tail _ (List.Mem.tail _ (List.Mem.tail _ (List.Mem.tail _ (List.Mem.tail _ (List.Mem.tail _ (List.Mem.head _))))))))))))
  have f12 : 0 ≤ 0 + ((-1) * τ 1000001 + (1 * τ 1000002 + 0)) := hf _ (List.Mem.tail _ (List.Mem.tail _ (List.Mem.tail _ (List.Mem.tail _ (List.Mem.tail _ (List.Mem.tail _ (List.Mem.tail _ (List.Mem.tail _ (List.Mem.tail _ (List.Mem.tail _ (List.Mem.tail _ (List.Mem.tail _ (List.Mem.head _)))))))))))))
  have f13 : 0 ≤ (-1) + ((-1) * τ 19001 + (1 * τ 19002 + 0)) := hf _ (List.Mem.tail _ (List.Mem.tail _ (List.Mem.tail _ (List.Mem.tail _ (List.Mem.tail _ (List.Mem.tail _ (List.Mem.tail _ (List.Mem.tail _ (List.Mem.tail _ (List.Mem.tail _ (List.Mem.tail _ (List.Mem.tail _ (List.Mem.tail _ (List.Mem.head _))))))))))))))
  have f14 : 0 ≤ (-1) + (1 * τ 133 + ((-1) * τ 19002 + 0)) := hf _ (List.Mem.tail _ (List.Mem.tail _ (List.Mem.tail _ (List.Mem.tail _ (List.Mem.tail _ (List.Mem.tail _ (List.Mem.tail _ (List.Mem.tail _ (List.Mem.tail _ (List.Mem.tail _ (List.Mem.tail _ (List.Mem.tail _ (List.Mem.tail _ (List.Mem.tail _ (List.Mem.head _)))))))))))))))
  have f15 : 0 ≤ (-1) + (1 * τ 133 + ((-1) * τ 19001 + 0)) := hf _ (List.Mem.tail _ (List.Mem.tail _ (List.Mem.tail _ (List.Mem.tail _ (List.Mem.tail _ (List.Mem.tail _ (List.Mem.tail _ (List.Mem.tail _ (List.Mem.tail _ (List.Mem.tail _ (List.Mem.tail _ (List.Mem.tail _ (List.Mem.tail _ (List.Mem.tail _ (List.Mem.tail _ (List.Mem.head _))))))))))))))))
  have m134 : σ' 134 = 1 + (1 * τ 134 + 0) := hm 134 (by decide)
  clear hf hm
  exact Or.inl ⟨by omega, ⟨by omega, by omega, by omega, by omega, by omega, by omega⟩, by omega⟩
theorem lw_mwx_168 {as : List rv_A} {σ σ' : Nat → Int} {o : rv_O} {x : Int32} {a1 a2 : Int} {τ : Nat → Int} (hx : o.1 = some (.inl x)) (h1 : lw_av as 1 = a1) (h2 : lw_av as 2 = a2) (hb : ∀ s, (sx_sr s).1 ≤ σ s ∧ σ s ≤ (sx_sr s).2) (hW : lw_W ([(18538, 64, 255), (18542, 4, 255), (18590, 4, 255), (18593, 64, 255)], [(0, [(18538, (-1)), (1000000, 1)]), (0, [(18542, (-1)), (1000001, 1)]), ((-1), [(133, 1)]), (11, [(134, (-1))]), ((-6), [(19001, 1)]), (6, [(19001, (-1))]), ((-2), [(19002, 1)]), (2, [(19002, (-1))]), (0, [(19003, (-1))]), (0, [(1000000, 1), (1000003, (-1))]), (0, [(1000000, (-1)), (1000003, 1)]), (0, [(1000001, 1), (1000002, (-1))]), (0, [(1000001, (-1)), (1000002, 1)]), ((-1), [(19001, 1), (19002, (-1))]), ((-1), [(133, 1), (19002, (-1))]), ((-1), [(133, 1), (19001, (-1))])], [(9, (0, [])), (134, (1, [(134, 1)])), (7048, ((-2), [])), (7049, ((-2), [])), (8069, (0, [])), (11396, ((-2), [])), (18538, (0, [(1000000, 1)])), (18542, (0, [(1000001, 1)])), (18588, (0, [(18542, 1)])), (18589, (4, [])), (18590, (0, [(1000002, 1)])), (18591, (0, [(18538, 1)])), (18592, (64, [])), (18593, (0, [(1000003, 1)])), (18594, (2, []))], some (false, (1, []))) as σ σ' τ o) : lw_mwx_C a1 a2 x.toInt σ σ' := by
  unfold lw_mwx_C
  have b133 : 0 ≤ σ 133 ∧ σ 133 ≤ 8 := by
    have h0 := hb 133
    rw [show sx_sr 133 = (0, 8) from by decide +kernel] at h0
    exact h0
  have b134 : 0 ≤ σ 134 ∧ σ 134 ≤ 12 := by
    have h0 := hb 134
    rw [show sx_sr 134 = (0, 12) from by decide +kernel] at h0
    exact h0
  obtain ⟨hs, ht, hf, hr, hm, hw⟩ := hW
  have e1 : τ 19001 = a1 := by rw [ht 19001 (by decide) (by decide)]; exact h1
  have e2 : τ 19002 = a2 := by rw [ht 19002 (by decide) (by decide)]; exact h2
  have s133 : τ 133 = σ 133 := hs 133 (by decide)
  have s134 : τ 134 = σ 134 := hs 134 (by decide)
  clear hs ht hb
  rw [hx] at hr
  obtain ⟨y, hy, hv⟩ := hr
  cases hy
  replace hv : x.toInt = 1 + 0 := hv
  have f0 : 0 ≤ 0 + ((-1) * τ 18538 + (1 * τ 1000000 + 0)) := hf _ (List.Mem.head _)
  have f1 : 0 ≤ 0 + ((-1) * τ 18542 + (1 * τ 1000001 + 0)) := hf _ (List.Mem.tail _ (List.Mem.head _))
  have f2 : 0 ≤ (-1) + (1 * τ 133 + 0) := hf _ (List.Mem.tail _ (List.Mem.tail _ (List.Mem.head _)))
  have f3 : 0 ≤ 11 + ((-1) * τ 134 + 0) := hf _ (List.Mem.tail _ (List.Mem.tail _ (List.Mem.tail _ (List.Mem.head _))))
  have f4 : 0 ≤ (-6) + (1 * τ 19001 + 0) := hf _ (List.Mem.tail _ (List.Mem.tail _ (List.Mem.tail _ (List.Mem.tail _ (List.Mem.head _)))))
  have f5 : 0 ≤ 6 + ((-1) * τ 19001 + 0) := hf _ (List.Mem.tail _ (List.Mem.tail _ (List.Mem.tail _ (List.Mem.tail _ (List.Mem.tail _ (List.Mem.head _))))))
  have f6 : 0 ≤ (-2) + (1 * τ 19002 + 0) := hf _ (List.Mem.tail _ (List.Mem.tail _ (List.Mem.tail _ (List.Mem.tail _ (List.Mem.tail _ (List.Mem.tail _ (List.Mem.head _)))))))
  have f7 : 0 ≤ 2 + ((-1) * τ 19002 + 0) := hf _ (List.Mem.tail _ (List.Mem.tail _ (List.Mem.tail _ (List.Mem.tail _ (List.Mem.tail _ (List.Mem.tail _ (List.Mem.tail _ (List.Mem.head _))))))))
  have f8 : 0 ≤ 0 + ((-1) * τ 19003 + 0) := hf _ (List.Mem.tail _ (List.Mem.tail _ (List.Mem.tail _ (List.Mem.tail _ (List.Mem.tail _ (List.Mem.tail _ (List.Mem.tail _ (List.Mem.tail _ (List.Mem.head _)))))))))
  have f9 : 0 ≤ 0 + (1 * τ 1000000 + ((-1) * τ 1000003 + 0)) := hf _ (List.Mem.tail _ (List.Mem.tail _ (List.Mem.tail _ (List.Mem.tail _ (List.Mem.tail _ (List.Mem.tail _ (List.Mem.tail _ (List.Mem.tail _ (List.Mem.tail _ (List.Mem.head _))))))))))
  have f10 : 0 ≤ 0 + ((-1) * τ 1000000 + (1 * τ 1000003 + 0)) := hf _ (List.Mem.tail _ (List.Mem.tail _ (List.Mem.tail _ (List.Mem.tail _ (List.Mem.tail _ (List.Mem.tail _ (List.Mem.tail _ (List.Mem.tail _ (List.Mem.tail _ (List.Mem.tail _ (List.Mem.head _)))))))))))
  have f11 : 0 ≤ 0 + (1 * τ 1000001 + ((-1) * τ 1000002 + 0)) := hf _ (List.Mem.tail _ (List.Mem.tail _ (List.Mem.tail _ (List.Mem.tail _ (List.Mem.tail _ (List.Mem.tail _ (List.Mem.tail _ (List.Mem.tail _ (List.Mem.tail _ (List.Mem.tail _ (List.Mem.tail _ (List.Mem.head _))))))))))))
  have f12 : 0 ≤ 0 + ((-1) * τ 1000001 + (1 * τ 1000002 + 0)) := hf _ (List.Mem.tail _ (List.Mem.tail _ (List.Mem.tail _ (List.Mem.tail _ (List.Mem.tail _ (List.Mem.tail _ (List.Mem.tail _ (List.Mem.tail _ (List.Mem.tail _ (List.Mem.tail _ (List.Mem.tail _ (List.Mem.tail _ (List.Mem.head _)))))))))))))
  have f13 : 0 ≤ (-1) + (1 * τ 19001 + ((-1) * τ 19002 + 0)) := hf _ (List.Mem.tail _ (List.Mem.tail _ (List.Mem.tail _ (List.Mem.tail _ (List.Mem.tail _ (List.Mem.tail _ (List.Mem.tail _ (List.Mem.tail _ (List.Mem.tail _ (List.Mem.tail _ (List.Mem.tail _ (List.Mem.tail _ (List.Mem.tail _ (List.Mem.head _))))))))))))))
  have f14 : 0 ≤ (-1) + (1 * τ 133 + ((-1) * τ 19002 + 0)) := hf _ (List.Mem.tail _ (List.Mem.tail _ (List.Mem.tail _ (List.Mem.tail _ (List.Mem.tail _ (List.Mem.tail _ (List.Mem.tail _ (List.Mem.tail _ (List.Mem.tail _ (List.Mem.tail _ (List.Mem.tail _ (List.Mem.tail _ (List.Mem.tail _ (List.Mem.tail _ (List.Mem.head _)))))))))))))))
  have f15 : 0 ≤ (-1) + (1 * τ 133 + ((-1) * τ 19001 + 0)) := hf _ (List.Mem.tail _ (List.Mem.tail _ (List.Mem.tail _ (List.Mem.tail _ (List.Mem.tail _ (List.Mem.tail _ (List.Mem.tail _ (List.Mem.tail _ (List.Mem.tail _ (List.Mem.tail _ (List.Mem.tail _ (List.Mem.tail _ (List.Mem.tail _ (List.Mem.tail _ (List.Mem.tail _ (List.Mem.head _))))))))))))))))
  have m134 : σ' 134 = 1 + (1 * τ 134 + 0) := hm 134 (by decide)
  clear hf hm
  exact Or.inl ⟨by omega, ⟨by omega, by omega, by omega, by omega, by omega, by omega⟩, by omega⟩
