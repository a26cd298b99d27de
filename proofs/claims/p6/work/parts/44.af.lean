theorem lw_pm_22 {as : List rv_A} {σ σ' : Nat → Int} {o : rv_O} {x : Int32} {a1 a2 a3 a4 a5 : Int} {τ : Nat → Int} (hx : o.1 = some (.inl x)) (h1 : lw_av as 1 = a1) (h2 : lw_av as 2 = a2) (h3 : lw_av as 3 = a3) (h4 : lw_av as 4 = a4) (h5 : lw_av as 5 = a5) (hb : ∀ s, (sx_sr s).1 ≤ σ s ∧ σ s ≤ (sx_sr s).2) (hW : lw_W ([], [((-1), [(18503, 1)]), (2, [(18504, (-1))]), (0, [(18507, 1)]), (0, [(18508, 1)]), ((-2), [(19001, 1)]), (2, [(19001, (-1))]), (0, [(19002, 1)]), ((-3), [(19003, 1)]), (3, [(19003, (-1))]), (0, [(19004, 1)]), (0, [(19005, 1)]), ((-1), [(18503, 1), (18504, (-1))])], [(12800, (8, []))], some (false, (0, []))) as σ σ' τ o) : lw_pm_C a1 a2 a3 a4 a5 x.toInt σ σ' := by
  unfold lw_pm_C
  have b18501 : 0 ≤ σ 18501 ∧ σ 18501 ≤ 3 := by
    have h0 := hb 18501
    rw [show sx_sr 18501 = (0, 3) from by decide +kernel] at h0
    exact h0
  have b18502 : 0 ≤ σ 18502 ∧ σ 18502 ≤ 3 := by
    have h0 := hb 18502
    rw [show sx_sr 18502 = (0, 3) from by decide +kernel] at h0
    exact h0
  have b18503 : 0 ≤ σ 18503 ∧ σ 18503 ≤ 3 := by
    have h0 := hb 18503
    rw [show sx_sr 18503 = (0, 3) from by decide +kernel] at h0
    exact h0
  have b18504 : 0 ≤ σ 18504 ∧ σ 18504 ≤ 3 := by
    have h0 := hb 18504
    rw [show sx_sr 18504 = (0, 3) from by decide +kernel] at h0
    exact h0
  have b18505 : (-1) ≤ σ 18505 ∧ σ 18505 ≤ 60 := by
    have h0 := hb 18505
    rw [show sx_sr 18505 = ((-1), 60) from by decide +kernel] at h0
    exact h0
  have b18506 : (-1) ≤ σ 18506 ∧ σ 18506 ≤ 60 := by
    have h0 := hb 18506
    rw [show sx_sr 18506 = ((-1), 60) from by decide +kernel] at h0
    exact h0
  have b18507 : (-1) ≤ σ 18507 ∧ σ 18507 ≤ 60 := by
    have h0 := hb 18507
    rw [show sx_sr 18507 = ((-1), 60) from by decide +kernel] at h0
    exact h0
  have b18508 : (-1) ≤ σ 18508 ∧ σ 18508 ≤ 60 := by
    have h0 := hb 18508
    rw [show sx_sr 18508 = ((-1), 60) from by decide +kernel] at h0
    exact h0
  obtain ⟨hs, ht, hf, hr, hm, hw⟩ := hW
  have e1 : τ 19001 = a1 := by rw [ht 19001 (by decide) (by decide)]; exact h1
  have e2 : τ 19002 = a2 := by rw [ht 19002 (by decide) (by decide)]; exact h2
  have e3 : τ 19003 = a3 := by rw [ht 19003 (by decide) (by decide)]; exact h3
  have e4 : τ 19004 = a4 := by rw [ht 19004 (by decide) (by decide)]; exact h4
  have e5 : τ 19005 = a5 := by rw [ht 19005 (by decide) (by decide)]; exact h5
  have s18501 : τ 18501 = σ 18501 := hs 18501 (by decide)
  have s18502 : τ 18502 = σ 18502 := hs 18502 (by decide)
  have s18503 : τ 18503 = σ 18503 := hs 18503 (by decide)
  have s18504 : τ 18504 = σ 18504 := hs 18504 (by decide)
  have s18505 : τ 18505 = σ 18505 := hs 18505 (by decide)
  have s18506 : τ 18506 = σ 18506 := hs 18506 (by decide)
  have s18507 : τ 18507 = σ 18507 := hs 18507 (by decide)
  have s18508 : τ 18508 = σ 18508 := hs 18508 (by decide)
  clear hs ht hb
  rw [hx] at hr
  obtain ⟨y, hy, hv⟩ := hr
  cases hy
  replace hv : x.toInt = 0 + 0 := hv
  have f0 : 0 ≤ (-1) + (1 * τ 18503 + 0) := hf _ (List.Mem.head _)
  have f1 : 0 ≤ 2 + ((-1) * τ 18504 + 0) := hf _ (List.Mem.tail _ (List.Mem.head _))
  have f2 : 0 ≤ 0 + (1 * τ 18507 + 0) := hf _ (List.Mem.tail _ (List.Mem.tail _ (List.Mem.head _)))
  have f3 : 0 ≤ 0 + (1 * τ 18508 + 0) := hf _ (List.Mem.tail _ (List.Mem.tail _ (List.Mem.tail _ (List.Mem.head _))))
  have f4 : 0 ≤ (-2) + (1 * τ 19001 + 0) := hf _ (List.Mem.tail _ (List.Mem.tail _ (List.Mem.tail _ (List.Mem.tail _ (List.Mem.head _)))))
  have f5 : 0 ≤ 2 + ((-1) * τ 19001 + 0) := hf _ (List.Mem.tail _ (List.Mem.tail _ (List.Mem.tail _ (List.Mem.tail _ (List.Mem.tail _ (List.Mem.head _))))))
  have f6 : 0 ≤ 0 + (1 * τ 19002 + 0) := hf _ (List.Mem.tail _ (List.Mem.tail _ (List.Mem.tail _ (List.Mem.tail _ (List.Mem.tail _ (List.Mem.tail _ (List.Mem.head _)))))))
  have f7 : 0 ≤ (-3) + (1 * τ 19003 + 0) := hf _ (List.Mem.tail _ (List.Mem.tail _ (List.Mem.tail _ (List.Mem.tail _ (List.Mem.tail _ (List.Mem.tail _ (List.Mem.tail _ (List.Mem.head _))))))))
  have f8 : 0 ≤ 3 + ((-1) * τ 19003 + 0) := hf _ (List.Mem.tail _ (List.Mem.tail _ (List.Mem.tail _ (List.Mem.tail _ (List.Mem.tail _ (List.Mem.tail _ (List.Mem.tail _ (List.Mem.tail _ (List.Mem.head _)))))))))
  have f9 : 0 ≤ 0 + (1 * τ 19004 + 0) := hf _ (List.Mem.tail _ (List.Mem.tail _ (List.Mem.tail _ (List.Mem.tail _ (List.Mem.tail _ (List.Mem.tail _ (List.Mem.tail _ (List.Mem.tail _ (List.Mem.tail _ (List.Mem.head _))))))))))
  have f10 : 0 ≤ 0 + (1 * τ 19005 + 0) := hf _ (List.Mem.tail _ (List.Mem.tail _ (List.Mem.tail _ (List.Mem.tail _ (List.Mem.tail _ (List.Mem.tail _ (List.Mem.tail _ (List.Mem.tail _ (List.Mem.tail _ (List.Mem.tail _ (List.Mem.head _)))))))))))
  have f11 : 0 ≤ (-1) + (1 * τ 18503 + ((-1) * τ 18504 + 0)) := hf _ (List.Mem.tail _ (List.Mem.tail _ (List.Mem.tail _ (List.Mem.tail _ (List.Mem.tail _ (List.Mem.tail _ (List.Mem.tail _ (List.Mem.tail _ (List.Mem.tail _ (List.Mem.tail _ (List.Mem.tail _ (List.Mem.head _))))))))))))
  clear hf hm
  have ej : a1 = 2 := by omega
  subst ej
  have ek : a3 = 3 := by omega
  subst ek
  simp only [lw_sel0, lw_sel1, lw_sel2, lw_sel3]
  refine Or.inr ⟨by omega, fun h => ?_⟩
  obtain ⟨z0, z1, z2, z3, z4, z5, z6, z7, z8, z9, z10, z11⟩ := h
  omega
theorem lw_pm_23 {as : List rv_A} {σ σ' : Nat → Int} {o : rv_O} {x : Int32} {a1 a2 a3 a4 a5 : Int} {τ : Nat → Int} (hx : o.1 = some (.inl x)) (h1 : lw_av as 1 = a1) (h2 : lw_av as 2 = a2) (h3 : lw_av as 3 = a3) (h4 : lw_av as 4 = a4) (h5 : lw_av as 5 = a5) (hb : ∀ s, (sx_sr s).1 ≤ σ s ∧ σ s ≤ (sx_sr s).2) (hW : lw_W ([], [((-1), [(18503, 1)]), (2, [(18504, (-1))]), (0, [(18507, 1)]), (0, [(18508, 1)]), ((-3), [(19001, 1)]), (3, [(19001, (-1))]), (0, [(19002, 1)]), ((-2), [(19003, 1)]), (2, [(19003, (-1))]), (0, [(19004, 1)]), (0, [(19005, 1)]), ((-1), [(18503, 1), (18504, (-1))])], [(12800, (8, []))], some (false, (0, []))) as σ σ' τ o) : lw_pm_C a1 a2 a3 a4 a5 x.toInt σ σ' := by
  unfold lw_pm_C
  have b18501 : 0 ≤ σ 18501 ∧ σ 18501 ≤ 3 := by
    have h0 := hb 18501
    rw [show sx_sr 18501 = (0, 3) from by decide +kernel] at h0
    exact h0
  have b18502 : 0 ≤ σ 18502 ∧ σ 18502 ≤ 3 := by
    have h0 := hb 18502
    rw [show sx_sr 18502 = (0, 3) from by decide +kernel] at h0
    exact h0
  have b18503 : 0 ≤ σ 18503 ∧ σ 18503 ≤ 3 := by
    have h0 := hb 18503
    rw [show sx_sr 18503 = (0, 3) from by decide +kernel] at h0
    exact h0
  have b18504 : 0 ≤ σ 18504 ∧ σ 18504 ≤ 3 := by
    have h0 := hb 18504
    rw [show sx_sr 18504 = (0, 3) from by decide +kernel] at h0
    exact h0
  have b18505 : (-1) ≤ σ 18505 ∧ σ 18505 ≤ 60 := by
    have h0 := hb 18505
    rw [show sx_sr 18505 = ((-1), 60) from by decide +kernel] at h0
    exact h0
  have b18506 : (-1) ≤ σ 18506 ∧ σ 18506 ≤ 60 := by
    have h0 := hb 18506
    rw [show sx_sr 18506 = ((-1), 60) from by decide +kernel] at h0
    exact h0
  have b18507 : (-1) ≤ σ 18507 ∧ σ 18507 ≤ 60 := by
    have h0 := hb 18507
    rw [show sx_sr 18507 = ((-1), 60) from by decide +kernel] at h0
    exact h0
  have b18508 : (-1) ≤ σ 18508 ∧ σ 18508 ≤ 60 := by
    have h0 := hb 18508
    rw [show sx_sr 18508 = ((-1), 60) from by decide +kernel] at h0
    exact h0
  obtain ⟨hs, ht, hf, hr, hm, hw⟩ := hW
  have e1 : τ 19001 = a1 := by rw [ht 19001 (by decide) (by decide)]; exact h1
  have e2 : τ 19002 = a2 := by rw [ht 19002 (by decide) (by decide)]; exact h2
  have e3 : τ 19003 = a3 := by rw [ht 19003 (by decide) (by decide)]; exact h3
  have e4 : τ 19004 = a4 := by rw [ht 19004 (by decide) (by decide)]; exact h4
  have e5 : τ 19005 = a5 := by rw [ht 19005 (by decide) (by decide)]; exact h5
  have s18501 : τ 18501 = σ 18501 := hs 18501 (by decide)
  have s18502 : τ 18502 = σ 18502 := hs 18502 (by decide)
  have s18503 : τ 18503 = σ 18503 := hs 18503 (by decide)
  have s18504 : τ 18504 = σ 18504 := hs 18504 (by decide)
  have s18505 : τ 18505 = σ 18505 := hs 18505 (by decide)
  have s18506 : τ 18506 = σ 18506 := hs 18506 (by decide)
  have s18507 : τ 18507 = σ 18507 := hs 18507 (by decide)
  have s18508 : τ 18508 = σ 18508 := hs 18508 (by decide)
  clear hs ht hb
  rw [hx] at hr
  obtain ⟨y, hy, hv⟩ := hr
  cases hy
  replace hv : x.toInt = 0 + 0 := hv
  have f0 : 0 ≤ (-1) + (1 * τ 18503 + 0) := hf _ (List.Mem.head _)
  have f1 : 0 ≤ 2 + ((-1) * τ 18504 + 0) := hf _ (List.Mem.tail _ (List.Mem.head _))
  have f2 : 0 ≤ 0 + (1 * τ 18507 + 0) := hf _ (List.Mem.tail _ (List.Mem.tail _ (List.Mem.head _)))
  have f3 : 0 ≤ 0 + (1 * τ 18508 + 0) := hf _ (List.Mem.tail _ (List.Mem.tail _ (List.Mem.tail _ (List.Mem.head _))))
  have f4 : 0 ≤ (-3) + (1 * τ 19001 + 0) := hf _ (List.Mem.tail _ (List.Mem.tail _ (List.Mem.tail _ (List.Mem.tail _ (List.Mem.head _)))))
  have f5 : 0 ≤ 3 + ((-1) * τ 19001 + 0) := hf _ (List.Mem.tail _ (List.Mem.tail _ (List.Mem.tail _ (List.Mem.tail _ (List.Mem.tail _ (List.Mem.head _))))))
  have f6 : 0 ≤ 0 + (1 * τ 19002 + 0) := hf _ (List.Mem.tail _ (List.Mem.tail _ (List.Mem.tail _ (List.Mem.tail _ (List.Mem.tail _ (List.Mem.tail _ (List.Mem.head _)))))))
  have f7 : 0 ≤ (-2) + (1 * τ 19003 + 0) := hf _ (List.Mem.tail _ (List.Mem.tail _ (List.Mem.tail _ (List.Mem.tail _ (List.Mem.tail _ (List.Mem.tail _ (List.Mem.tail _ (List.Mem.head _))))))))
  have f8 : 0 ≤ 2 + ((-1) * τ 19003 + 0) := hf _ (List.Mem.tail _ (List.Mem.tail _ (List.Mem.tail _ (List.Mem.tail _ (List.Mem.tail _ (List.Mem.tail _ (List.Mem.tail _ (List.Mem.tail _ (List.Mem.head _)))))))))
  have f9 : 0 ≤ 0 + (1 * τ 19004 + 0) := hf _ (List.Mem.tail _ (List.Mem.tail _ (List.Mem.tail _ (List.Mem.tail _ (List.Mem.tail _ (List.Mem.tail _ (List.Mem.tail _ (List.Mem.tail _ (List.Mem.tail _ (List.Mem.head _))))))))))
  have f10 : 0 ≤ 0 + (1 * τ 19005 + 0) := hf _ (List.Mem.tail _ (List.Mem.tail _ (List.Mem.tail _ (List.Mem.tail _ (List.Mem.tail _ (List.Mem.tail _ (List.Mem.tail _ (List.Mem.tail _ (List.Mem.tail _ (List.Mem.tail _ (List.Mem.head _)))))))))))
  have f11 : 0 ≤ (-1) + (1 * τ 18503 + ((-1) * τ 18504 + 0)) := hf _ (List.Mem.tail _ (List.Mem.tail _ (List.Mem.tail _ (List.Mem.tail _ (List.Mem.tail _ (List.Mem.tail _ (List.Mem.tail _ (List.Mem.tail _ (List.Mem.tail _ (List.Mem.tail _ (List.Mem.tail _ (List.Mem.head _))))))))))))
  clear hf hm
  have ej : a1 = 3 := by omega
  subst ej
  have ek : a3 = 2 := by omega
  subst ek
  simp only [lw_sel0, lw_sel1, lw_sel2, lw_sel3]
  refine Or.inr ⟨by omega, fun h => ?_⟩
  obtain ⟨z0, z1, z2, z3, z4, z5, z6, z7, z8, z9, z10, z11⟩ := h
  omega
theorem lw_pm_24 {as : List rv_A} {σ σ' : Nat → Int} {o : rv_O} {x : Int32} {a1 a2 a3 a4 a5 : Int} {τ : Nat → Int} (hx : o.1 = some (.inl x)) (h1 : lw_av as 1 = a1) (h2 : lw_av as 2 = a2) (h3 : lw_av as 3 = a3) (h4 : lw_av as 4 = a4) (h5 : lw_av as 5 = a5) (hb : ∀ s, (sx_sr s).1 ≤ σ s ∧ σ s ≤ (sx_sr s).2) (hW : lw_W ([], [((-1), [(18505, (-1))]), (0, [(18506, 1)]), ((-1), [(19001, 1)]), (1, [(19001, (-1))]), (0, [(19002, 1)]), (0, [(19003, 1)]), (0, [(19003, (-1))]), (0, [(19004, 1)]), (0, [(19005, 1)])], [(12800, (2, []))], some (false, (0, []))) as σ σ' τ o) : lw_pm_C a1 a2 a3 a4 a5 x.toInt σ σ' := by
  unfold lw_pm_C
  have b18501 : 0 ≤ σ 18501 ∧ σ 18501 ≤ 3 := by
    have h0 := hb 18501
    rw [show sx_sr 18501 = (0, 3) from by decide +kernel] at h0
    exact h0
  have b18502 : 0 ≤ σ 18502 ∧ σ 18502 ≤ 3 := by
    have h0 := hb 18502
    rw [show sx_sr 18502 = (0, 3) from by decide +kernel] at h0
    exact h0
  have b18503 : 0 ≤ σ 18503 ∧ σ 18503 ≤ 3 := by
    have h0 := hb 18503
    rw [show sx_sr 18503 = (0, 3) from by decide +kernel] at h0
    exact h0
  have b18504 : 0 ≤ σ 18504 ∧ σ 18504 ≤ 3 := by
    have h0 := hb 18504
    rw [show sx_sr 18504 = (0, 3) from by decide +kernel] at h0
    exact h0
  have b18505 : (-1) ≤ σ 18505 ∧ σ 18505 ≤ 60 := by
    have h0 := hb 18505
    rw [show sx_sr 18505 = ((-1), 60) from by decide +kernel] at h0
    exact h0
  have b18506 : (-1) ≤ σ 18506 ∧ σ 18506 ≤ 60 := by
    have h0 := hb 18506
    rw [show sx_sr 18506 = ((-1), 60) from by decide +kernel] at h0
    exact h0
  have b18507 : (-1) ≤ σ 18507 ∧ σ 18507 ≤ 60 := by
    have h0 := hb 18507
    rw [show sx_sr 18507 = ((-1), 60) from by decide +kernel] at h0
    exact h0
  have b18508 : (-1) ≤ σ 18508 ∧ σ 18508 ≤ 60 := by
    have h0 := hb 18508
    rw [show sx_sr 18508 = ((-1), 60) from by decide +kernel] at h0
    exact h0
  obtain ⟨hs, ht, hf, hr, hm, hw⟩ := hW
  have e1 : τ 19001 = a1 := by rw [ht 19001 (by decide) (by decide)]; exact h1
  have e2 : τ 19002 = a2 := by rw [ht 19002 (by decide) (by decide)]; exact h2
  have e3 : τ 19003 = a3 := by rw [ht 19003 (by decide) (by decide)]; exact h3
  have e4 : τ 19004 = a4 := by rw [ht 19004 (by decide) (by decide)]; exact h4
  have e5 : τ 19005 = a5 := by rw [ht 19005 (by decide) (by decide)]; exact h5
  have s18501 : τ 18501 = σ 18501 := hs 18501 (by decide)
  have s18502 : τ 18502 = σ 18502 := hs 18502 (by decide)
  have s18503 : τ 18503 = σ 18503 := hs 18503 (by decide)
  have s18504 : τ 18504 = σ 18504 := hs 18504 (by decide)
  have s18505 : τ 18505 = σ 18505 := hs 18505 (by decide)
  have s18506 : τ 18506 = σ 18506 := hs 18506 (by decide)
  have s18507 : τ 18507 = σ 18507 := hs 18507 (by decide)
  have s18508 : τ 18508 = σ 18508 := hs 18508 (by decide)
  clear hs ht hb
  rw [hx] at hr
  obtain ⟨y, hy, hv⟩ := hr
  cases hy
  replace hv : x.toInt = 0 + 0 := hv
  have f0 : 0 ≤ (-1) + ((-1) * τ 18505 + 0) := hf _ (List.Mem.head _)
  have f1 : 0 ≤ 0 + (1 * τ 18506 + 0) := hf _ (List.Mem.tail _ (List.Mem.head _))
  have f2 : 0 ≤ (-1) + (1 * τ 19001 + 0) := hf _ (List.Mem.tail _ (List.Mem.tail _ (List.Mem.head _)))
  have f3 : 0 ≤ 1 + ((-1) * τ 19001 + 0) := hf _ (List.Mem.tail _ (List.Mem.tail _ (List.Mem.tail _ (List.Mem.head _))))
  have f4 : 0 ≤ 0 + (1 * τ 19002 + 0) := hf _ (List.Mem.tail _ (List.Mem.tail _ (List.Mem.tail _ (List.Mem.tail _ (List.Mem.head _)))))
  have f5 : 0 ≤ 0 + (1 * τ 19003 + 0) := hf _ (List.Mem.tail _ (List.Mem.tail _ (List.Mem.tail _ (List.Mem.tail _ (List.Mem.tail _ (List.Mem.head _))))))
  have f6 : 0 ≤ 0 + ((-1) * τ 19003 + 0) := hf _ (List.Mem.tail _ (List.Mem.tail _ (List.Mem.tail _ (List.Mem.tail _ (List.Mem.tail _ (List.Mem.tail _ (List.Mem.head _)))))))
  have f7 : 0 ≤ 0 + (1 * τ 19004 + 0) := hf _ (List.Mem.tail _ (List.Mem.tail _ (List.Mem.tail _ (List.Mem.tail _ (List.Mem.tail _ (List.Mem.tail _ (List.Mem.tail _ (List.Mem.head _))))))))
  have f8 : 0 ≤ 0 + (1 * τ 19005 + 0) := hf _ (List.Mem.tail _ (List.Mem.tail _ (List.Mem.tail _ (List.Mem.tail _ (List.Mem.tail _ (List.Mem.tail _ (List.Mem.tail _ (List.Mem.tail _ (List.Mem.head _)))))))))
  clear hf hm
  have ej : a1 = 1 := by omega
  subst ej
  have ek : a3 = 0 := by omega
  subst ek
  simp only [lw_sel0, lw_sel1, lw_sel2, lw_sel3]
  refine Or.inr ⟨by omega, fun h => ?_⟩
  obtain ⟨z0, z1, z2, z3, z4, z5, z6, z7, z8, z9, z10, z11⟩ := h
  omega
theorem lw_pm_25 {as : List rv_A} {σ σ' : Nat → Int} {o : rv_O} {x : Int32} {a1 a2 a3 a4 a5 : Int} {τ : Nat → Int} (hx : o.1 = some (.inl x)) (h1 : lw_av as 1 = a1) (h2 : lw_av as 2 = a2) (h3 : lw_av as 3 = a3) (h4 : lw_av as 4 = a4) (h5 : lw_av as 5 = a5) (hb : ∀ s, (sx_sr s).1 ≤ σ s ∧ σ s ≤ (sx_sr s).2) (hW : lw_W ([], [((-1), [(18505, (-1))]), (0, [(18507, 1)]), ((-2), [(19001, 1)]), (2, [(19001, (-1))]), (0, [(19002, 1)]), (0, [(19003, 1)]), (0, [(19003, (-1))]), (0, [(19004, 1)]), (0, [(19005, 1)])], [(12800, (2, []))], some (false, (0, []))) as σ σ' τ o) : lw_pm_C a1 a2 a3 a4 a5 x.toInt σ σ' := by
  unfold lw_pm_C
  have b18501 : 0 ≤ σ 18501 ∧ σ 18501 ≤ 3 := by
    have h0 := hb 18501
    rw [show sx_sr 18501 = (0, 3) from by decide +kernel] at h0
    exact h0
  have b18502 : 0 ≤ σ 18502 ∧ σ 18502 ≤ 3 := by
    have h0 := hb 18502
    rw [show sx_sr 18502 = (0, 3) from by decide +kernel] at h0
    exact h0
  have b18503 : 0 ≤ σ 18503 ∧ σ 18503 ≤ 3 := by
    have h0 := hb 18503
    rw [show sx_sr 18503 = (0, 3) from by decide +kernel] at h0
    exact h0
  have b18504 : 0 ≤ σ 18504 ∧ σ 18504 ≤ 3 := by
    have h0 := hb 18504
    rw [show sx_sr 18504 = (0, 3) from by decide +kernel] at h0
    exact h0
  have b18505 : (-1) ≤ σ 18505 ∧ σ 18505 ≤ 60 := by
    have h0 := hb 18505
    rw [show sx_sr 18505 = ((-1), 60) from by decide +kernel] at h0
    exact h0
  have b18506 : (-1) ≤ σ 18506 ∧ σ 18506 ≤ 60 := by
    have h0 := hb 18506
    rw [show sx_sr 18506 = ((-1), 60) from by decide +kernel] at h0
    exact h0
  have b18507 : (-1) ≤ σ 18507 ∧ σ 18507 ≤ 60 := by
    have h0 := hb 18507
    rw [show sx_sr 18507 = ((-1), 60) from by decide +kernel] at h0
    exact h0
  have b18508 : (-1) ≤ σ 18508 ∧ σ 18508 ≤ 60 := by
    have h0 := hb 18508
    rw [show sx_sr 18508 = ((-1), 60) from by decide +kernel] at h0
    exact h0
  obtain ⟨hs, ht, hf, hr, hm, hw⟩ := hW
  have e1 : τ 19001 = a1 := by rw [ht 19001 (by decide) (by decide)]; exact h1
  have e2 : τ 19002 = a2 := by rw [ht 19002 (by decide) (by decide)]; exact h2
  have e3 : τ 19003 = a3 := by rw [ht 19003 (by decide) (by decide)]; exact h3
  have e4 : τ 19004 = a4 := by rw [ht 19004 (by decide) (by decide)]; exact h4
  have e5 : τ 19005 = a5 := by rw [ht 19005 (by decide) (by decide)]; exact h5
  have s18501 : τ 18501 = σ 18501 := hs 18501 (by decide)
  have s18502 : τ 18502 = σ 18502 := hs 18502 (by decide)
  have s18503 : τ 18503 = σ 18503 := hs 18503 (by decide)
  have s18504 : τ 18504 = σ 18504 := hs 18504 (by decide)
  have s18505 : τ 18505 = σ 18505 := hs 18505 (by decide)
  have s18506 : τ 18506 = σ 18506 := hs 18506 (by decide)
  have s18507 : τ 18507 = σ 18507 := hs 18507 (by decide)
  have s18508 : τ 18508 = σ 18508 := hs 18508 (by decide)
  clear hs ht hb
  rw [hx] at hr
  obtain ⟨y, hy, hv⟩ := hr
  cases hy
  replace hv : x.toInt = 0 + 0 := hv
  have f0 : 0 ≤ (-1) + ((-1) * τ 18505 + 0) := hf _ (List.Mem.head _)
  have f1 : 0 ≤ 0 + (1 * τ 18507 + 0) := hf _ (List.Mem.tail _ (List.Mem.head _))
  have f2 : 0 ≤ (-2) + (1 * τ 19001 + 0) := hf _ (List.Mem.tail _ (List.Mem.tail _ (List.Mem.head _)))
  have f3 : 0 ≤ 2 + ((-1) * τ 19001 + 0) := hf _ (List.Mem.tail _ (List.Mem.tail _ (List.Mem.tail _ (List.Mem.head _))))
  have f4 : 0 ≤ 0 + (1 * τ 19002 + 0) := hf _ (List.Mem.tail _ (List.Mem.tail _ (List.Mem.tail _ (List.Mem.tail _ (List.Mem.head _)))))
  have f5 : 0 ≤ 0 + (1 * τ 19003 + 0) := hf _ (List.Mem.tail _ (List.Mem.tail _ (List.Mem.tail _ (List.Mem.tail _ (List.Mem.tail _ (List.Mem.head _))))))
  have f6 : 0 ≤ 0 + ((-1) * τ 19003 + 0) := hf _ (List.Mem.tail _ (List.Mem.tail _ (List.Mem.tail _ (List.Mem.tail _ (List.Mem.tail _ (List.Mem.tail _ (List.Mem.head _)))))))
  have f7 : 0 ≤ 0 + (1 * τ 19004 + 0) := hf _ (List.Mem.tail _ (List.Mem.tail _ (List.Mem.tail _ (List.Mem.tail _ (List.Mem.tail _ (List.Mem.tail _ (List.Mem.tail _ (List.Mem.head _))))))))
  have f8 : 0 ≤ 0 + (1 * τ 19005 + 0) := hf _ (List.Mem.tail _ (List.Mem.tail _ (List.Mem.tail _ (List.Mem.tail _ (List.Mem.tail _ (List.Mem.tail _ (List.Mem.tail _ (List.Mem.tail _ (List.Mem.head _)))))))))
  clear hf hm
  have ej : a1 = 2 := by omega
  subst ej
  have ek : a3 = 0 := by omega
  subst ek
  simp only [lw_sel0, lw_sel1, lw_sel2, lw_sel3]
  refine Or.inr ⟨by omega, fun h => ?_⟩
  obtain ⟨z0, z1, z2, z3, z4, z5, z6, z7, z8, z9, z10, z11⟩ := h
  omega
theorem lw_pm_26 {as : List rv_A} {σ σ' : Nat → Int} {o : rv_O} {x : Int32} {a1 a2 a3 a4 a5 : Int} {τ : Nat → Int} (hx : o.1 = some (.inl x)) (h1 : lw_av as 1 = a1) (h2 : lw_av as 2 = a2) (h3 : lw_av as 3 = a3) (h4 : lw_av as 4 = a4) (h5 : lw_av as 5 = a5) (hb : ∀ s, (sx_sr s).1 ≤ σ s ∧ σ s ≤ (sx_sr s).2) (hW : lw_W ([], [((-1), [(18505, (-1))]), (0, [(18508, 1)]), ((-3), [(19001, 1)]), (3, [(19001, (-1))]), (0, [(19002, 1)]), (0, [(19003, 1)]), (0, [(19003, (-1))]), (0, [(19004, 1)]), (0, [(19005, 1)])], [(12800, (2, []))], some (false, (0, []))) as σ σ' τ o) : lw_pm_C a1 a2 a3 a4 a5 x.toInt σ σ' := by
  unfold lw_pm_C
  have b18501 : 0 ≤ σ 18501 ∧ σ 18501 ≤ 3 := by
    have h0 := hb 18501
    rw [show sx_sr 18501 = (0, 3) from by decide +kernel] at h0
    exact h0
  have b18502 : 0 ≤ σ 18502 ∧ σ 18502 ≤ 3 := by
    have h0 := hb 18502
    rw [show sx_sr 18502 = (0, 3) from by decide +kernel] at h0
    exact h0
  have b18503 : 0 ≤ σ 18503 ∧ σ 18503 ≤ 3 := by
    have h0 := hb 18503
    rw [show sx_sr 18503 = (0, 3) from by decide +kernel] at h0
    exact h0
  have b18504 : 0 ≤ σ 18504 ∧ σ 18504 ≤ 3 := by
    have h0 := hb 18504
    rw [show sx_sr 18504 = (0, 3) from by decide +kernel] at h0
    exact h0
  have b18505 : (-1) ≤ σ 18505 ∧ σ 18505 ≤ 60 := by
    have h0 := hb 18505
    rw [show sx_sr 18505 = ((-1), 60) from by decide +kernel] at h0
    exact h0
  have b18506 : (-1) ≤ σ 18506 ∧ σ 18506 ≤ 60 := by
    have h0 := hb 18506
    rw [show sx_sr 18506 = ((-1), 60) from by decide +kernel] at h0
    exact h0
  have b18507 : (-1) ≤ σ 18507 ∧ σ 18507 ≤ 60 := by
    have h0 := hb 18507
    rw [show sx_sr 18507 = ((-1), 60) from by decide +kernel] at h0
    exact h0
  have b18508 : (-1) ≤ σ 18508 ∧ σ 18508 ≤ 60 := by
    have h0 := hb 18508
    rw [show sx_sr 18508 = ((-1), 60) from by decide +kernel] at h0
    exact h0
  obtain ⟨hs, ht, hf, hr, hm, hw⟩ := hW
  have e1 : τ 19001 = a1 := by rw [ht 19001 (by decide) (by decide)]; exact h1
  have e2 : τ 19002 = a2 := by rw [ht 19002 (by decide) (by decide)]; exact h2
  have e3 : τ 19003 = a3 := by rw [ht 19003 (by decide) (by decide)]; exact h3
  have e4 : τ 19004 = a4 := by rw [ht 19004 (by decide) (by decide)]; exact h4
  have e5 : τ 19005 = a5 := by rw [ht 19005 (by decide) (by decide)]; exact h5
  have s18501 : τ 18501 = σ 18501 := hs 18501 (by decide)
  have s18502 : τ 18502 = σ 18502 := hs 18502 (by decide)
  have s18503 : τ 18503 = σ 18503 := hs 18503 (by decide)
  have s18504 : τ 18504 = σ 18504 := hs 18504 (by decide)
  have s18505 : τ 18505 = σ 18505 := hs 18505 (by decide)
  have s18506 : τ 18506 = σ 18506 := hs 18506 (by decide)
  have s18507 : τ 18507 = σ 18507 := hs 18507 (by decide)
  have s18508 : τ 18508 = σ 18508 := hs 18508 (by decide)
  clear hs ht hb
  rw [hx] at hr
  obtain ⟨y, hy, hv⟩ := hr
  cases hy
  replace hv : x.toInt = 0 + 0 := hv
  have f0 : 0 ≤ (-1) + ((-1) * τ 18505 + 0) := hf _ (List.Mem.head _)
  have f1 : 0 ≤ 0 + (1 * τ 18508 + 0) := hf _ (List.Mem.tail _ (List.Mem.head _))
  have f2 : 0 ≤ (-3) + (1 * τ 19001 + 0) := hf _ (List.Mem.tail _ (List.Mem.tail _ (List.Mem.head _)))
  have f3 : 0 ≤ 3 + ((-1) * τ 19001 + 0) := hf _ (List.Mem.tail _ (List.Mem.tail _ (List.Mem.tail _ (List.Mem.head _))))
  have f4 : 0 ≤ 0 + (1 * τ 19002 + 0) := hf _ (List.Mem.tail _ (List.Mem.tail _ (List.Mem.tail _ (List.Mem.tail _ (List.Mem.head _)))))
  have f5 : 0 ≤ 0 + (1 * τ 19003 + 0) := hf _ (List.Mem.tail _ (List.Mem.tail _ (List.Mem.tail _ (List.Mem.tail _ (List.Mem.tail _ (List.Mem.head _))))))
  have f6 : 0 ≤ 0 + ((-1) * τ 19003 + 0) := hf _ (List.Mem.tail _ (List.Mem.tail _ (List.Mem.tail _ (List.Mem.tail _ (List.Mem.tail _ (List.Mem.tail _ (List.Mem.head _)))))))
  have f7 : 0 ≤ 0 + (1 * τ 19004 + 0) := hf _ (List.Mem.tail _ (List.Mem.tail _ (List.Mem.tail _ (List.Mem.tail _ (List.Mem.tail _ (List.Mem.tail _ (List.Mem.tail _ (List.Mem.head _))))))))
  have f8 : 0 ≤ 0 + (1 * τ 19005 + 0) := hf _ (List.Mem.tail _ (List.Mem.tail _ (List.Mem.tail _ (List.Mem.tail _ (List.Mem.tail _ (List.Mem.tail _ (List.Mem.tail _ (List.Mem.tail _ (List.Mem.head _)))))))))
  clear hf hm
  have ej : a1 = 3 := by omega
  subst ej
  have ek : a3 = 0 := by omega
  subst ek
  simp only [lw_sel0, lw_sel1, lw_sel2, lw_sel3]
  refine Or.inr ⟨by omega, fun h => ?_⟩
  obtain ⟨z0, z1, z2, z3, z4, z5, z6, z7, z8, z9, z10, z11⟩ := h
  omega
theorem lw_pm_27 {as : List rv_A} {σ σ' : Nat → Int} {o : rv_O} {x : Int32} {a1 a2 a3 a4 a5 : Int} {τ : Nat → Int} (hx : o.1 = some (.inl x)) (h1 : lw_av as 1 = a1) (h2 : lw_av as 2 = a2) (h3 : lw_av as 3 = a3) (h4 : lw_av as 4 = a4) (h5 : lw_av as 5 = a5) (hb : ∀ s, (sx_sr s).1 ≤ σ s ∧ σ s ≤ (sx_sr s).2) (hW : lw_W ([], [((-1), [(18505, (-1))]), (0, [(19001, 1)]), (0, [(19001, (-1))]), (0, [(19002, 1)]), (0, [(19003, 1)]), (3, [(19003, (-1))]), (0, [(19004, 1)]), (0, [(19005, 1)])], [(12800, (2, []))], some (false, (0, []))) as σ σ' τ o) : lw_pm_C a1 a2 a3 a4 a5 x.toInt σ σ' := by
  unfold lw_pm_C
  have b18501 : 0 ≤ σ 18501 ∧ σ 18501 ≤ 3 := by
    have h0 := hb 18501
    rw [show sx_sr 18501 = (0, 3) from by decide +kernel] at h0
    exact h0
  have b18502 : 0 ≤ σ 18502 ∧ σ 18502 ≤ 3 := by
    have h0 := hb 18502
    rw [show sx_sr 18502 = (0, 3) from by decide +kernel] at h0
    exact h0
  have b18503 : 0 ≤ σ 18503 ∧ σ 18503 ≤ 3 := by
    have h0 := hb 18503
    rw [show sx_sr 18503 = (0, 3) from by decide +kernel] at h0
    exact h0
  have b18504 : 0 ≤ σ 18504 ∧ σ 18504 ≤ 3 := by
    have h0 := hb 18504
    rw [show sx_sr 18504 = (0, 3) from by decide +kernel] at h0
    exact h0
  have b18505 : (-1) ≤ σ 18505 ∧ σ 18505 ≤ 60 := by
    have h0 := hb 18505
    rw [show sx_sr 18505 = ((-1), 60) from by decide +kernel] at h0
    exact h0
  have b18506 : (-1) ≤ σ 18506 ∧ σ 18506 ≤ 60 := by
    have h0 := hb 18506
    rw [show sx_sr 18506 = ((-1), 60) from by decide +kernel] at h0
    exact h0
  have b18507 : (-1) ≤ σ 18507 ∧ σ 18507 ≤ 60 := by
    have h0 := hb 18507
    rw [show sx_sr 18507 = ((-1), 60) from by decide +kernel] at h0
    exact h0
  have b18508 : (-1) ≤ σ 18508 ∧ σ 18508 ≤ 60 := by
    have h0 := hb 18508
    rw [show sx_sr 18508 = ((-1), 60) from by decide +kernel] at h0
    exact h0
  obtain ⟨hs, ht, hf, hr, hm, hw⟩ := hW
  have e1 : τ 19001 = a1 := by rw [ht 19001 (by decide) (by decide)]; exact h1
  have e2 : τ 19002 = a2 := by rw [ht 19002 (by decide) (by decide)]; exact h2
  have e3 : τ 19003 = a3 := by rw [ht 19003 (by decide) (by decide)]; exact h3
  have e4 : τ 19004 = a4 := by rw [ht 19004 (by decide) (by decide)]; exact h4
  have e5 : τ 19005 = a5 := by rw [ht 19005 (by decide) (by decide)]; exact h5
  have s18501 : τ 18501 = σ 18501 := hs 18501 (by decide)
  have s18502 : τ 18502 = σ 18502 := hs 18502 (by decide)
  have s18503 : τ 18503 = σ 18503 := hs 18503 (by decide)
  have s18504 : τ 18504 = σ 18504 := hs 18504 (by decide)
  have s18505 : τ 18505 = σ 18505 := hs 18505 (by decide)
  have s18506 : τ 18506 = σ 18506 := hs 18506 (by decide)
  have s18507 : τ 18507 = σ 18507 := hs 18507 (by decide)
  have s18508 : τ 18508 = σ 18508 := hs 18508 (by decide)
  clear hs ht hb
  rw [hx] at hr
  obtain ⟨y, hy, hv⟩ := hr
  cases hy
  replace hv : x.toInt = 0 + 0 := hv
  have f0 : 0 ≤ (-1) + ((-1) * τ 18505 + 0) := hf _ (List.Mem.head _)
  have f1 : 0 ≤ 0 + (1 * τ 19001 + 0) := hf _ (List.Mem.tail _ (List.Mem.head _))
  have f2 : 0 ≤ 0 + ((-1) * τ 19001 + 0) := hf _ (List.Mem.tail _ (List.Mem.tail _ (List.Mem.head _)))
  have f3 : 0 ≤ 0 + (1 * τ 19002 + 0) := hf _ (List.Mem.tail _ (List.Mem.tail _ (List.Mem.tail _ (List.Mem.head _))))
  have f4 : 0 ≤ 0 + (1 * τ 19003 + 0) := hf _ (List.Mem.tail _ (List.Mem.tail _ (List.Mem.tail _ (List.Mem.tail _ (List.Mem.head _)))))
  have f5 : 0 ≤ 3 + ((-1) * τ 19003 + 0) := hf _ (List.Mem.tail _ (List.Mem.tail _ (List.Mem.tail _ (List.Mem.tail _ (List.Mem.tail _ (List.Mem.head _))))))
  have f6 : 0 ≤ 0 + (1 * τ 19004 + 0) := hf _ (List.Mem.tail _ (List.Mem.tail _ (List.Mem.tail _ (List.Mem.tail _ (List.Mem.tail _ (List.Mem.tail _ (List.Mem.head _)))))))
  have f7 : 0 ≤ 0 + (1 * τ 19005 + 0) := hf _ (List.Mem.tail _ (List.Mem.tail _ (List.Mem.tail _ (List.Mem.tail _ (List.Mem.tail _ (List.Mem.tail _ (List.Mem.tail _ (List.Mem.head _))))))))
  clear hf hm
  have ej : a1 = 0 := by omega
  subst ej
  simp only [lw_sel0, lw_sel1, lw_sel2, lw_sel3]
  refine Or.inr ⟨by omega, fun h => ?_⟩
  obtain ⟨z0, z1, z2, z3, z4, z5, z6, z7, z8, z9, z10, z11⟩ := h
  omega
theorem lw_pm_28 {as : List rv_A} {σ σ' : Nat → Int} {o : rv_O} {x : Int32} {a1 a2 a3 a4 a5 : Int} {τ : Nat → Int} (hx : o.1 = some (.inl x)) (h1 : lw_av as 1 = a1) (h2 : lw_av as 2 = a2) (h3 : lw_av as 3 = a3) (h4 : lw_av as 4 = a4) (h5 : lw_av as 5 = a5) (hb : ∀ s, (sx_sr s).1 ≤ σ s ∧ σ s ≤ (sx_sr s).2) (hW : lw_W ([], [(0, [(18505, 1)]), ((-1), [(18506, (-1))]), (0, [(19001, 1)]), (0, [(19001, (-1))]), (0, [(19002, 1)]), ((-1), [(19003, 1)]), (1, [(19003, (-1))]), (0, [(19004, 1)]), (0, [(19005, 1)])], [(12800, (2, []))], some (false, (0, []))) as σ σ' τ o) : lw_pm_C a1 a2 a3 a4 a5 x.toInt σ σ' := by
  unfold lw_pm_C
  have b18501 : 0 ≤ σ 18501 ∧ σ 18501 ≤ 3 := by
    have h0 := hb 18501
    rw [show sx_sr 18501 = (0, 3) from by decide +kernel] at h0
    exact h0
  have b18502 : 0 ≤ σ 18502 ∧ σ 18502 ≤ 3 := by
    have h0 := hb 18502
    rw [show sx_sr 18502 = (0, 3) from by decide +kernel] at h0
    exact h0
  have b18503 : 0 ≤ σ 18503 ∧ σ 18503 ≤ 3 := by
    have h0 := hb 18503
    rw [show sx_sr 18503 = (0, 3) from by decide +kernel] at h0
    exact h0
  have b18504 : 0 ≤ σ 18504 ∧ σ 18504 ≤ 3 := by
    have h0 := hb 18504
    rw [show sx_sr 18504 = (0, 3) from by decide +kernel] at h0
    exact h0
  have b18505 : (-1) ≤ σ 18505 ∧ σ 18505 ≤ 60 := by
    have h0 := hb 18505
    rw [show sx_sr 18505 = ((-1), 60) from by decide +kernel] at h0
    exact h0
  have b18506 : (-1) ≤ σ 18506 ∧ σ 18506 ≤ 60 := by
    have h0 := hb 18506
    rw [show sx_sr 18506 = ((-1), 60) from by decide +kernel] at h0
    exact h0
  have b18507 : (-1) ≤ σ 18507 ∧ σ 18507 ≤ 60 := by
    have h0 := hb 18507
    rw [show sx_sr 18507 = ((-1), 60) from by decide +kernel] at h0
    exact h0
  have b18508 : (-1) ≤ σ 18508 ∧ σ 18508 ≤ 60 := by
    have h0 := hb 18508
    rw [show sx_sr 18508 = ((-1), 60) from by decide +kernel] at h0
    exact h0
  obtain ⟨hs, ht, hf, hr, hm, hw⟩ := hW
  have e1 : τ 19001 = a1 := by rw [ht 19001 (by decide) (by decide)]; exact h1
  have e2 : τ 19002 = a2 := by rw [ht 19002 (by decide) (by decide)]; exact h2
  have e3 : τ 19003 = a3 := by rw [ht 19003 (by decide) (by decide)]; exact h3
  have e4 : τ 19004 = a4 := by rw [ht 19004 (by decide) (by decide)]; exact h4
  have e5 : τ 19005 = a5 := by rw [ht 19005 (by decide) (by decide)]; exact h5
  have s18501 : τ 18501 = σ 18501 := hs 18501 (by decide)
  have s18502 : τ 18502 = σ 18502 := hs 18502 (by decide)
  have s18503 : τ 18503 = σ 18503 := hs 18503 (by decide)
  have s18504 : τ 18504 = σ 18504 := hs 18504 (by decide)
  have s18505 : τ 18505 = σ 18505 := hs 18505 (by decide)
  have s18506 : τ 18506 = σ 18506 := hs 18506 (by decide)
  have s18507 : τ 18507 = σ 18507 := hs 18507 (by decide)
  have s18508 : τ 18508 = σ 18508 := hs 18508 (by decide)
  clear hs ht hb
  rw [hx] at hr
  obtain ⟨y, hy, hv⟩ := hr
  cases hy
  replace hv : x.toInt = 0 + 0 := hv
  have f0 : 0 ≤ 0 + (1 * τ 18505 + 0) := hf _ (List.Mem.head _)
  have f1 : 0 ≤ (-1) + ((-1) * τ 18506 + 0) := hf _ (List.Mem.tail _ (List.Mem.head _))
  have f2 : 0 ≤ 0 + (1 * τ 19001 + 0) := hf _ (List.Mem.tail _ (List.Mem.tail _ (List.Mem.head _)))
  have f3 : 0 ≤ 0 + ((-1) * τ 19001 + 0) := hf _ (List.Mem.tail _ (List.Mem.tail _ (List.Mem.tail _ (List.Mem.head _))))
  have f4 : 0 ≤ 0 + (1 * τ 19002 + 0) := hf _ (List.Mem.tail _ (List.Mem.tail _ (List.Mem.tail _ (List.Mem.tail _ (List.Mem.head _)))))
  have f5 : 0 ≤ (-1) + (1 * τ 19003 + 0) := hf _ (List.Mem.tail _ (List.Mem.tail _ (List.Mem.tail _ (List.Mem.tail _ (List.Mem.tail _ (List.Mem.head _))))))
  have f6 : 0 ≤ 1 + ((-1) * τ 19003 + 0) := hf _ (List.Mem.tail _ (List.Mem.tail _ (List.Mem.tail _ (List.Mem.tail _ (List.Mem.tail _ (List.Mem.tail _ (List.Mem.head _)))))))
  have f7 : 0 ≤ 0 + (1 * τ 19004 + 0) := hf _ (List.Mem.tail _ (List.Mem.tail _ (List.Mem.tail _ (List.Mem.tail _ (List.Mem.tail _ (List.Mem.tail _ (List.Mem.tail _ (List.Mem.head _))))))))
  have f8 : 0 ≤ 0 + (1 * τ 19005 + 0) := hf _ (List.Mem.tail _ (List.Mem.tail _ (List.Mem.tail _ (List.Mem.tail _ (List.Mem.tail _ (List.Mem.tail _ (List.Mem.tail _ (List.Mem.tail _ (List.Mem.head _)))))))))
  clear hf hm
  have ej : a1 = 0 := by omega
  subst ej
  have ek : a3 = 1 := by omega
  subst ek
  simp only [lw_sel0, lw_sel1, lw_sel2, lw_sel3]
  refine Or.inr ⟨by omega, fun h => ?_⟩
  obtain ⟨z0, z1, z2, z3, z4, z5, z6, z7, z8, z9, z10, z11⟩ := h
  omega
theorem lw_pm_29 {as : List rv_A} {σ σ' : Nat → Int} {o : rv_O} {x : Int32} {a1 a2 a3 a4 a5 : Int} {τ : Nat → Int} (hx : o.1 = some (.inl x)) (h1 : lw_av as 1 = a1) (h2 : lw_av as 2 = a2) (h3 : lw_av as 3 = a3) (h4 : lw_av as 4 = a4) (h5 : lw_av as 5 = a5) (hb : ∀ s, (sx_sr s).1 ≤ σ s ∧ σ s ≤ (sx_sr s).2) (hW : lw_W ([], [(0, [(18505, 1)]), (0, [(18506, 1)]), (0, [(19001, 1)]), (0, [(19001, (-1))]), (0, [(19002, 1)]), ((-1), [(19003, 1)]), (1, [(19003, (-1))]), (0, [(19004, 1)]), (0, [(19005, 1)]), ((-1), [(18505, (-1)), (19002, 1), (19005, 1)]), (0, [(18501, (-1)), (18502, 1)]), (0, [(18501, 1), (18502, (-1))])], [(12800, (3, []))], some (false, (0, []))) as σ σ' τ o) : lw_pm_C a1 a2 a3 a4 a5 x.toInt σ σ' := by
  unfold lw_pm_C
  have b18501 : 0 ≤ σ 18501 ∧ σ 18501 ≤ 3 := by
    have h0 := hb 18501
    rw [show sx_sr 18501 = (0, 3) from by decide +kernel] at h0
    exact h0
  have b18502 : 0 ≤ σ 18502 ∧ σ 18502 ≤ 3 := by
    have h0 := hb 18502
    rw [show sx_sr 18502 = (0, 3) from by decide +kernel] at h0
    exact h0
  have b18503 : 0 ≤ σ 18503 ∧ σ 18503 ≤ 3 := by
    have h0 := hb 18503
    rw [show sx_sr 18503 = (0, 3) from by decide +kernel] at h0
    exact h0
  have b18504 : 0 ≤ σ 18504 ∧ σ 18504 ≤ 3 := by
    have h0 := hb 18504
    rw [show sx_sr 18504 = (0, 3) from by decide +kernel] at h0
    exact h0
  have b18505 : (-1) ≤ σ 18505 ∧ σ 18505 ≤ 60 := by
    have h0 := hb 18505
    rw [show sx_sr 18505 = ((-1), 60) from by decide +kernel] at h0
    exact h0
  have b18506 : (-1) ≤ σ 18506 ∧ σ 18506 ≤ 60 := by
    have h0 := hb 18506
    rw [show sx_sr 18506 = ((-1), 60) from by decide +kernel] at h0
    exact h0
  have b18507 : (-1) ≤ σ 18507 ∧ σ 18507 ≤ 60 := by
    have h0 := hb 18507
    rw [show sx_sr 18507 = ((-1), 60) from by decide +kernel] at h0
    exact h0
  have b18508 : (-1) ≤ σ 18508 ∧ σ 18508 ≤ 60 := by
    have h0 := hb 18508
    rw [show sx_sr 18508 = ((-1), 60) from by decide +kernel] at h0
    exact h0
  obtain ⟨hs, ht, hf, hr, hm, hw⟩ := hW
  have e1 : τ 19001 = a1 := by rw [ht 19001 (by decide) (by decide)]; exact h1
  have e2 : τ 19002 = a2 := by rw [ht 19002 (by decide) (by decide)]; exact h2
  have e3 : τ 19003 = a3 := by rw [ht 19003 (by decide) (by decide)]; exact h3
  have e4 : τ 19004 = a4 := by rw [ht 19004 (by decide) (by decide)]; exact h4
  have e5 : τ 19005 = a5 := by rw [ht 19005 (by decide) (by decide)]; exact h5
  have s18501 : τ 18501 = σ 18501 := hs 18501 (by decide)
  have s18502 : τ 18502 = σ 18502 := hs 18502 (by decide)
  have s18503 : τ 18503 = σ 18503 := hs 18503 (by decide)
  have s18504 : τ 18504 = σ 18504 := hs 18504 (by decide)
  have s18505 : τ 18505 = σ 18505 := hs 18505 (by decide)
  have s18506 : τ 18506 = σ 18506 := hs 18506 (by decide)
  have s18507 : τ 18507 = σ 18507 := hs 18507 (by decide)
  have s18508 : τ 18508 = σ 18508 := hs 18508 (by decide)
  clear hs ht hb
  rw [hx] at hr
  obtain ⟨y, hy, hv⟩ := hr
  cases hy
  replace hv : x.toInt = 0 + 0 := hv
  have f0 : 0 ≤ 0 + (1 * τ 18505 + 0) := hf _ (List.Mem.head _)
  have f1 : 0 ≤ 0 + (1 * τ 18506 + 0) := hf _ (List.Mem.tail _ (List.Mem.head _))
  have f2 : 0 ≤ 0 + (1 * τ 19001 + 0) := hf _ (List.Mem.tail _ (List.Mem.tail _ (List.Mem.head _)))
  have f3 : 0 ≤ 0 + ((-1) * τ 19001 + 0) := hf _ (List.Mem.tail _ (List.Mem.tail _ (List.Mem.tail _ (List.Mem.head _))))
  have f4 : 0 ≤ 0 + (1 * τ 19002 + 0) := hf _ (List.Mem.tail _ (List.Mem.tail _ (List.Mem.tail _ (List.Mem.tail _ (List.Mem.head _)))))
  have f5 : 0 ≤ (-1) + (1 * τ 19003 + 0) := hf _ (List.Mem.tail _ (List.Mem.tail _ (List.Mem.tail _ (List.Mem.tail _ (List.Mem.tail _ (List.Mem.head _))))))
  have f6 : 0 ≤ 1 + ((-1) * τ 19003 + 0) := hf _ (List.Mem.tail _ (List.Mem.tail _ (List.Mem.tail _ (List.Mem.tail _ (List.Mem.tail _ (List.Mem.tail _ (List.Mem.head _)))))))
  have f7 : 0 ≤ 0 + (1 * τ 19004 + 0) := hf _ (List.Mem.tail _ (List.Mem.tail _ (List.Mem.tail _ (List.Mem.tail _ (List.Mem.tail _ (List.Mem.tail _ (List.Mem.tail _ (List.Mem.head _))))))))
  have f8 : 0 ≤ 0 + (1 * τ 19005 + 0) := hf _ (List.Mem.tail _ (List.Mem.tail _ (List.Mem.tail _ (List.Mem.tail _ (List.Mem.tail _ (List.Mem.tail _ (List.Mem.tail _ (List.Mem.tail _ (List.Mem.head _)))))))))
  have f9 : 0 ≤ (-1) + ((-1) * τ 18505 + (1 * τ 19002 + (1 * τ 19005 + 0))) := hf _ (List.Mem.tail _ (List.Mem.tail _ (List.Mem.tail _ (List.Mem.tail _ (List.Mem.tail _ (List.Mem.tail _ (List.Mem.tail _ (List.Mem.tail _ (List.Mem.tail _ (List.Mem.head _))))))))))
  have f10 : 0 ≤ 0 + ((-1) * τ 18501 + (1 * τ 18502 + 0)) := hf _ (List.Mem.tail _ (List.Mem.tail _ (List.Mem.tail _ (List.Mem.tail _ (List.Mem.tail _ (List.Mem.tail _ (List.Mem.tail _ (List.Mem.tail _ (List.Mem.tail _ (List.Mem.tail _ (List.Mem.head _)))))))))))
  have f11 : 0 ≤ 0 + (1 * τ 18501 + ((-1) * τ 18502 + 0)) := hf _ (List.Mem.tail _ (List.Mem.tail _ (List.Mem.tail _ (List.Mem.tail _ (List.Mem.tail _ (List.Mem.tail _ (List.Mem.tail _ (List.Mem.tail _ (List.Mem.tail _ (List.Mem.tail _ (List.Mem.tail _ (List.Mem.head _))))))))))))
  clear hf hm
  have ej : a1 = 0 := by omega
  subst ej
  have ek : a3 = 1 := by omega
  subst ek
  simp only [lw_sel0, lw_sel1, lw_sel2, lw_sel3]
  refine Or.inr ⟨by omega, fun h => ?_⟩
  obtain ⟨z0, z1, z2, z3, z4, z5, z6, z7, z8, z9, z10, z11⟩ := h
  omega
theorem lw_pm_30 {as : List rv_A} {σ σ' : Nat → Int} {o : rv_O} {x : Int32} {a1 a2 a3 a4 a5 : Int} {τ : Nat → Int} (hx : o.1 = some (.inl x)) (h1 : lw_av as 1 = a1) (h2 : lw_av as 2 = a2) (h3 : lw_av as 3 = a3) (h4 : lw_av as 4 = a4) (h5 : lw_av as 5 = a5) (hb : ∀ s, (sx_sr s).1 ≤ σ s ∧ σ s ≤ (sx_sr s).2) (hW : lw_W ([], [(0, [(18505, 1)]), (0, [(18506, 1)]), (0, [(19001, 1)]), (0, [(19001, (-1))]), (0, [(19002, 1)]), (60, [(19002, (-1))]), ((-1), [(19003, 1)]), (1, [(19003, (-1))]), (0, [(19004, 1)]), (0, [(19005, 1)]), (60, [(19005, (-1))]), ((-1), [(18506, (-1)), (19004, 1), (19005, 1)]), (0, [(18505, 1), (19002, (-1)), (19005, (-1))]), (0, [(18501, (-1)), (18502, 1)]), (0, [(18501, 1), (18502, (-1))])], [(12800, (3, []))], some (false, (0, []))) as σ σ' τ o) : lw_pm_C a1 a2 a3 a4 a5 x.toInt σ σ' := by
  unfold lw_pm_C
  have b18501 : 0 ≤ σ 18501 ∧ σ 18501 ≤ 3 := by
    have h0 := hb 18501
    rw [show sx_sr 18501 = (0, 3) from by decide +kernel] at h0
    exact h0
  have b18502 : 0 ≤ σ 18502 ∧ σ 18502 ≤ 3 := by
    have h0 := hb 18502
    rw [show sx_sr 18502 = (0, 3) from by decide +kernel] at h0
    exact h0
  have b18503 : 0 ≤ σ 18503 ∧ σ 18503 ≤ 3 := by
    have h0 := hb 18503
    rw [show sx_sr 18503 = (0, 3) from by decide +kernel] at h0
    exact h0
  have b18504 : 0 ≤ σ 18504 ∧ σ 18504 ≤ 3 := by
    have h0 := hb 18504
    rw [show sx_sr 18504 = (0, 3) from by decide +kernel] at h0
    exact h0
  have b18505 : (-1) ≤ σ 18505 ∧ σ 18505 ≤ 60 := by
    have h0 := hb 18505
    rw [show sx_sr 18505 = ((-1), 60) from by decide +kernel] at h0
    exact h0
  have b18506 : (-1) ≤ σ 18506 ∧ σ 18506 ≤ 60 := by
    have h0 := hb 18506
    rw [show sx_sr 18506 = ((-1), 60) from by decide +kernel] at h0
    exact h0
  have b18507 : (-1) ≤ σ 18507 ∧ σ 18507 ≤ 60 := by
    have h0 := hb 18507
    rw [show sx_sr 18507 = ((-1), 60) from by decide +kernel] at h0
    exact h0
  have b18508 : (-1) ≤ σ 18508 ∧ σ 18508 ≤ 60 := by
    have h0 := hb 18508
    rw [show sx_sr 18508 = ((-1), 60) from by decide +kernel] at h0
    exact h0
  obtain ⟨hs, ht, hf, hr, hm, hw⟩ := hW
  have e1 : τ 19001 = a1 := by rw [ht 19001 (by decide) (by decide)]; exact h1
  have e2 : τ 19002 = a2 := by rw [ht 19002 (by decide) (by decide)]; exact h2
  have e3 : τ 19003 = a3 := by rw [ht 19003 (by decide) (by decide)]; exact h3
  have e4 : τ 19004 = a4 := by rw [ht 19004 (by decide) (by decide)]; exact h4
  have e5 : τ 19005 = a5 := by rw [ht 19005 (by decide) (by decide)]; exact h5
  have s18501 : τ 18501 = σ 18501 := hs 18501 (by decide)
  have s18502 : τ 18502 = σ 18502 := hs 18502 (by decide)
  have s18503 : τ 18503 = σ 18503 := hs 18503 (by decide)
  have s18504 : τ 18504 = σ 18504 := hs 18504 (by decide)
  have s18505 : τ 18505 = σ 18505 := hs 18505 (by decide)
  have s18506 : τ 18506 = σ 18506 := hs 18506 (by decide)
  have s18507 : τ 18507 = σ 18507 := hs 18507 (by decide)
  have s18508 : τ 18508 = σ 18508 := hs 18508 (by decide)
  clear hs ht hb
  rw [hx] at hr
  obtain ⟨y, hy, hv⟩ := hr
  cases hy
  replace hv : x.toInt = 0 + 0 := hv
  have f0 : 0 ≤ 0 + (1 * τ 18505 + 0) := hf _ (List.Mem.head _)
  have f1 : 0 ≤ 0 + (1 * τ 18506 + 0) := hf _ (List.Mem.tail _ (List.Mem.head _))
  have f2 : 0 ≤ 0 + (1 * τ 19001 + 0) := hf _ (List.Mem.tail _ (List.Mem.tail _ (List.Mem.head _)))
  have f3 : 0 ≤ 0 + ((-1) * τ 19001 + 0) := hf _ (List.Mem.tail _ (List.Mem.tail _ (List.Mem.tail _ (List.Mem.head _))))
  have f4 : 0 ≤ 0 + (1 * τ 19002 + 0) := hf _ (List.Mem.tail _ (List.Mem.tail _ (List.Mem.tail _ (List.Mem.tail _ (List.Mem.head _)))))
  have f5 : 0 ≤ 60 + ((-1) * τ 19002 + 0) := hf _ (List.Mem.tail _ (List.Mem.tail _ (List.Mem.tail _ (List.Mem.tail _ (List.Mem.tail _ (List.Mem.head _))))))
  have f6 : 0 ≤ (-1) + (1 * τ 19003 + 0) := hf _ (List.Mem.tail _ (List.Mem.tail _ (List.Mem.tail _ (List.Mem.tail _ (List.Mem.tail _ (List.Mem.tail _ (List.Mem.head _)))))))
  have f7 : 0 ≤ 1 + ((-1) * τ 19003 + 0) := hf _ (List.Mem.tail _ (List.Mem.tail _ (List.Mem.tail _ (List.Mem.tail _ (List.Mem.tail _ (List.Mem.tail _ (List.Mem.tail _ (List.Mem.head _))))))))
  have f8 : 0 ≤ 0 + (1 * τ 19004 + 0) := hf _ (List.Mem.tail _ (List.Mem.tail _ (List.Mem.tail _ (List.Mem.tail _ (List.Mem.tail _ (List.Mem.tail _ (List.Mem.tail _ (List.Mem.tail _ (List.Mem.head _)))))))))
  have f9 : 0 ≤ 0 + (1 * τ 19005 + 0) := hf _ (List.Mem.tail _ (List.Mem.tail _ (List.Mem.tail _ (List.Mem.tail _ (List.Mem.tail _ (List.Mem.tail _ (List.Mem.tail _ (List.Mem.tail _ (List.Mem.tail _ (List.Mem.head _))))))))))
  have f10 : 0 ≤ 60 + ((-1) * τ 19005 + 0) := hf _ (List.Mem.tail _ (List.Mem.tail _ (List.Mem.tail _ (List.Mem.tail _ (List.Mem.tail _ (List.Mem.tail _ (List.Mem.tail _ (List.Mem.tail _ (List.Mem.tail _ (List.Mem.tail _ (List.Mem.head _)))))))))))
  have f11 : 0 ≤ (-1) + ((-1) * τ 18506 + (1 * τ 19004 + (1 * τ 19005 + 0))) := hf _ (List.Mem.tail _ (List.Mem.tail _ (List.Mem.tail _ (List.Mem.tail _ (List.Mem.tail _ (List.Mem.tail _ (List.Mem.tail _ (List.Mem.tail _ (List.Mem.tail _ (List.Mem.tail _ (List.Mem.tail _ (List.Mem.head _))))))))))))
  have f12 : 0 ≤ 0 + (1 * τ 18505 + ((-1) * τ 19002 + ((-1) * τ 19005 + 0))) := hf _ (List.Mem.tail _ (List.Mem.tail _ (List.Mem.tail _ (List.Mem.tail _ (List.Mem.tail _ (List.Mem.tail _ (List.Mem.tail _ (List.Mem.tail _ (List.Mem.tail _ (List.Mem.tail _ (List.Mem.tail _ (List.Mem.tail _ (List.Mem.head _)))))))))))))
  have f13 : 0 ≤ 0 + ((-1) * τ 18501 + (1 * τ 18502 + 0)) := hf _ (List.Mem.tail _ (List.Mem.tail _ (List.Mem.tail _ (List.Mem.tail _ (List.Mem.tail _ (List.Mem.tail _ (List.Mem.tail _ (List.Mem.tail _ (List.Mem.tail _ (List.Mem.tail _ (List.Mem.tail _ (List.Mem.tail _ (List.Mem.tail _ (List.Mem.head _))))))))))))))
  have f14 : 0 ≤ 0 + (1 * τ 18501 + ((-1) * τ 18502 + 0)) := hf _ (List.Mem.tail _ (List.Mem.tail _ (List.Mem.tail _ (List.Mem.tail _ (List.Mem.tail _ (List.Mem.tail _ (List.Mem.tail _ (List.Mem.tail _ (List.Mem.tail _ (List.Mem.tail _ (List.Mem.tail _ (List.Mem.tail _ (List.Mem.tail _ (List.Mem.tail _ (List.Mem.head _)))))))))))))))
  clear hf hm
  have ej : a1 = 0 := by omega
  subst ej
  have ek : a3 = 1 := by omega
  subst ek
  simp only [lw_sel0, lw_sel1, lw_sel2, lw_sel3]
  refine Or.inr ⟨by omega, fun h => ?_⟩
  obtain ⟨z0, z1, z2, z3, z4, z5, z6, z7, z8, z9, z10, z11⟩ := h
  omega
theorem lw_pm_31 {as : List rv_A} {σ σ' : Nat → Int} {o : rv_O} {x : Int32} {a1 a2 a3 a4 a5 : Int} {τ : Nat → Int} (hx : o.1 = some (.inl x)) (h1 : lw_av as 1 = a1) (h2 : lw_av as 2 = a2) (h3 : lw_av as 3 = a3) (h4 : lw_av as 4 = a4) (h5 : lw_av as 5 = a5) (hb : ∀ s, (sx_sr s).1 ≤ σ s ∧ σ s ≤ (sx_sr s).2) (hW : lw_W ([], [(0, [(18505, 1)]), (0, [(18506, 1)]), ((-1), [(19001, 1)]), (1, [(19001, (-1))]), (0, [(19002, 1)]), (0, [(19003, 1)]), (0, [(19003, (-1))]), (0, [(19004, 1)]), (0, [(19005, 1)]), ((-1), [(18506, (-1)), (19002, 1), (19005, 1)]), (0, [(18501, 1), (18502, (-1))]), (0, [(18501, (-1)), (18502, 1)])], [(12800, (3, []))], some (false, (0, []))) as σ σ' τ o) : lw_pm_C a1 a2 a3 a4 a5 x.toInt σ σ' := by
  unfold lw_pm_C
  have b18501 : 0 ≤ σ 18501 ∧ σ 18501 ≤ 3 := by
    have h0 := hb 18501
    rw [show sx_sr 18501 = (0, 3) from by decide +kernel] at h0
    exact h0
  have b18502 : 0 ≤ σ 18502 ∧ σ 18502 ≤ 3 := by
    have h0 := hb 18502
    rw [show sx_sr 18502 = (0, 3) from by decide +kernel] at h0
    exact h0
  have b18503 : 0 ≤ σ 18503 ∧ σ 18503 ≤ 3 := by
    have h0 := hb 18503
    rw [show sx_sr 18503 = (0, 3) from by decide +kernel] at h0
    exact h0
  have b18504 : 0 ≤ σ 18504 ∧ σ 18504 ≤ 3 := by
    have h0 := hb 18504
    rw [show sx_sr 18504 = (0, 3) from by decide +kernel] at h0
    exact h0
  have b18505 : (-1) ≤ σ 18505 ∧ σ 18505 ≤ 60 := by
    have h0 := hb 18505
    rw [show sx_sr 18505 = ((-1), 60) from by decide +kernel] at h0
    exact h0
  have b18506 : (-1) ≤ σ 18506 ∧ σ 18506 ≤ 60 := by
    have h0 := hb 18506
    rw [show sx_sr 18506 = ((-1), 60) from by decide +kernel] at h0
    exact h0
  have b18507 : (-1) ≤ σ 18507 ∧ σ 18507 ≤ 60 := by
    have h0 := hb 18507
    rw [show sx_sr 18507 = ((-1), 60) from by decide +kernel] at h0
    exact h0
  have b18508 : (-1) ≤ σ 18508 ∧ σ 18508 ≤ 60 := by
    have h0 := hb 18508
    rw [show sx_sr 18508 = ((-1), 60) from by decide +kernel] at h0
    exact h0
  obtain ⟨hs, ht, hf, hr, hm, hw⟩ := hW
  have e1 : τ 19001 = a1 := by rw [ht 19001 (by decide) (by decide)]; exact h1
  have e2 : τ 19002 = a2 := by rw [ht 19002 (by decide) (by decide)]; exact h2
  have e3 : τ 19003 = a3 := by rw [ht 19003 (by decide) (by decide)]; exact h3
  have e4 : τ 19004 = a4 := by rw [ht 19004 (by decide) (by decide)]; exact h4
  have e5 : τ 19005 = a5 := by rw [ht 19005 (by decide) (by decide)]; exact h5
  have s18501 : τ 18501 = σ 18501 := hs 18501 (by decide)
  have s18502 : τ 18502 = σ 18502 := hs 18502 (by decide)
  have s18503 : τ 18503 = σ 18503 := hs 18503 (by decide)
  have s18504 : τ 18504 = σ 18504 := hs 18504 (by decide)
  have s18505 : τ 18505 = σ 18505 := hs 18505 (by decide)
  have s18506 : τ 18506 = σ 18506 := hs 18506 (by decide)
  have s18507 : τ 18507 = σ 18507 := hs 18507 (by decide)
  have s18508 : τ 18508 = σ 18508 := hs 18508 (by decide)
  clear hs ht hb
  rw [hx] at hr
  obtain ⟨y, hy, hv⟩ := hr
  cases hy
  replace hv : x.toInt = 0 + 0 := hv
  have f0 : 0 ≤ 0 + (1 * τ 18505 + 0) := hf _ (List.Mem.head _)
  have f1 : 0 ≤ 0 + (1 * τ 18506 + 0) := hf _ (List.Mem.tail _ (List.Mem.head _))
  have f2 : 0 ≤ (-1) + (1 * τ 19001 + 0) := hf _ (List.Mem.tail _ (List.Mem.tail _ (List.Mem.head _)))
  have f3 : 0 ≤ 1 + ((-1) * τ 19001 + 0) := hf _ (List.Mem.tail _ (List.Mem.tail _ (List.Mem.tail _ (List.Mem.head _))))
  have f4 : 0 ≤ 0 + (1 * τ 19002 + 0) := hf _ (List.Mem.tail _ (List.Mem.tail _ (List.Mem.tail _ (List.Mem.tail _ (List.Mem.head _)))))
  have f5 : 0 ≤ 0 + (1 * τ 19003 + 0) := hf _ (List.Mem.tail _ (List.Mem.tail _ (List.Mem.tail _ (List.Mem.tail _ (List.Mem.tail _ (List.Mem.head _))))))
  have f6 : 0 ≤ 0 + ((-1) * τ 19003 + 0) := hf _ (List.Mem.tail _ (List.Mem.tail _ (List.Mem.tail _ (List.Mem.tail _ (List.Mem.tail _ (List.Mem.tail _ (List.Mem.head _)))))))
  have f7 : 0 ≤ 0 + (1 * τ 19004 + 0) := hf _ (List.Mem.tail _ (List.Mem.tail _ (List.Mem.tail _ (List.Mem.tail _ (List.Mem.tail _ (List.Mem.tail _ (List.Mem.tail _ (List.Mem.head _))))))))
  have f8 : 0 ≤ 0 + (1 * τ 19005 + 0) := hf _ (List.Mem.tail _ (List.Mem.tail _ (List.Mem.tail _ (List.Mem.tail _ (List.Mem.tail _ (List.Mem.tail _ (List.Mem.tail _ (List.Mem.tail _ (List.Mem.head _)))))))))
  have f9 : 0 ≤ (-1) + ((-1) * τ 18506 + (1 * τ 19002 + (1 * τ 19005 + 0))) := hf _ (List.Mem.tail _ (List.Mem.tail _ (List.Mem.tail _ (List.Mem.tail _ (List.Mem.tail _ (List.Mem.tail _ (List.Mem.tail _ (List.Mem.tail _ (List.Mem.tail _ (List.Mem.head _))))))))))
  have f10 : 0 ≤ 0 + (1 * τ 18501 + ((-1) * τ 18502 + 0)) := hf _ (List.Mem.tail _ (List.Mem.tail _ (List.Mem.tail _ (List.Mem.tail _ (List.Mem.tail _ (List.Mem.tail _ (List.Mem.tail _ (List.Mem.tail _ (List.Mem.tail _ (List.Mem.tail _ (List.Mem.head _)))))))))))
  have f11 : 0 ≤ 0 + ((-1) * τ 18501 + (1 * τ 18502 + 0)) := hf _ (List.Mem.tail _ (List.Mem.tail _ (List.Mem.tail _ (List.Mem.tail _ (List.Mem.tail _ (List.Mem.tail _ (List.Mem.tail _ (List.Mem.tail _ (List.Mem.tail _ (List.Mem.tail _ (List.Mem.tail _ (List.Mem.head _))))))))))))
  clear hf hm
  have ej : a1 = 1 := by omega
  subst ej
  have ek : a3 = 0 := by omega
  subst ek
  simp only [lw_sel0, lw_sel1, lw_sel2, lw_sel3]
  refine Or.inr ⟨by omega, fun h => ?_⟩
  obtain ⟨z0, z1, z2, z3, z4, z5, z6, z7, z8, z9, z10, z11⟩ := h
  omega
theorem lw_pm_32 {as : List rv_A} {σ σ' : Nat → Int} {o : rv_O} {x : Int32} {a1 a2 a3 a4 a5 : Int} {τ : Nat → Int} (hx : o.1 = some (.inl x)) (h1 : lw_av as 1 = a1) (h2 : lw_av as 2 = a2) (h3 : lw_av as 3 = a3) (h4 : lw_av as 4 = a4) (h5 : lw_av as 5 = a5) (hb : ∀ s, (sx_sr s).1 ≤ σ s ∧ σ s ≤ (sx_sr s).2) (hW : lw_W ([], [(0, [(18505, 1)]), (0, [(18506, 1)]), ((-1), [(19001, 1)]), (1, [(19001, (-1))]), (0, [(19002, 1)]), (60, [(19002, (-1))]), (0, [(19003, 1)]), (0, [(19003, (-1))]), (0, [(19004, 1)]), (0, [(19005, 1)]), (60, [(19005, (-1))]), ((-1), [(18505, (-1)), (19004, 1), (19005, 1)]), (0, [(18506, 1), (19002, (-1)), (19005, (-1))]), (0, [(18501, 1), (18502, (-1))]), (0, [(18501, (-1)), (18502, 1)])], [(12800, (3, []))], some (false, (0, []))) as σ σ' τ o) : lw_pm_C a1 a2 a3 a4 a5 x.toInt σ σ' := by
  unfold lw_pm_C
  have b18501 : 0 ≤ σ 18501 ∧ σ 18501 ≤ 3 := by
    have h0 := hb 18501
    rw [show sx_sr 18501 = (0, 3) from by decide +kernel] at h0
    exact h0
  have b18502 : 0 ≤ σ 18502 ∧ σ 18502 ≤ 3 := by
    have h0 := hb 18502
    rw [show sx_sr 18502 = (0, 3) from by decide +kernel] at h0
    exact h0
  have b18503 : 0 ≤ σ 18503 ∧ σ 18503 ≤ 3 := by
    have h0 := hb 18503
    rw [show sx_sr 18503 = (0, 3) from by decide +kernel] at h0
    exact h0
  have b18504 : 0 ≤ σ 18504 ∧ σ 18504 ≤ 3 := by
    have h0 := hb 18504
    rw [show sx_sr 18504 = (0, 3) from by decide +kernel] at h0
    exact h0
  have b18505 : (-1) ≤ σ 18505 ∧ σ 18505 ≤ 60 := by
    have h0 := hb 18505
    rw [show sx_sr 18505 = ((-1), 60) from by decide +kernel] at h0
    exact h0
  have b18506 : (-1) ≤ σ 18506 ∧ σ 18506 ≤ 60 := by
    have h0 := hb 18506
    rw [show sx_sr 18506 = ((-1), 60) from by decide +kernel] at h0
    exact h0
  have b18507 : (-1) ≤ σ 18507 ∧ σ 18507 ≤ 60 := by
    have h0 := hb 18507
    rw [show sx_sr 18507 = ((-1), 60) from by decide +kernel] at h0
    exact h0
  have b18508 : (-1) ≤ σ 18508 ∧ σ 18508 ≤ 60 := by
    have h0 := hb 18508
    rw [show sx_sr 18508 = ((-1), 60) from by decide +kernel] at h0
    exact h0
  obtain ⟨hs, ht, hf, hr, hm, hw⟩ := hW
  have e1 : τ 19001 = a1 := by rw [ht 19001 (by decide) (by decide)]; exact h1
  have e2 : τ 19002 = a2 := by rw [ht 19002 (by decide) (by decide)]; exact h2
  have e3 : τ 19003 = a3 := by rw [ht 19003 (by decide) (by decide)]; exact h3
  have e4 : τ 19004 = a4 := by rw [ht 19004 (by decide) (by decide)]; exact h4
  have e5 : τ 19005 = a5 := by rw [ht 19005 (by decide) (by decide)]; exact h5
  have s18501 : τ 18501 = σ 18501 := hs 18501 (by decide)
  have s18502 : τ 18502 = σ 18502 := hs 18502 (by decide)
  have s18503 : τ 18503 = σ 18503 := hs 18503 (by decide)
  have s18504 : τ 18504 = σ 18504 := hs 18504 (by decide)
  have s18505 : τ 18505 = σ 18505 := hs 18505 (by decide)
  have s18506 : τ 18506 = σ 18506 := hs 18506 (by decide)
  have s18507 : τ 18507 = σ 18507 := hs 18507 (by decide)
  have s18508 : τ 18508 = σ 18508 := hs 18508 (by decide)
  clear hs ht hb
  rw [hx] at hr
  obtain ⟨y, hy, hv⟩ := hr
  cases hy
  replace hv : x.toInt = 0 + 0 := hv
  have f0 : 0 ≤ 0 + (1 * τ 18505 + 0) := hf _ (List.Mem.head _)
  have f1 : 0 ≤ 0 + (1 * τ 18506 + 0) := hf _ (List.Mem.tail _ (List.Mem.head _))
  have f2 : 0 ≤ (-1) + (1 * τ 19001 + 0) := hf _ (List.Mem.tail _ (List.Mem.tail _ (List.Mem.head _)))
  have f3 : 0 ≤ 1 + ((-1) * τ 19001 + 0) := hf _ (List.Mem.tail _ (List.Mem.tail _ (List.Mem.tail _ (List.Mem.head _))))
  have f4 : 0 ≤ 0 + (1 * τ 19002 + 0) := hf _ (List.Mem.tail _ (List.Mem.tail _ (List.Mem.tail _ (List.Mem.tail _ (List.Mem.head _)))))
  have f5 : 0 ≤ 60 + ((-1) * τ 19002 + 0) := hf _ (List.Mem.tail _ (List.Mem.tail _ (List.Mem.tail _ (List.Mem.tail _ (List.Mem.tail _ (List.Mem.head _))))))
  have f6 : 0 ≤ 0 + (1 * τ 19003 + 0) := hf _ (List.Mem.tail _ (List.Mem.tail _ (List.Mem.tail _ (List.Mem.tail _ (List.Mem.tail _ (List.Mem.tail _ (List.Mem.head _)))))))
  have f7 : 0 ≤ 0 + ((-1) * τ 19003 + 0) := hf _ (List.Mem.tail _ (List.Mem.tail _ (List.Mem.tail _ (List.Mem.tail _ (List.Mem.tail _ (List.Mem.tail _ (List.Mem.tail _ (List.Mem.head _))))))))
  have f8 : 0 ≤ 0 + (1 * τ 19004 + 0) := hf _ (List.Mem.tail _ (List.Mem.tail _ (List.Mem.tail _ (List.Mem.tail _ (List.Mem.tail _ (List.Mem.tail _ (List.Mem.tail _ (List.Mem.tail _ (List.Mem.head _)))))))))
  have f9 : 0 ≤ 0 + (1 * τ 19005 + 0) := hf _ (List.Mem.tail _ (List.Mem.tail _ (List.Mem.tail _ (List.Mem.tail _ (List.Mem.tail _ (List.Mem.tail _ (List.Mem.tail _ (List.Mem.tail _ (List.Mem.tail _ (List.Mem.head _))))))))))
  have f10 : 0 ≤ 60 + ((-1) * τ 19005 + 0) := hf _ (List.Mem.tail _ (List.Mem.tail _ (List.Mem.tail _ (List.Mem.tail _ (List.Mem.tail _ (List.Mem.tail _ (List.Mem.tail _ (List.Mem.tail _ (List.Mem.tail _ (List.Mem.tail _ (List.Mem.head _)))))))))))
  have f11 : 0 ≤ (-1) + ((-1) * τ 18505 + (1 * τ 19004 + (1 * τ 19005 + 0))) := hf _ (List.Mem.tail _ (List.Mem.tail _ (List.Mem.tail _ (List.Mem.tail _ (List.Mem.tail _ (List.Mem.tail _ (List.Mem.tail _ (List.Mem.tail _ (List.Mem.tail _ (List.Mem.tail _ (List.Mem.tail _ (List.Mem.head _))))))))))))
  have f12 : 0 ≤ 0 + (1 * τ 18506 + ((-1) * τ 19002 + ((-1) * τ 19005 + 0))) := hf _ (List.Mem.tail _ (List.Mem.tail _ (List.Mem.tail _ (List.Mem.tail _ (List.Mem.tail _ (List.Mem.tail _ (List.Mem.tail _ (List.Mem.tail _ (List.Mem.tail _ (List.Mem.tail _ (List.Mem.tail _ (List.Mem.tail _ (List.Mem.head _)))))))))))))
  have f13 : 0 ≤ 0 + (1 * τ 18501 + ((-1) * τ 18502 + 0)) := hf _ (List.Mem.tail _ (List.Mem.tail _ (List.Mem.tail _ (List.Mem.tail _ (List.Mem.tail _ (List.Mem.tail _ (List.Mem.tail _ (List.Mem.tail _ (List.Mem.tail _ (List.Mem.tail _ (List.Mem.tail _ (List.Mem.tail _ (List.Mem.tail _ (List.Mem.head _))))))))))))))
  have f14 : 0 ≤ 0 + ((-1) * τ 18501 + (1 * τ 18502 + 0)) := hf _ (List.Mem.tail _ (List.Mem.tail _ (List.Mem.tail _ (List.Mem.tail _ (List.Mem.tail _ (List.Mem.tail _ (List.Mem.tail _ (List.Mem.tail _ (List.Mem.tail _ (List.Mem.tail _ (List.Mem.tail _ (List.Mem.tail _ (List.Mem.tail _ (List.Mem.tail _ (List.Mem.head _)))))))))))))))
  clear hf hm
  have ej : a1 = 1 := by omega
  subst ej
  have ek : a3 = 0 := by omega
  subst ek
  simp only [lw_sel0, lw_sel1, lw_sel2, lw_sel3]
  refine Or.inr ⟨by omega, fun h => ?_⟩
  obtain ⟨z0, z1, z2, z3, z4, z5, z6, z7, z8, z9, z10, z11⟩ := h
  omega
theorem lw_pm_33 {as : List rv_A} {σ σ' : Nat → Int} {o : rv_O} {x : Int32} {a1 a2 a3 a4 a5 : Int} {τ : Nat → Int} (hx : o.1 = some (.inl x)) (h1 : lw_av as 1 = a1) (h2 : lw_av as 2 = a2) (h3 : lw_av as 3 = a3) (h4 : lw_av as 4 = a4) (h5 : lw_av as 5 = a5) (hb : ∀ s, (sx_sr s).1 ≤ σ s ∧ σ s ≤ (sx_sr s).2) (hW : lw_W ([], [(0, [(18505, 1)]), ((-1), [(18507, (-1))]), (0, [(19001, 1)]), (0, [(19001, (-1))]), (0, [(19002, 1)]), ((-2), [(19003, 1)]), (2, [(19003, (-1))]), (0, [(19004, 1)]), (0, [(19005, 1)])], [(12800, (2, []))], some (false, (0, []))) as σ σ' τ o) : lw_pm_C a1 a2 a3 a4 a5 x.toInt σ σ' := by
  unfold lw_pm_C
  have b18501 : 0 ≤ σ 18501 ∧ σ 18501 ≤ 3 := by
    have h0 := hb 18501
    rw [show sx_sr 18501 = (0, 3) from by decide +kernel] at h0
    exact h0
  have b18502 : 0 ≤ σ 18502 ∧ σ 18502 ≤ 3 := by
    have h0 := hb 18502
    rw [show sx_sr 18502 = (0, 3) from by decide +kernel] at h0
    exact h0
  have b18503 : 0 ≤ σ 18503 ∧ σ 18503 ≤ 3 := by
    have h0 := hb 18503
    rw [show sx_sr 18503 = (0, 3) from by decide +kernel] at h0
    exact h0
  have b18504 : 0 ≤ σ 18504 ∧ σ 18504 ≤ 3 := by
    have h0 := hb 18504
    rw [show sx_sr 18504 = (0, 3) from by decide +kernel] at h0
    exact h0
  have b18505 : (-1) ≤ σ 18505 ∧ σ 18505 ≤ 60 := by
    have h0 := hb 18505
    rw [show sx_sr 18505 = ((-1), 60) from by decide +kernel] at h0
    exact h0
  have b18506 : (-1) ≤ σ 18506 ∧ σ 18506 ≤ 60 := by
    have h0 := hb 18506
    rw [show sx_sr 18506 = ((-1), 60) from by decide +kernel] at h0
    exact h0
  have b18507 : (-1) ≤ σ 18507 ∧ σ 18507 ≤ 60 := by
    have h0 := hb 18507
    rw [show sx_sr 18507 = ((-1), 60) from by decide +kernel] at h0
    exact h0
  have b18508 : (-1) ≤ σ 18508 ∧ σ 18508 ≤ 60 := by
    have h0 := hb 18508
    rw [show sx_sr 18508 = ((-1), 60) from by decide +kernel] at h0
    exact h0
  obtain ⟨hs, ht, hf, hr, hm, hw⟩ := hW
  have e1 : τ 19001 = a1 := by rw [ht 19001 (by decide) (by decide)]; exact h1
  have e2 : τ 19002 = a2 := by rw [ht 19002 (by decide) (by decide)]; exact h2
  have e3 : τ 19003 = a3 := by rw [ht 19003 (by decide) (by decide)]; exact h3
  have e4 : τ 19004 = a4 := by rw [ht 19004 (by decide) (by decide)]; exact h4
  have e5 : τ 19005 = a5 := by rw [ht 19005 (by decide) (by decide)]; exact h5
  have s18501 : τ 18501 = σ 18501 := hs 18501 (by decide)
  have s18502 : τ 18502 = σ 18502 := hs 18502 (by decide)
  have s18503 : τ 18503 = σ 18503 := hs 18503 (by decide)
  have s18504 : τ 18504 = σ 18504 := hs 18504 (by decide)
  have s18505 : τ 18505 = σ 18505 := hs 18505 (by decide)
  have s18506 : τ 18506 = σ 18506 := hs 18506 (by decide)
  have s18507 : τ 18507 = σ 18507 := hs 18507 (by decide)
  have s18508 : τ 18508 = σ 18508 := hs 18508 (by decide)
  clear hs ht hb
  rw [hx] at hr
  obtain ⟨y, hy, hv⟩ := hr
  cases hy
  replace hv : x.toInt = 0 + 0 := hv
  have f0 : 0 ≤ 0 + (1 * τ 18505 + 0) := hf _ (List.Mem.head _)
  have f1 : 0 ≤ (-1) + ((-1) * τ 18507 + 0) := hf _ (List.Mem.tail _ (List.Mem.head _))
  have f2 : 0 ≤ 0 + (1 * τ 19001 + 0) := hf _ (List.Mem.tail _ (List.Mem.tail _ (List.Mem.head _)))
  have f3 : 0 ≤ 0 + ((-1) * τ 19001 + 0) := hf _ (List.Mem.tail _ (List.Mem.tail _ (List.Mem.tail _ (List.Mem.head _))))
  have f4 : 0 ≤ 0 + (1 * τ 19002 + 0) := hf _ (List.Mem.tail _ (List.Mem.tail _ (List.Mem.tail _ (List.Mem.tail _ (List.Mem.head _)))))
  have f5 : 0 ≤ (-2) + (1 * τ 19003 + 0) := hf _ (List.Mem.tail _ (List.Mem.tail _ (List.Mem.tail _ (List.Mem.tail _ (List.Mem.tail _ (List.Mem.head _))))))
  have f6 : 0 ≤ 2 + ((-1) * τ 19003 + 0) := hf _ (List.Mem.tail _ (List.Mem.tail _ (List.Mem.tail _ (List.Mem.tail _ (List.Mem.tail _ (List.Mem.tail _ (List.Mem.head _)))))))
  have f7 : 0 ≤ 0 + (1 * τ 19004 + 0) := hf _ (List.Mem.tail _ (List.Mem.tail _ (List.Mem.tail _ (List.Mem.tail _ (List.Mem.tail _ (List.Mem.tail _ (List.Mem.tail _ (List.Mem.head _))))))))
  have f8 : 0 ≤ 0 + (1 * τ 19005 + 0) := hf _ (List.Mem.tail _ (List.Mem.tail _ (List.Mem.tail _ (List.Mem.tail _ (List.Mem.tail _ (List.Mem.tail _ (List.Mem.tail _ (List.Mem.tail _ (List.Mem.head _)))))))))
  clear hf hm
  have ej : a1 = 0 := by omega
  subst ej
  have ek : a3 = 2 := by omega
  subst ek
  simp only [lw_sel0, lw_sel1, lw_sel2, lw_sel3]
  refine Or.inr ⟨by omega, fun h => ?_⟩
  obtain ⟨z0, z1, z2, z3, z4, z5, z6, z7, z8, z9, z10, z11⟩ := h
  omega
theorem lw_pm_34 {as : List rv_A} {σ σ' : Nat → Int} {o : rv_O} {x : Int32} {a1 a2 a3 a4 a5 : Int} {τ : Nat → Int} (hx : o.1 = some (.inl x)) (h1 : lw_av as 1 = a1) (h2 : lw_av as 2 = a2) (h3 : lw_av as 3 = a3) (h4 : lw_av as 4 = a4) (h5 : lw_av as 5 = a5) (hb : ∀ s, (sx_sr s).1 ≤ σ s ∧ σ s ≤ (sx_sr s).2) (hW : lw_W ([], [(0, [(18505, 1)]), (0, [(18507, 1)]), (0, [(19001, 1)]), (0, [(19001, (-1))]), (0, [(19002, 1)]), ((-2), [(19003, 1)]), (2, [(19003, (-1))]), (0, [(19004, 1)]), (0, [(19005, 1)]), ((-1), [(18505, (-1)), (19002, 1), (19005, 1)]), (0, [(18501, (-1)), (18503, 1)]), (0, [(18501, 1), (18503, (-1))])], [(12800, (3, []))], some (false, (0, []))) as σ σ' τ o) : lw_pm_C a1 a2 a3 a4 a5 x.toInt σ σ' := by
  unfold lw_pm_C
  have b18501 : 0 ≤ σ 18501 ∧ σ 18501 ≤ 3 := by
    have h0 := hb 18501
    rw [show sx_sr 18501 = (0, 3) from by decide +kernel] at h0
    exact h0
  have b18502 : 0 ≤ σ 18502 ∧ σ 18502 ≤ 3 := by
    have h0 := hb 18502
    rw [show sx_sr 18502 = (0, 3) from by decide +kernel] at h0
    exact h0
  have b18503 : 0 ≤ σ 18503 ∧ σ 18503 ≤ 3 := by
    have h0 := hb 18503
    rw [show sx_sr 18503 = (0, 3) from by decide +kernel] at h0
    exact h0
  have b18504 : 0 ≤ σ 18504 ∧ σ 18504 ≤ 3 := by
    have h0 := hb 18504
    rw [show sx_sr 18504 = (0, 3) from by decide +kernel] at h0
    exact h0
  have b18505 : (-1) ≤ σ 18505 ∧ σ 18505 ≤ 60 := by
    have h0 := hb 18505
    rw [show sx_sr 18505 = ((-1), 60) from by decide +kernel] at h0
    exact h0
  have b18506 : (-1) ≤ σ 18506 ∧ σ 18506 ≤ 60 := by
    have h0 := hb 18506
    rw [show sx_sr 18506 = ((-1), 60) from by decide +kernel] at h0
    exact h0
  have b18507 : (-1) ≤ σ 18507 ∧ σ 18507 ≤ 60 := by
    have h0 := hb 18507
    rw [show sx_sr 18507 = ((-1), 60) from by decide +kernel] at h0
    exact h0
  have b18508 : (-1) ≤ σ 18508 ∧ σ 18508 ≤ 60 := by
    have h0 := hb 18508
    rw [show sx_sr 18508 = ((-1), 60) from by decide +kernel] at h0
    exact h0
  obtain ⟨hs, ht, hf, hr, hm, hw⟩ := hW
  have e1 : τ 19001 = a1 := by rw [ht 19001 (by decide) (by decide)]; exact h1
  have e2 : τ 19002 = a2 := by rw [ht 19002 (by decide) (by decide)]; exact h2
  have e3 : τ 19003 = a3 := by rw [ht 19003 (by decide) (by decide)]; exact h3
  have e4 : τ 19004 = a4 := by rw [ht 19004 (by decide) (by decide)]; exact h4
  have e5 : τ 19005 = a5 := by rw [ht 19005 (by decide) (by decide)]; exact h5
  have s18501 : τ 18501 = σ 18501 := hs 18501 (by decide)
  have s18502 : τ 18502 = σ 18502 := hs 18502 (by decide)
  have s18503 : τ 18503 = σ 18503 := hs 18503 (by decide)
  have s18504 : τ 18504 = σ 18504 := hs 18504 (by decide)
  have s18505 : τ 18505 = σ 18505 := hs 18505 (by decide)
  have s18506 : τ 18506 = σ 18506 := hs 18506 (by decide)
  have s18507 : τ 18507 = σ 18507 := hs 18507 (by decide)
  have s18508 : τ 18508 = σ 18508 := hs 18508 (by decide)
  clear hs ht hb
  rw [hx] at hr
  obtain ⟨y, hy, hv⟩ := hr
  cases hy
  replace hv : x.toInt = 0 + 0 := hv
  have f0 : 0 ≤ 0 + (1 * τ 18505 + 0) := hf _ (List.Mem.head _)
  have f1 : 0 ≤ 0 + (1 * τ 18507 + 0) := hf _ (List.Mem.tail _ (List.Mem.head _))
  have f2 : 0 ≤ 0 + (1 * τ 19001 + 0) := hf _ (List.Mem.tail _ (List.Mem.tail _ (List.Mem.head _)))
  have f3 : 0 ≤ 0 + ((-1) * τ 19001 + 0) := hf _ (List.Mem.tail _ (List.Mem.tail _ (List.Mem.tail _ (List.Mem.head _))))
  have f4 : 0 ≤ 0 + (1 * τ 19002 + 0) := hf _ (List.Mem.tail _ (List.Mem.tail _ (List.Mem.tail _ (List.Mem.tail _ (List.Mem.head _)))))
  have f5 : 0 ≤ (-2) + (1 * τ 19003 + 0) := hf _ (List.Mem.tail _ (List.Mem.tail _ (List.Mem.tail _ (List.Mem.tail _ (List.Mem.tail _ (List.Mem.head _))))))
  have f6 : 0 ≤ 2 + ((-1) * τ 19003 + 0) := hf _ (List.Mem.tail _ (List.Mem.tail _ (List.Mem.tail _ (List.Mem.tail _ (List.Mem.tail _ (List.Mem.tail _ (List.Mem.head _)))))))
  have f7 : 0 ≤ 0 + (1 * τ 19004 + 0) := hf _ (List.Mem.tail _ (List.Mem.tail _ (List.Mem.tail _ (List.Mem.tail _ (List.Mem.tail _ (List.Mem.tail _ (List.Mem.tail _ (List.Mem.head _))))))))
  have f8 : 0 ≤ 0 + (1 * τ 19005 + 0) := hf _ (List.Mem.tail _ (List.Mem.tail _ (List.Mem.tail _ (List.Mem.tail _ (List.Mem.tail _ (List.Mem.tail _ (List.Mem.tail _ (List.Mem.tail _ (List.Mem.head _)))))))))
  have f9 : 0 ≤ (-1) + ((-1) * τ 18505 + (1 * τ 19002 + (1 * τ 19005 + 0))) := hf _ (List.Mem.tail _ (List.Mem.tail _ (List.Mem.tail _ (List.Mem.tail _ (List.Mem.tail _ (List.Mem.tail _ (List.Mem.tail _ (List.Mem.tail _ (List.Mem.tail _ (List.Mem.head _))))))))))
  have f10 : 0 ≤ 0 + ((-1) * τ 18501 + (1 * τ 18503 + 0)) := hf _ (List.Mem.tail _ (List.Mem.tail _ (List.Mem.tail _ (List.Mem.tail _ (List.Mem.tail _ (List.Mem.tail _ (List.Mem.tail _ (List.Mem.tail _ (List.Mem.tail _ (List.Mem.tail _ (List.Mem.head _)))))))))))
  have f11 : 0 ≤ 0 + (1 * τ 18501 + ((-1) * τ 18503 + 0)) := hf _ (List.Mem.tail _ (List.Mem.tail _ (List.Mem.tail _ (List.Mem.tail _ (List.Mem.tail _ (List.Mem.tail _ (List.Mem.tail _ (List.Mem.tail _ (List.Mem.tail _ (List.Mem.tail _ (List.Mem.tail _ (List.Mem.head _))))))))))))
  clear hf hm
  have ej : a1 = 0 := by omega
  subst ej
  have ek : a3 = 2 := by omega
  subst ek
  simp only [lw_sel0, lw_sel1, lw_sel2, lw_sel3]
  refine Or.inr ⟨by omega, fun h => ?_⟩
  obtain ⟨z0, z1, z2, z3, z4, z5, z6, z7, z8, z9, z10, z11⟩ := h
  omega
theorem lw_pm_35 {as : List rv_A} {σ σ' : Nat → Int} {o : rv_O} {x : Int32} {a1 a2 a3 a4 a5 : Int} {τ : Nat → Int} (hx : o.1 = some (.inl x)) (h1 : lw_av as 1 = a1) (h2 : lw_av as 2 = a2) (h3 : lw_av as 3 = a3) (h4 : lw_av as 4 = a4) (h5 : lw_av as 5 = a5) (hb : ∀ s, (sx_sr s).1 ≤ σ s ∧ σ s ≤ (sx_sr s).2) (hW : lw_W ([], [(0, [(18505, 1)]), (0, [(18507, 1)]), (0, [(19001, 1)]), (0, [(19001, (-1))]), (0, [(19002, 1)]), (60, [(19002, (-1))]), ((-2), [(19003, 1)]), (2, [(19003, (-1))]), (0, [(19004, 1)]), (0, [(19005, 1)]), (60, [(19005, (-1))]), ((-1), [(18507, (-1)), (19004, 1), (19005, 1)]), (0, [(18505, 1), (19002, (-1)), (19005, (-1))]), (0, [(18501, (-1)), (18503, 1)]), (0, [(18501, 1), (18503, (-1))])], [(12800, (3, []))], some (false, (0, []))) as σ σ' τ o) : lw_pm_C a1 a2 a3 a4 a5 x.toInt σ σ' := by
  unfold lw_pm_C
  have b18501 : 0 ≤ σ 18501 ∧ σ 18501 ≤ 3 := by
    have h0 := hb 18501
    rw [show sx_sr 18501 = (0, 3) from by decide +kernel] at h0
    exact h0
  have b18502 : 0 ≤ σ 18502 ∧ σ 18502 ≤ 3 := by
    have h0 := hb 18502
    rw [show sx_sr 18502 = (0, 3) from by decide +kernel] at h0
    exact h0
  have b18503 : 0 ≤ σ 18503 ∧ σ 18503 ≤ 3 := by
    have h0 := hb 18503
    rw [show sx_sr 18503 = (0, 3) from by decide +kernel] at h0
    exact h0
  have b18504 : 0 ≤ σ 18504 ∧ σ 18504 ≤ 3 := by
    have h0 := hb 18504
    rw [show sx_sr 18504 = (0, 3) from by decide +kernel] at h0
    exact h0
  have b18505 : (-1) ≤ σ 18505 ∧ σ 18505 ≤ 60 := by
    have h0 := hb 18505
    rw [show sx_sr 18505 = ((-1), 60) from by decide +kernel] at h0
    exact h0
  have b18506 : (-1) ≤ σ 18506 ∧ σ 18506 ≤ 60 := by
    have h0 := hb 18506
    rw [show sx_sr 18506 = ((-1), 60) from by decide +kernel] at h0
    exact h0
  have b18507 : (-1) ≤ σ 18507 ∧ σ 18507 ≤ 60 := by
    have h0 := hb 18507
    rw [show sx_sr 18507 = ((-1), 60) from by decide +kernel] at h0
    exact h0
  have b18508 : (-1) ≤ σ 18508 ∧ σ 18508 ≤ 60 := by
    have h0 := hb 18508
    rw [show sx_sr 18508 = ((-1), 60) from by decide +kernel] at h0
    exact h0
  obtain ⟨hs, ht, hf, hr, hm, hw⟩ := hW
  have e1 : τ 19001 = a1 := by rw [ht 19001 (by decide) (by decide)]; exact h1
  have e2 : τ 19002 = a2 := by rw [ht 19002 (by decide) (by decide)]; exact h2
  have e3 : τ 19003 = a3 := by rw [ht 19003 (by decide) (by decide)]; exact h3
  have e4 : τ 19004 = a4 := by rw [ht 19004 (by decide) (by decide)]; exact h4
  have e5 : τ 19005 = a5 := by rw [ht 19005 (by decide) (by decide)]; exact h5
  have s18501 : τ 18501 = σ 18501 := hs 18501 (by decide)
  have s18502 : τ 18502 = σ 18502 := hs 18502 (by decide)
  have s18503 : τ 18503 = σ 18503 := hs 18503 (by decide)
  have s18504 : τ 18504 = σ 18504 := hs 18504 (by decide)
  have s18505 : τ 18505 = σ 18505 := hs 18505 (by decide)
  have s18506 : τ 18506 = σ 18506 := hs 18506 (by decide)
  have s18507 : τ 18507 = σ 18507 := hs 18507 (by decide)
  have s18508 : τ 18508 = σ 18508 := hs 18508 (by decide)
  clear hs ht hb
  rw [hx] at hr
  obtain ⟨y, hy, hv⟩ := hr
  cases hy
  replace hv : x.toInt = 0 + 0 := hv
  have f0 : 0 ≤ 0 + (1 * τ 18505 + 0) := hf _ (List.Mem.head _)
  have f1 : 0 ≤ 0 + (1 * τ 18507 + 0) := hf _ (List.Mem.tail _ (List.Mem.head _))
  have f2 : 0 ≤ 0 + (1 * τ 19001 + 0) := hf _ (List.Mem.tail _ (List.Mem.tail _ (List.Mem.head _)))
  have f3 : 0 ≤ 0 + ((-1) * τ 19001 + 0) := hf _ (List.Mem.tail _ (List.Mem.tail _ (List.Mem.tail _ (List.Mem.head _))))
  have f4 : 0 ≤ 0 + (1 * τ 19002 + 0) := hf _ (List.Mem.tail _ (List.Mem.tail _ (List.Mem.tail _ (List.Mem.tail _ (List.Mem.head _)))))
  have f5 : 0 ≤ 60 + ((-1) * τ 19002 + 0) := hf _ (List.Mem.tail _ (List.Mem.tail _ (List.Mem.tail _ (List.Mem.tail _ (List.Mem.tail _ (List.Mem.head _))))))
  have f6 : 0 ≤ (-2) + (1 * τ 19003 + 0) := hf _ (List.Mem.tail _ (List.Mem.tail _ (List.Mem.tail _ (List.Mem.tail _ (List.Mem.tail _ (List.Mem.tail _ (List.Mem.head _)))))))
  have f7 : 0 ≤ 2 + ((-1) * τ 19003 + 0) := hf _ (List.Mem.tail _ (List.Mem.tail _ (List.Mem.tail _ (List.Mem.tail _ (List.Mem.tail _ (List.Mem.tail _ (List.Mem.tail _ (List.Mem.head _))))))))
  have f8 : 0 ≤ 0 + (1 * τ 19004 + 0) := hf _ (List.Mem.tail _ (List.Mem.tail _ (List.Mem.tail _ (List.Mem.tail _ (List.Mem.tail _ (List.Mem.tail _ (List.Mem.tail _ (List.Mem.tail _ (List.Mem.head _)))))))))
  have f9 : 0 ≤ 0 + (1 * τ 19005 + 0) := hf _ (List.Mem.tail _ (List.Mem.tail _ (List.Mem.tail _ (List.Mem.tail _ (List.Mem.tail _ (List.Mem.tail _ (List.Mem.tail _ (List.Mem.tail _ (List.Mem.tail _ (List.Mem.head _))))))))))
  have f10 : 0 ≤ 60 + ((-1) * τ 19005 + 0) := hf _ (List.Mem.tail _ (List.Mem.tail _ (List.Mem.tail _ (List.Mem.tail _ (List.Mem.tail _ (List.Mem.tail _ (List.Mem.tail _ (List.Mem.tail _ (List.Mem.tail _ (List.Mem.tail _ (List.Mem.head _)))))))))))
  have f11 : 0 ≤ (-1) + ((-1) * τ 18507 + (1 * τ 19004 + (1 * τ 19005 + 0))) := hf _ (List.Mem.tail _ (List.Mem.tail _ (List.Mem.tail _ (List.Mem.tail _ (List.Mem.tail _ (List.Mem.tail _ (List.Mem.tail _ (List.Mem.tail _ (List.Mem.tail _ (List.Mem.tail _ (List.Mem.tail _ (List.Mem.head _))))))))))))
  have f12 : 0 ≤ 0 + (1 * τ 18505 + ((-1) * τ 19002 + ((-1) * τ 19005 + 0))) := hf _ (List.Mem.tail _ (List.Mem.tail _ (List.Mem.tail _ (List.Mem.tail _ (List.Mem.tail _ (List.Mem.tail _ (List.Mem.tail _ (List.Mem.tail _ (List.Mem.tail _ (List.Mem.tail _ (List.Mem.tail _ (List.Mem.tail _ (List.Mem.head _)))))))))))))
  have f13 : 0 ≤ 0 + ((-1) * τ 18501 + (1 * τ 18503 + 0)) := hf _ (List.Mem.tail _ (List.Mem.tail _ (List.Mem.tail _ (List.Mem.tail _ (List.Mem.tail _ (List.Mem.tail _ (List.Mem.tail _ (List.Mem.tail _ (List.Mem.tail _ (List.Mem.tail _ (List.Mem.tail _ (List.Mem.tail _ (List.Mem.tail _ (List.Mem.head _))))))))))))))
  have f14 : 0 ≤ 0 + (1 * τ 18501 + ((-1) * τ 18503 + 0)) := hf _ (List.Mem.tail _ (List.Mem.tail _ (List.Mem.tail _ (List.Mem.tail _ (List.Mem.tail _ (List.Mem.tail _ (List.Mem.tail _ (List.Mem.tail _ (List.Mem.tail _ (List.Mem.tail _ (List.Mem.tail _ (List.Mem.tail _ (List.Mem.tail _ (List.Mem.tail _ (List.Mem.head _)))))))))))))))
  clear hf hm
  have ej : a1 = 0 := by omega
  subst ej
  have ek : a3 = 2 := by omega
  subst ek
  simp only [lw_sel0, lw_sel1, lw_sel2, lw_sel3]
  refine Or.inr ⟨by omega, fun h => ?_⟩
  obtain ⟨z0, z1, z2, z3, z4, z5, z6, z7, z8, z9, z10, z11⟩ := h
  omega
theorem lw_pm_36 {as : List rv_A} {σ σ' : Nat → Int} {o : rv_O} {x : Int32} {a1 a2 a3 a4 a5 : Int} {τ : Nat → Int} (hx : o.1 = some (.inl x)) (h1 : lw_av as 1 = a1) (h2 : lw_av as 2 = a2) (h3 : lw_av as 3 = a3) (h4 : lw_av as 4 = a4) (h5 : lw_av as 5 = a5) (hb : ∀ s, (sx_sr s).1 ≤ σ s ∧ σ s ≤ (sx_sr s).2) (hW : lw_W ([], [(0, [(18505, 1)]), (0, [(18507, 1)]), ((-2), [(19001, 1)]), (2, [(19001, (-1))]), (0, [(19002, 1)]), (0, [(19003, 1)]), (0, [(19003, (-1))]), (0, [(19004, 1)]), (0, [(19005, 1)]), ((-1), [(18507, (-1)), (19002, 1), (19005, 1)]), (0, [(18501, 1), (18503, (-1))]), (0, [(18501, (-1)), (18503, 1)])], [(12800, (3, []))], some (false, (0, []))) as σ σ' τ o) : lw_pm_C a1 a2 a3 a4 a5 x.toInt σ σ' := by
  unfold lw_pm_C
  have b18501 : 0 ≤ σ 18501 ∧ σ 18501 ≤ 3 := by
    have h0 := hb 18501
    rw [show sx_sr 18501 = (0, 3) from by decide +kernel] at h0
    exact h0
  have b18502 : 0 ≤ σ 18502 ∧ σ 18502 ≤ 3 := by
    have h0 := hb 18502
    rw [show sx_sr 18502 = (0, 3) from by decide +kernel] at h0
    exact h0
  have b18503 : 0 ≤ σ 18503 ∧ σ 18503 ≤ 3 := by
    have h0 := hb 18503
    rw [show sx_sr 18503 = (0, 3) from by decide +kernel] at h0
    exact h0
  have b18504 : 0 ≤ σ 18504 ∧ σ 18504 ≤ 3 := by
    have h0 := hb 18504
    rw [show sx_sr 18504 = (0, 3) from by decide +kernel] at h0
    exact h0
  have b18505 : (-1) ≤ σ 18505 ∧ σ 18505 ≤ 60 := by
    have h0 := hb 18505
    rw [show sx_sr 18505 = ((-1), 60) from by decide +kernel] at h0
    exact h0
  have b18506 : (-1) ≤ σ 18506 ∧ σ 18506 ≤ 60 := by
    have h0 := hb 18506
    rw [show sx_sr 18506 = ((-1), 60) from by decide +kernel] at h0
    exact h0
  have b18507 : (-1) ≤ σ 18507 ∧ σ 18507 ≤ 60 := by
    have h0 := hb 18507
    rw [show sx_sr 18507 = ((-1), 60) from by decide +kernel] at h0
    exact h0
  have b18508 : (-1) ≤ σ 18508 ∧ σ 18508 ≤ 60 := by
    have h0 := hb 18508
    rw [show sx_sr 18508 = ((-1), 60) from by decide +kernel] at h0
    exact h0
  obtain ⟨hs, ht, hf, hr, hm, hw⟩ := hW
  have e1 : τ 19001 = a1 := by rw [ht 19001 (by decide) (by decide)]; exact h1
  have e2 : τ 19002 = a2 := by rw [ht 19002 (by decide) (by decide)]; exact h2
  have e3 : τ 19003 = a3 := by rw [ht 19003 (by decide) (by decide)]; exact h3
  have e4 : τ 19004 = a4 := by rw [ht 19004 (by decide) (by decide)]; exact h4
  have e5 : τ 19005 = a5 := by rw [ht 19005 (by decide) (by decide)]; exact h5
  have s18501 : τ 18501 = σ 18501 := hs 18501 (by decide)
  have s18502 : τ 18502 = σ 18502 := hs 18502 (by decide)
  have s18503 : τ 18503 = σ 18503 := hs 18503 (by decide)
  have s18504 : τ 18504 = σ 18504 := hs 18504 (by decide)
  have s18505 : τ 18505 = σ 18505 := hs 18505 (by decide)
  have s18506 : τ 18506 = σ 18506 := hs 18506 (by decide)
  have s18507 : τ 18507 = σ 18507 := hs 18507 (by decide)
  have s18508 : τ 18508 = σ 18508 := hs 18508 (by decide)
  clear hs ht hb
  rw [hx] at hr
  obtain ⟨y, hy, hv⟩ := hr
  cases hy
  replace hv : x.toInt = 0 + 0 := hv
  have f0 : 0 ≤ 0 + (1 * τ 18505 + 0) := hf _ (List.Mem.head _)
  have f1 : 0 ≤ 0 + (1 * τ 18507 + 0) := hf _ (List.Mem.tail _ (List.Mem.head _))
  have f2 : 0 ≤ (-2) + (1 * τ 19001 + 0) := hf _ (List.Mem.tail _ (List.Mem.tail _ (List.Mem.head _)))
  have f3 : 0 ≤ 2 + ((-1) * τ 19001 + 0) := hf _ (List.Mem.tail _ (List.Mem.tail _ (List.Mem.tail _ (List.Mem.head _))))
  have f4 : 0 ≤ 0 + (1 * τ 19002 + 0) := hf _ (List.Mem.tail _ (List.Mem.tail _ (List.Mem.tail _ (List.Mem.tail _ (List.Mem.head _)))))
  have f5 : 0 ≤ 0 + (1 * τ 19003 + 0) := hf _ (List.Mem.tail _ (List.Mem.tail _ (List.Mem.tail _ (List.Mem.tail _ (List.Mem.tail _ (List.Mem.head _))))))
  have f6 : 0 ≤ 0 + ((-1) * τ 19003 + 0) := hf _ (List.Mem.tail _ (List.Mem.tail _ (List.Mem.tail _ (List.Mem.tail _ (List.Mem.tail _ (List.Mem.tail _ (List.Mem.head _)))))))
  have f7 : 0 ≤ 0 + (1 * τ 19004 + 0) := hf _ (List.Mem.tail _ (List.Mem.tail _ (List.Mem.tail _ (List.Mem.tail _ (List.Mem.tail _ (List.Mem.tail _ (List.Mem.tail _ (List.Mem.head _))))))))
  have f8 : 0 ≤ 0 + (1 * τ 19005 + 0) := hf _ (List.Mem.tail _ (List.Mem.tail _ (List.Mem.tail _ (List.Mem.tail _ (List.Mem.tail _ (List.Mem.tail _ (List.Mem.tail _ (List.Mem.tail _ (List.Mem.head _)))))))))
  have f9 : 0 ≤ (-1) + ((-1) * τ 18507 + (1 * τ 19002 + (1 * τ 19005 + 0))) := hf _ (List.Mem.tail _ (List.Mem.tail _ (List.Mem.tail _ (List.Mem.tail _ (List.Mem.tail _ (List.Mem.tail _ (List.Mem.tail _ (List.Mem.tail _ (List.Mem.tail _ (List.Mem.head _))))))))))
  have f10 : 0 ≤ 0 + (1 * τ 18501 + ((-1) * τ 18503 + 0)) := hf _ (List.Mem.tail _ (List.Mem.tail _ (List.Mem.tail _ (List.Mem.tail _ (List.Mem.tail _ (List.Mem.tail _ (List.Mem.tail _ (List.Mem.tail _ (List.Mem.tail _ (List.Mem.tail _ (List.Mem.head _)))))))))))
  have f11 : 0 ≤ 0 + ((-1) * τ 18501 + (1 * τ 18503 + 0)) := hf _ (List.Mem.tail _ (List.Mem.tail _ (List.Mem.tail _ (List.Mem.tail _ (List.Mem.tail _ (List.Mem.tail _ (List.Mem.tail _ (List.Mem.tail _ (List.Mem.tail _ (List.Mem.tail _ (List.Mem.tail _ (List.Mem.head _))))))))))))
  clear hf hm
  have ej : a1 = 2 := by omega
  subst ej
  have ek : a3 = 0 := by omega
  subst ek
  simp only [lw_sel0, lw_sel1, lw_sel2, lw_sel3]
  refine Or.inr ⟨by omega, fun h => ?_⟩
  obtain ⟨z0, z1, z2, z3, z4, z5, z6, z7, z8, z9, z10, z11⟩ := h
  omega
theorem lw_pm_37 {as : List rv_A} {σ σ' : Nat → Int} {o : rv_O} {x : Int32} {a1 a2 a3 a4 a5 : Int} {τ : Nat → Int} (hx : o.1 = some (.inl x)) (h1 : lw_av as 1 = a1) (h2 : lw_av as 2 = a2) (h3 : lw_av as 3 = a3) (h4 : lw_av as 4 = a4) (h5 : lw_av as 5 = a5) (hb : ∀ s, (sx_sr s).1 ≤ σ s ∧ σ s ≤ (sx_sr s).2) (hW : lw_W ([], [(0, [(18505, 1)]), (0, [(18507, 1)]), ((-2), [(19001, 1)]), (2, [(19001, (-1))]), (0, [(19002, 1)]), (60, [(19002, (-1))]), (0, [(19003, 1)]), (0, [(19003, (-1))]), (0, [(19004, 1)]), (0, [(19005, 1)]), (60, [(19005, (-1))]), ((-1), [(18505, (-1)), (19004, 1), (19005, 1)]), (0, [(18507, 1), (19002, (-1)), (19005, (-1))]), (0, [(18501, 1), (18503, (-1))]), (0, [(18501, (-1)), (18503, 1)])], [(12800, (3, []))], some (false, (0, []))) as σ σ' τ o) : lw_pm_C a1 a2 a3 a4 a5 x.toInt σ σ' := by
  unfold lw_pm_C
  have b18501 : 0 ≤ σ 18501 ∧ σ 18501 ≤ 3 := by
    have h0 := hb 18501
    rw [show sx_sr 18501 = (0, 3) from by decide +kernel] at h0
    exact h0
  have b18502 : 0 ≤ σ 18502 ∧ σ 18502 ≤ 3 := by
    have h0 := hb 18502
    rw [show sx_sr 18502 = (0, 3) from by decide +kernel] at h0
    exact h0
  have b18503 : 0 ≤ σ 18503 ∧ σ 18503 ≤ 3 := by
    have h0 := hb 18503
    rw [show sx_sr 18503 = (0, 3) from by decide +kernel] at h0
    exact h0
  have b18504 : 0 ≤ σ 18504 ∧ σ 18504 ≤ 3 := by
    have h0 := hb 18504
    rw [show sx_sr 18504 = (0, 3) from by decide +kernel] at h0
    exact h0
  have b18505 : (-1) ≤ σ 18505 ∧ σ 18505 ≤ 60 := by
    have h0 := hb 18505
    rw [show sx_sr 18505 = ((-1), 60) from by decide +kernel] at h0
    exact h0
  have b18506 : (-1) ≤ σ 18506 ∧ σ 18506 ≤ 60 := by
    have h0 := hb 18506
    rw [show sx_sr 18506 = ((-1), 60) from by decide +kernel] at h0
    exact h0
  have b18507 : (-1) ≤ σ 18507 ∧ σ 18507 ≤ 60 := by
    have h0 := hb 18507
    rw [show sx_sr 18507 = ((-1), 60) from by decide +kernel] at h0
    exact h0
  have b18508 : (-1) ≤ σ 18508 ∧ σ 18508 ≤ 60 := by
    have h0 := hb 18508
    rw [show sx_sr 18508 = ((-1), 60) from by decide +kernel] at h0
    exact h0
  obtain ⟨hs, ht, hf, hr, hm, hw⟩ := hW
  have e1 : τ 19001 = a1 := by rw [ht 19001 (by decide) (by decide)]; exact h1
  have e2 : τ 19002 = a2 := by rw [ht 19002 (by decide) (by decide)]; exact h2
  have e3 : τ 19003 = a3 := by rw [ht 19003 (by decide) (by decide)]; exact h3
  have e4 : τ 19004 = a4 := by rw [ht 19004 (by decide) (by decide)]; exact h4
  have e5 : τ 19005 = a5 := by rw [ht 19005 (by decide) (by decide)]; exact h5
  have s18501 : τ 18501 = σ 18501 := hs 18501 (by decide)
  have s18502 : τ 18502 = σ 18502 := hs 18502 (by decide)
  have s18503 : τ 18503 = σ 18503 := hs 18503 (by decide)
  have s18504 : τ 18504 = σ 18504 := hs 18504 (by decide)
  have s18505 : τ 18505 = σ 18505 := hs 18505 (by decide)
  have s18506 : τ 18506 = σ 18506 := hs 18506 (by decide)
  have s18507 : τ 18507 = σ 18507 := hs 18507 (by decide)
  have s18508 : τ 18508 = σ 18508 := hs 18508 (by decide)
  clear hs ht hb
  rw [hx] at hr
  obtain ⟨y, hy, hv⟩ := hr
  cases hy
  replace hv : x.toInt = 0 + 0 := hv
  have f0 : 0 ≤ 0 + (1 * τ 18505 + 0) := hf _ (List.Mem.head _)
  have f1 : 0 ≤ 0 + (1 * τ 18507 + 0) := hf _ (List.Mem.tail _ (List.Mem.head _))
  have f2 : 0 ≤ (-2) + (1 * τ 19001 + 0) := hf _ (List.Mem.tail _ (List.Mem.tail _ (List.Mem.head _)))
  have f3 : 0 ≤ 2 + ((-1) * τ 19001 + 0) := hf _ (List.Mem.tail _ (List.Mem.tail _ (List.Mem.tail _ (List.Mem.head _))))
  have f4 : 0 ≤ 0 + (1 * τ 19002 + 0) := hf _ (List.Mem.tail _ (List.Mem.tail _ (List.Mem.tail _ (List.Mem.tail _ (List.Mem.head _)))))
  have f5 : 0 ≤ 60 + ((-1) * τ 19002 + 0) := hf _ (List.Mem.tail _ (List.Mem.tail _ (List.Mem.tail _ (List.Mem.tail _ (List.Mem.tail _ (List.Mem.head _))))))
  have f6 : 0 ≤ 0 + (1 * τ 19003 + 0) := hf _ (List.Mem.tail _ (List.Mem.tail _ (List.Mem.tail _ (List.Mem.tail _ (List.Mem.tail _ (List.Mem.tail _ (List.Mem.head _)))))))
  have f7 : 0 ≤ 0 + ((-1) * τ 19003 + 0) := hf _ (List.Mem.tail _ (List.Mem.tail _ (List.Mem.tail _ (List.Mem.tail _ (List.Mem.tail _ (List.Mem.tail _ (List.Mem.tail _ (List.Mem.head _))))))))
  have f8 : 0 ≤ 0 + (1 * τ 19004 + 0) := hf _ (List.Mem.tail _ (List.Mem.tail _ (List.Mem.tail _ (List.Mem.tail _ (List.Mem.tail _ (List.Mem.tail _ (List.Mem.tail _ (List.Mem.tail _ (List.Mem.head _)))))))))
  have f9 : 0 ≤ 0 + (1 * τ 19005 + 0) := hf _ (List.Mem.tail _ (List.Mem.tail _ (List.Mem.tail _ (List.Mem.tail _ (List.Mem.tail _ (List.Mem.tail _ (List.Mem.tail _ (List.Mem.tail _ (List.Mem.tail _ (List.Mem.head _))))))))))
  have f10 : 0 ≤ 60 + ((-1) * τ 19005 + 0) := hf _ (List.Mem.tail _ (List.Mem.tail _ (List.Mem.tail _ (List.Mem.tail _ (List.Mem.tail _ (List.Mem.tail _ (List.Mem.tail _ (List.Mem.tail _ (List.Mem.tail _ (List.Mem.tail _ (List.Mem.head _)))))))))))
  have f11 : 0 ≤ (-1) + ((-1) * τ 18505 + (1 * τ 19004 + (1 * τ 19005 + 0))) := hf _ (List.Mem.tail _ (List.Mem.tail _ (List.Mem.tail _ (List.Mem.tail _ (List.Mem.tail _ (List.Mem.tail _ (List.Mem.tail _ (List.Mem.tail _ (List.Mem.tail _ (List.Mem.tail _ (List.Mem.tail _ (List.Mem.head _))))))))))))
  have f12 : 0 ≤ 0 + (1 * τ 18507 + ((-1) * τ 19002 + ((-1) * τ 19005 + 0))) := hf _ (List.Mem.tail _ (List.Mem.tail _ (List.Mem.tail _ (List.Mem.tail _ (List.Mem.tail _ (List.Mem.tail _ (List.Mem.tail _ (List.Mem.tail _ (List.Mem.tail _ (List.Mem.tail _ (List.Mem.tail _ (List.Mem.tail _ (List.Mem.head _)))))))))))))
  have f13 : 0 ≤ 0 + (1 * τ 18501 + ((-1) * τ 18503 + 0)) := hf _ (List.Mem.tail _ (List.Mem.tail _ (List.Mem.tail _ (List.Mem.tail _ (List.Mem.tail _ (List.Mem.tail _ (List.Mem.tail _ (List.Mem.tail _ (List.Mem.tail _ (List.Mem.tail _ (List.Mem.tail _ (List.Mem.tail _ (List.Mem.tail _ (List.Mem.head _))))))))))))))
  have f14 : 0 ≤ 0 + ((-1) * τ 18501 + (1 * τ 18503 + 0)) := hf _ (List.Mem.tail _ (List.Mem.tail _ (List.Mem.tail _ (List.Mem.tail _ (List.Mem.tail _ (List.Mem.tail _ (List.Mem.tail _ (List.Mem.tail _ (List.Mem.tail _ (List.Mem.tail _ (List.Mem.tail _ (List.Mem.tail _ (List.Mem.tail _ (List.Mem.tail _ (List.Mem.head _)))))))))))))))
  clear hf hm
  have ej : a1 = 2 := by omega
  subst ej
  have ek : a3 = 0 := by omega
  subst ek
  simp only [lw_sel0, lw_sel1, lw_sel2, lw_sel3]
  refine Or.inr ⟨by omega, fun h => ?_⟩
  obtain ⟨z0, z1, z2, z3, z4, z5, z6, z7, z8, z9, z10, z11⟩ := h
  omega
theorem lw_pm_38 {as : List rv_A} {σ σ' : Nat → Int} {o : rv_O} {x : Int32} {a1 a2 a3 a4 a5 : Int} {τ : Nat → Int} (hx : o.1 = some (.inl x)) (h1 : lw_av as 1 = a1) (h2 : lw_av as 2 = a2) (h3 : lw_av as 3 = a3) (h4 : lw_av as 4 = a4) (h5 : lw_av as 5 = a5) (hb : ∀ s, (sx_sr s).1 ≤ σ s ∧ σ s ≤ (sx_sr s).2) (hW : lw_W ([], [(0, [(18505, 1)]), ((-1), [(18508, (-1))]), (0, [(19001, 1)]), (0, [(19001, (-1))]), (0, [(19002, 1)]), ((-3), [(19003, 1)]), (3, [(19003, (-1))]), (0, [(19004, 1)]), (0, [(19005, 1)])], [(12800, (2, []))], some (false, (0, []))) as σ σ' τ o) : lw_pm_C a1 a2 a3 a4 a5 x.toInt σ σ' := by
  unfold lw_pm_C
  have b18501 : 0 ≤ σ 18501 ∧ σ 18501 ≤ 3 := by
    have h0 := hb 18501
    rw [show sx_sr 18501 = (0, 3) from by decide +kernel] at h0
    exact h0
  have b18502 : 0 ≤ σ 18502 ∧ σ 18502 ≤ 3 := by
    have h0 := hb 18502
    rw [show sx_sr 18502 = (0, 3) from by decide +kernel] at h0
    exact h0
  have b18503 : 0 ≤ σ 18503 ∧ σ 18503 ≤ 3 := by
    have h0 := hb 18503
    rw [show sx_sr 18503 = (0, 3) from by decide +kernel] at h0
    exact h0
  have b18504 : 0 ≤ σ 18504 ∧ σ 18504 ≤ 3 := by
    have h0 := hb 18504
    rw [show sx_sr 18504 = (0, 3) from by decide +kernel] at h0
    exact h0
  have b18505 : (-1) ≤ σ 18505 ∧ σ 18505 ≤ 60 := by
    have h0 := hb 18505
    rw [show sx_sr 18505 = ((-1), 60) from by decide +kernel] at h0
    exact h0
  have b18506 : (-1) ≤ σ 18506 ∧ σ 18506 ≤ 60 := by
    have h0 := hb 18506
    rw [show sx_sr 18506 = ((-1), 60) from by decide +kernel] at h0
    exact h0
  have b18507 : (-1) ≤ σ 18507 ∧ σ 18507 ≤ 60 := by
    have h0 := hb 18507
    rw [show sx_sr 18507 = ((-1), 60) from by decide +kernel] at h0
    exact h0
  have b18508 : (-1) ≤ σ 18508 ∧ σ 18508 ≤ 60 := by
    have h0 := hb 18508
    rw [show sx_sr 18508 = ((-1), 60) from by decide +kernel] at h0
    exact h0
  obtain ⟨hs, ht, hf, hr, hm, hw⟩ := hW
  have e1 : τ 19001 = a1 := by rw [ht 19001 (by decide) (by decide)]; exact h1
  have e2 : τ 19002 = a2 := by rw [ht 19002 (by decide) (by decide)]; exact h2
  have e3 : τ 19003 = a3 := by rw [ht 19003 (by decide) (by decide)]; exact h3
  have e4 : τ 19004 = a4 := by rw [ht 19004 (by decide) (by decide)]; exact h4
  have e5 : τ 19005 = a5 := by rw [ht 19005 (by decide) (by decide)]; exact h5
  have s18501 : τ 18501 = σ 18501 := hs 18501 (by decide)
  have s18502 : τ 18502 = σ 18502 := hs 18502 (by decide)
  have s18503 : τ 18503 = σ 18503 := hs 18503 (by decide)
  have s18504 : τ 18504 = σ 18504 := hs 18504 (by decide)
  have s18505 : τ 18505 = σ 18505 := hs 18505 (by decide)
  have s18506 : τ 18506 = σ 18506 := hs 18506 (by decide)
  have s18507 : τ 18507 = σ 18507 := hs 18507 (by decide)
  have s18508 : τ 18508 = σ 18508 := hs 18508 (by decide)
  clear hs ht hb
  rw [hx] at hr
  obtain ⟨y, hy, hv⟩ := hr
  cases hy
  replace hv : x.toInt = 0 + 0 := hv
  have f0 : 0 ≤ 0 + (1 * τ 18505 + 0) := hf _ (List.Mem.head _)
  have f1 : 0 ≤ (-1) + ((-1) * τ 18508 + 0) := hf _ (List.Mem.tail _ (List.Mem.head _))
  have f2 : 0 ≤ 0 + (1 * τ 19001 + 0) := hf _ (List.Mem.tail _ (List.Mem.tail _ (List.Mem.head _)))
  have f3 : 0 ≤ 0 + ((-1) * τ 19001 + 0) := hf _ (List.Mem.tail _ (List.Mem.tail _ (List.Mem.tail _ (List.Mem.head _))))
  have f4 : 0 ≤ 0 + (1 * τ 19002 + 0) := hf _ (List.Mem.tail _ (List.Mem.tail _ (List.Mem.tail _ (List.Mem.tail _ (List.Mem.head _)))))
  have f5 : 0 ≤ (-3) + (1 * τ 19003 + 0) := hf _ (List.Mem.tail _ (List.Mem.tail _ (List.Mem.tail _ (List.Mem.tail _ (List.Mem.tail _ (List.Mem.head _))))))
  have f6 : 0 ≤ 3 + ((-1) * τ 19003 + 0) := hf _ (List.Mem.tail _ (List.Mem.tail _ (List.Mem.tail _ (List.Mem.tail _ (List.Mem.tail _ (List.Mem.tail _ (List.Mem.head _)))))))
  have f7 : 0 ≤ 0 + (1 * τ 19004 + 0) := hf _ (List.Mem.tail _ (List.Mem.tail _ (List.Mem.tail _ (List.Mem.tail _ (List.Mem.tail _ (List.Mem.tail _ (List.Mem.tail _ (List.Mem.head _))))))))
  have f8 : 0 ≤ 0 + (1 * τ 19005 + 0) := hf _ (List.Mem.tail _ (List.Mem.tail _ (List.Mem.tail _ (List.Mem.tail _ (List.Mem.tail _ (List.Mem.tail _ (List.Mem.tail _ (List.Mem.tail _ (List.Mem.head _)))))))))
  clear hf hm
  have ej : a1 = 0 := by omega
  subst ej
  have ek : a3 = 3 := by omega
  subst ek
  simp only [lw_sel0, lw_sel1, lw_sel2, lw_sel3]
  refine Or.inr ⟨by omega, fun h => ?_⟩
  obtain ⟨z0, z1, z2, z3, z4, z5, z6, z7, z8, z9, z10, z11⟩ := h
  omega
theorem lw_pm_39 {as : List rv_A} {σ σ' : Nat → Int} {o : rv_O} {x : Int32} {a1 a2 a3 a4 a5 : Int} {τ : Nat → Int} (hx : o.1 = some (.inl x)) (h1 : lw_av as 1 = a1) (h2 : lw_av as 2 = a2) (h3 : lw_av as 3 = a3) (h4 : lw_av as 4 = a4) (h5 : lw_av as 5 = a5) (hb : ∀ s, (sx_sr s).1 ≤ σ s ∧ σ s ≤ (sx_sr s).2) (hW : lw_W ([], [(0, [(18505, 1)]), (0, [(18508, 1)]), (0, [(19001, 1)]), (0, [(19001, (-1))]), (0, [(19002, 1)]), ((-3), [(19003, 1)]), (3, [(19003, (-1))]), (0, [(19004, 1)]), (0, [(19005, 1)]), ((-1), [(18505, (-1)), (19002, 1), (19005, 1)]), (0, [(18501, (-1)), (18504, 1)]), (0, [(18501, 1), (18504, (-1))])], [(12800, (3, []))], some (false, (0, []))) as σ σ' τ o) : lw_pm_C a1 a2 a3 a4 a5 x.toInt σ σ' := by
  unfold lw_pm_C
  have b18501 : 0 ≤ σ 18501 ∧ σ 18501 ≤ 3 := by
    have h0 := hb 18501
    rw [show sx_sr 18501 = (0, 3) from by decide +kernel] at h0
    exact h0
  have b18502 : 0 ≤ σ 18502 ∧ σ 18502 ≤ 3 := by
    have h0 := hb 18502
    rw [show sx_sr 18502 = (0, 3) from by decide +kernel] at h0
    exact h0
  have b18503 : 0 ≤ σ 18503 ∧ σ 18503 ≤ 3 := by
    have h0 := hb 18503
    rw [show sx_sr 18503 = (0, 3) from by decide +kernel] at h0
    exact h0
  have b18504 : 0 ≤ σ 18504 ∧ σ 18504 ≤ 3 := by
    have h0 := hb 18504
    rw [show sx_sr 18504 = (0, 3) from by decide +kernel] at h0
    exact h0
  have b18505 : (-1) ≤ σ 18505 ∧ σ 18505 ≤ 60 := by
    have h0 := hb 18505
    rw [show sx_sr 18505 = ((-1), 60) from by decide +kernel] at h0
    exact h0
  have b18506 : (-1) ≤ σ 18506 ∧ σ 18506 ≤ 60 := by
    have h0 := hb 18506
    rw [show sx_sr 18506 = ((-1), 60) from by decide +kernel] at h0
    exact h0
  have b18507 : (-1) ≤ σ 18507 ∧ σ 18507 ≤ 60 := by
    have h0 := hb 18507
    rw [show sx_sr 18507 = ((-1), 60) from by decide +kernel] at h0
    exact h0
  have b18508 : (-1) ≤ σ 18508 ∧ σ 18508 ≤ 60 := by
    have h0 := hb 18508
    rw [show sx_sr 18508 = ((-1), 60) from by decide +kernel] at h0
    exact h0
  obtain ⟨hs, ht, hf, hr, hm, hw⟩ := hW
  have e1 : τ 19001 = a1 := by rw [ht 19001 (by decide) (by decide)]; exact h1
  have e2 : τ 19002 = a2 := by rw [ht 19002 (by decide) (by decide)]; exact h2
  have e3 : τ 19003 = a3 := by rw [ht 19003 (by decide) (by decide)]; exact h3
  have e4 : τ 19004 = a4 := by rw [ht 19004 (by decide) (by decide)]; exact h4
  have e5 : τ 19005 = a5 := by rw [ht 19005 (by decide) (by decide)]; exact h5
  have s18501 : τ 18501 = σ 18501 := hs 18501 (by decide)
  have s18502 : τ 18502 = σ 18502 := hs 18502 (by decide)
  have s18503 : τ 18503 = σ 18503 := hs 18503 (by decide)
  have s18504 : τ 18504 = σ 18504 := hs 18504 (by decide)
  have s18505 : τ 18505 = σ 18505 := hs 18505 (by decide)
  have s18506 : τ 18506 = σ 18506 := hs 18506 (by decide)
  have s18507 : τ 18507 = σ 18507 := hs 18507 (by decide)
  have s18508 : τ 18508 = σ 18508 := hs 18508 (by decide)
  clear hs ht hb
  rw [hx] at hr
  obtain ⟨y, hy, hv⟩ := hr
  cases hy
  replace hv : x.toInt = 0 + 0 := hv
  have f0 : 0 ≤ 0 + (1 * τ 18505 + 0) := hf _ (List.Mem.head _)
  have f1 : 0 ≤ 0 + (1 * τ 18508 + 0) := hf _ (List.Mem.tail _ (List.Mem.head _))
  have f2 : 0 ≤ 0 + (1 * τ 19001 + 0) := hf _ (List.Mem.tail _ (List.Mem.tail _ (List.Mem.head _)))
  have f3 : 0 ≤ 0 + ((-1) * τ 19001 + 0) := hf _ (List.Mem.tail _ (List.Mem.tail _ (List.Mem.tail _ (List.Mem.head _))))
  have f4 : 0 ≤ 0 + (1 * τ 19002 + 0) := hf _ (List.Mem.tail _ (List.Mem.tail _ (List.Mem.tail _ (List.Mem.tail _ (List.Mem.head _)))))
  have f5 : 0 ≤ (-3) + (1 * τ 19003 + 0) := hf _ (List.Mem.tail _ (List.Mem.tail _ (List.Mem.tail _ (List.Mem.tail _ (List.Mem.tail _ (List.Mem.head _))))))
  have f6 : 0 ≤ 3 + ((-1) * τ 19003 + 0) := hf _ (List.Mem.tail _ (List.Mem.tail _ (List.Mem.tail _ (List.Mem.tail _ (List.Mem.tail _ (List.Mem.tail _ (List.Mem.head _)))))))
  have f7 : 0 ≤ 0 + (1 * τ 19004 + 0) := hf _ (List.Mem.tail _ (List.Mem.tail _ (List.Mem.tail _ (List.Mem.tail _ (List.Mem.tail _ (List.Mem.tail _ (List.Mem.tail _ (List.Mem.head _))))))))
  have f8 : 0 ≤ 0 + (1 * τ 19005 + 0) := hf _ (List.Mem.tail _ (List.Mem.tail _ (List.Mem.tail _ (List.Mem.tail _ (List.Mem.tail _ (List.Mem.tail _ (List.Mem.tail _ (List.Mem.tail _ (List.Mem.head _)))))))))
  have f9 : 0 ≤ (-1) + ((-1) * τ 18505 + (1 * τ 19002 + (1 * τ 19005 + 0))) := hf _ (List.Mem.tail _ (List.Mem.tail _ (List.Mem.tail _ (List.Mem.tail _ (List.Mem.tail _ (List.Mem.tail _ (List.Mem.tail _ (List.Mem.tail _ (List.Mem.tail _ (List.Mem.head _))))))))))
  have f10 : 0 ≤ 0 + ((-1) * τ 18501 + (1 * τ 18504 + 0)) := hf _ (List.Mem.tail _ (List.Mem.tail _ (List.Mem.tail _ (List.Mem.tail _ (List.Mem.tail _ (List.Mem.tail _ (List.Mem.tail _ (List.Mem.tail _ (List.Mem.tail _ (List.Mem.tail _ (List.Mem.head _)))))))))))
  have f11 : 0 ≤ 0 + (1 * τ 18501 + ((-1) * τ 18504 + 0)) := hf _ (List.Mem.tail _ (List.Mem.tail _ (List.Mem.tail _ (List.Mem.tail _ (List.Mem.tail _ (List.Mem.tail _ (List.Mem.tail _ (List.Mem.tail _ (List.Mem.tail _ (List.Mem.tail _ (List.Mem.tail _ (List.Mem.head _))))))))))))
  clear hf hm
  have ej : a1 = 0 := by omega
  subst ej
  have ek : a3 = 3 := by omega
  subst ek
  simp only [lw_sel0, lw_sel1, lw_sel2, lw_sel3]
  refine Or.inr ⟨by omega, fun h => ?_⟩
  obtain ⟨z0, z1, z2, z3, z4, z5, z6, z7, z8, z9, z10, z11⟩ := h
  omega
theorem lw_pm_40 {as : List rv_A} {σ σ' : Nat → Int} {o : rv_O} {x : Int32} {a1 a2 a3 a4 a5 : Int} {τ : Nat → Int} (hx : o.1 = some (.inl x)) (h1 : lw_av as 1 = a1) (h2 : lw_av as 2 = a2) (h3 : lw_av as 3 = a3) (h4 : lw_av as 4 = a4) (h5 : lw_av as 5 = a5) (hb : ∀ s, (sx_sr s).1 ≤ σ s ∧ σ s ≤ (sx_sr s).2) (hW : lw_W ([], [(0, [(18505, 1)]), (0, [(18508, 1)]), (0, [(19001, 1)]), (0, [(19001, (-1))]), (0, [(19002, 1)]), (60, [(19002, (-1))]), ((-3), [(19003, 1)]), (3, [(19003, (-1))]), (0, [(19004, 1)]), (0, [(19005, 1)]), (60, [(19005, (-1))]), ((-1), [(18508, (-1)), (19004, 1), (19005, 1)]), (0, [(18505, 1), (19002, (-1)), (19005, (-1))]), (0, [(18501, (-1)), (18504, 1)]), (0, [(18501, 1), (18504, (-1))])], [(12800, (3, []))], some (false, (0, []))) as σ σ' τ o) : lw_pm_C a1 a2 a3 a4 a5 x.toInt σ σ' := by
  unfold lw_pm_C
  have b18501 : 0 ≤ σ 18501 ∧ σ 18501 ≤ 3 := by
    have h0 := hb 18501
    rw [show sx_sr 18501 = (0, 3) from by decide +kernel] at h0
    exact h0
  have b18502 : 0 ≤ σ 18502 ∧ σ 18502 ≤ 3 := by
    have h0 := hb 18502
    rw [show sx_sr 18502 = (0, 3) from by decide +kernel] at h0
    exact h0
  have b18503 : 0 ≤ σ 18503 ∧ σ 18503 ≤ 3 := by
    have h0 := hb 18503
    rw [show sx_sr 18503 = (0, 3) from by decide +kernel] at h0
    exact h0
  have b18504 : 0 ≤ σ 18504 ∧ σ 18504 ≤ 3 := by
    have h0 := hb 18504
    rw [show sx_sr 18504 = (0, 3) from by decide +kernel] at h0
    exact h0
  have b18505 : (-1) ≤ σ 18505 ∧ σ 18505 ≤ 60 := by
    have h0 := hb 18505
    rw [show sx_sr 18505 = ((-1), 60) from by decide +kernel] at h0
    exact h0
  have b18506 : (-1) ≤ σ 18506 ∧ σ 18506 ≤ 60 := by
    have h0 := hb 18506
    rw [show sx_sr 18506 = ((-1), 60) from by decide +kernel] at h0
    exact h0
  have b18507 : (-1) ≤ σ 18507 ∧ σ 18507 ≤ 60 := by
    have h0 := hb 18507
    rw [show sx_sr 18507 = ((-1), 60) from by decide +kernel] at h0
    exact h0
  have b18508 : (-1) ≤ σ 18508 ∧ σ 18508 ≤ 60 := by
    have h0 := hb 18508
    rw [show sx_sr 18508 = ((-1), 60) from by decide +kernel] at h0
    exact h0
  obtain ⟨hs, ht, hf, hr, hm, hw⟩ := hW
  have e1 : τ 19001 = a1 := by rw [ht 19001 (by decide) (by decide)]; exact h1
  have e2 : τ 19002 = a2 := by rw [ht 19002 (by decide) (by decide)]; exact h2
  have e3 : τ 19003 = a3 := by rw [ht 19003 (by decide) (by decide)]; exact h3
  have e4 : τ 19004 = a4 := by rw [ht 19004 (by decide) (by decide)]; exact h4
  have e5 : τ 19005 = a5 := by rw [ht 19005 (by decide) (by decide)]; exact h5
  have s18501 : τ 18501 = σ 18501 := hs 18501 (by decide)
  have s18502 : τ 18502 = σ 18502 := hs 18502 (by decide)
  have s18503 : τ 18503 = σ 18503 := hs 18503 (by decide)
  have s18504 : τ 18504 = σ 18504 := hs 18504 (by decide)
  have s18505 : τ 18505 = σ 18505 := hs 18505 (by decide)
  have s18506 : τ 18506 = σ 18506 := hs 18506 (by decide)
  have s18507 : τ 18507 = σ 18507 := hs 18507 (by decide)
  have s18508 : τ 18508 = σ 18508 := hs 18508 (by decide)
  clear hs ht hb
  rw [hx] at hr
  obtain ⟨y, hy, hv⟩ := hr
  cases hy
  replace hv : x.toInt = 0 + 0 := hv
  have f0 : 0 ≤ 0 + (1 * τ 18505 + 0) := hf _ (List.Mem.head _)
  have f1 : 0 ≤ 0 + (1 * τ 18508 + 0) := hf _ (List.Mem.tail _ (List.Mem.head _))
  have f2 : 0 ≤ 0 + (1 * τ 19001 + 0) := hf _ (List.Mem.tail _ (List.Mem.tail _ (List.Mem.head _)))
  have f3 : 0 ≤ 0 + ((-1) * τ 19001 + 0) := hf _ (List.Mem.tail _ (List.Mem.tail _ (List.Mem.tail _ (List.Mem.head _))))
  have f4 : 0 ≤ 0 + (1 * τ 19002 + 0) := hf _ (List.Mem.tail _ (List.Mem.tail _ (List.Mem.tail _ (List.Mem.tail _ (List.Mem.head _)))))
  have f5 : 0 ≤ 60 + ((-1) * τ 19002 + 0) := hf _ (List.Mem.tail _ (List.Mem.tail _ (List.Mem.tail _ (List.Mem.tail _ (List.Mem.tail _ (List.Mem.head _))))))
  have f6 : 0 ≤ (-3) + (1 * τ 19003 + 0) := hf _ (List.Mem.tail _ (List.Mem.tail _ (List.Mem.tail _ (List.Mem.tail _ (List.Mem.tail _ (List.Mem.tail _ (List.Mem.head _)))))))
  have f7 : 0 ≤ 3 + ((-1) * τ 19003 + 0) := hf _ (List.Mem.tail _ (List.Mem.tail _ (List.Mem.tail _ (List.Mem.tail _ (List.Mem.tail _ (List.Mem.tail _ (List.Mem.tail _ (List.Mem.head _))))))))
  have f8 : 0 ≤ 0 + (1 * τ 19004 + 0) := hf _ (List.Mem.tail _ (List.Mem.tail _ (List.Mem.tail _ (List.Mem.tail _ (List.Mem.tail _ (List.Mem.tail _ (List.Mem.tail _ (List.Mem.tail _ (List.Mem.head _)))))))))
  have f9 : 0 ≤ 0 + (1 * τ 19005 + 0) := hf _ (List.Mem.tail _ (List.Mem.tail _ (List.Mem.tail _ (List.Mem.tail _ (List.Mem.tail _ (List.Mem.tail _ (List.Mem.tail _ (List.Mem.tail _ (List.Mem.tail _ (List.Mem.head _))))))))))
  have f10 : 0 ≤ 60 + ((-1) * τ 19005 + 0) := hf _ (List.Mem.tail _ (List.Mem.tail _ (List.Mem.tail _ (List.Mem.tail _ (List.Mem.tail _ (List.Mem.tail _ (List.Mem.tail _ (List.Mem.tail _ (List.Mem.tail _ (List.Mem.tail _ (List.Mem.head _)))))))))))
  have f11 : 0 ≤ (-1) + ((-1) * τ 18508 + (1 * τ 19004 + (1 * τ 19005 + 0))) := hf _ (List.Mem.tail _ (List.Mem.tail _ (List.Mem.tail _ (List.Mem.tail _ (List.Mem.tail _ (List.Mem.tail _ (List.Mem.tail _ (List.Mem.tail _ (List.Mem.tail _ (List.Mem.tail _ (List.Mem.tail _ (List.Mem.head _))))))))))))
  have f12 : 0 ≤ 0 + (1 * τ 18505 + ((-1) * τ 19002 + ((-1) * τ 19005 + 0))) := hf _ (List.Mem.tail _ (List.Mem.tail _ (List.Mem.tail _ (List.Mem.tail _ (List.Mem.tail _ (List.Mem.tail _ (List.Mem.tail _ (List.Mem.tail _ (List.Mem.tail _ (List.Mem.tail _ (List.Mem.tail _ (List.Mem.tail _ (List.Mem.head _)))))))))))))
  have f13 : 0 ≤ 0 + ((-1) * τ 18501 + (1 * τ 18504 + 0)) := hf _ (List.Mem.tail _ (List.Mem.tail _ (List.Mem.tail _ (List.Mem.tail _ (List.Mem.tail _ (List.Mem.tail _ (List.Mem.tail _ (List.Mem.tail _ (List.Mem.tail _ (List.Mem.tail _ (List.Mem.tail _ (List.Mem.tail _ (List.Mem.tail _ (List.Mem.head _))))))))))))))
  have f14 : 0 ≤ 0 + (1 * τ 18501 + ((-1) * τ 18504 + 0)) := hf _ (List.Mem.tail _ (List.Mem.tail _ (List.Mem.tail _ (List.Mem.tail _ (List.Mem.tail _ (List.Mem.tail _ (List.Mem.tail _ (List.Mem.tail _ (List.Mem.tail _ (List.Mem.tail _ (List.Mem.tail _ (List.Mem.tail _ (List.Mem.tail _ (List.Mem.tail _ (List.Mem.head _)))))))))))))))
  clear hf hm
  have ej : a1 = 0 := by omega
  subst ej
  have ek : a3 = 3 := by omega
  subst ek
  simp only [lw_sel0, lw_sel1, lw_sel2, lw_sel3]
  refine Or.inr ⟨by omega, fun h => ?_⟩
  obtain ⟨z0, z1, z2, z3, z4, z5, z6, z7, z8, z9, z10, z11⟩ := h
  omega
theorem lw_pm_41 {as : List rv_A} {σ σ' : Nat → Int} {o : rv_O} {x : Int32} {a1 a2 a3 a4 a5 : Int} {τ : Nat → Int} (hx : o.1 = some (.inl x)) (h1 : lw_av as 1 = a1) (h2 : lw_av as 2 = a2) (h3 : lw_av as 3 = a3) (h4 : lw_av as 4 = a4) (h5 : lw_av as 5 = a5) (hb : ∀ s, (sx_sr s).1 ≤ σ s ∧ σ s ≤ (sx_sr s).2) (hW : lw_W ([], [(0, [(18505, 1)]), (0, [(18508, 1)]), ((-3), [(19001, 1)]), (3, [(19001, (-1))]), (0, [(19002, 1)]), (0, [(19003, 1)]), (0, [(19003, (-1))]), (0, [(19004, 1)]), (0, [(19005, 1)]), ((-1), [(18508, (-1)), (19002, 1), (19005, 1)]), (0, [(18501, 1), (18504, (-1))]), (0, [(18501, (-1)), (18504, 1)])], [(12800, (3, []))], some (false, (0, []))) as σ σ' τ o) : lw_pm_C a1 a2 a3 a4 a5 x.toInt σ σ' := by
  unfold lw_pm_C
  have b18501 : 0 ≤ σ 18501 ∧ σ 18501 ≤ 3 := by
    have h0 := hb 18501
    rw [show sx_sr 18501 = (0, 3) from by decide +kernel] at h0
    exact h0
  have b18502 : 0 ≤ σ 18502 ∧ σ 18502 ≤ 3 := by
    have h0 := hb 18502
    rw [show sx_sr 18502 = (0, 3) from by decide +kernel] at h0
    exact h0
  have b18503 : 0 ≤ σ 18503 ∧ σ 18503 ≤ 3 := by
    have h0 := hb 18503
    rw [show sx_sr 18503 = (0, 3) from by decide +kernel] at h0
    exact h0
  have b18504 : 0 ≤ σ 18504 ∧ σ 18504 ≤ 3 := by
    have h0 := hb 18504
    rw [show sx_sr 18504 = (0, 3) from by decide +kernel] at h0
    exact h0
  have b18505 : (-1) ≤ σ 18505 ∧ σ 18505 ≤ 60 := by
    have h0 := hb 18505
    rw [show sx_sr 18505 = ((-1), 60) from by decide +kernel] at h0
    exact h0
  have b18506 : (-1) ≤ σ 18506 ∧ σ 18506 ≤ 60 := by
    have h0 := hb 18506
    rw [show sx_sr 18506 = ((-1), 60) from by decide +kernel] at h0
    exact h0
  have b18507 : (-1) ≤ σ 18507 ∧ σ 18507 ≤ 60 := by
    have h0 := hb 18507
    rw [show sx_sr 18507 = ((-1), 60) from by decide +kernel] at h0
    exact h0
  have b18508 : (-1) ≤ σ 18508 ∧ σ 18508 ≤ 60 := by
    have h0 := hb 18508
    rw [show sx_sr 18508 = ((-1), 60) from by decide +kernel] at h0
    exact h0
  obtain ⟨hs, ht, hf, hr, hm, hw⟩ := hW
  have e1 : τ 19001 = a1 := by rw [ht 19001 (by decide) (by decide)]; exact h1
  have e2 : τ 19002 = a2 := by rw [ht 19002 (by decide) (by decide)]; exact h2
  have e3 : τ 19003 = a3 := by rw [ht 19003 (by decide) (by decide)]; exact h3
  have e4 : τ 19004 = a4 := by rw [ht 19004 (by decide) (by decide)]; exact h4
  have e5 : τ 19005 = a5 := by rw [ht 19005 (by decide) (by decide)]; exact h5
  have s18501 : τ 18501 = σ 18501 := hs 18501 (by decide)
  have s18502 : τ 18502 = σ 18502 := hs 18502 (by decide)
  have s18503 : τ 18503 = σ 18503 := hs 18503 (by decide)
  have s18504 : τ 18504 = σ 18504 := hs 18504 (by decide)
  have s18505 : τ 18505 = σ 18505 := hs 18505 (by decide)
  have s18506 : τ 18506 = σ 18506 := hs 18506 (by decide)
  have s18507 : τ 18507 = σ 18507 := hs 18507 (by decide)
  have s18508 : τ 18508 = σ 18508 := hs 18508 (by decide)
  clear hs ht hb
  rw [hx] at hr
  obtain ⟨y, hy, hv⟩ := hr
  cases hy
  replace hv : x.toInt = 0 + 0 := hv
  have f0 : 0 ≤ 0 + (1 * τ 18505 + 0) := hf _ (List.Mem.head _)
  have f1 : 0 ≤ 0 + (1 * τ 18508 + 0) := hf _ (List.Mem.tail _ (List.Mem.head _))
  have f2 : 0 ≤ (-3) + (1 * τ 19001 + 0) := hf _ (List.Mem.tail _ (List.Mem.tail _ (List.Mem.head _)))
  have f3 : 0 ≤ 3 + ((-1) * τ 19001 + 0) := hf _ (List.Mem.tail _ (List.Mem.tail _ (List.Mem.tail _ (List.Mem.head _))))
  have f4 : 0 ≤ 0 + (1 * τ 19002 + 0) := hf _ (List.Mem.tail _ (List.Mem.tail _ (List.Mem.tail _ (List.Mem.tail _ (List.Mem.head _)))))
  have f5 : 0 ≤ 0 + (1 * τ 19003 + 0) := hf _ (List.Mem.tail _ (List.Mem.tail _ (List.Mem.tail _ (List.Mem.tail _ (List.Mem.tail _ (List.Mem.head _))))))
  have f6 : 0 ≤ 0 + ((-1) * τ 19003 + 0) := hf _ (List.Mem.tail _ (List.Mem.tail _ (List.Mem.tail _ (List.Mem.tail _ (List.Mem.tail _ (List.Mem.tail _ (List.Mem.head _)))))))
  have f7 : 0 ≤ 0 + (1 * τ 19004 + 0) := hf _ (List.Mem.tail _ (List.Mem.tail _ (List.Mem.tail _ (List.Mem.tail _ (List.Mem.tail _ (List.Mem.tail _ (List.Mem.tail _ (List.Mem.head _))))))))
  have f8 : 0 ≤ 0 + (1 * τ 19005 + 0) := hf _ (List.Mem.tail _ (List.Mem.tail _ (List.Mem.tail _ (List.Mem.tail _ (List.Mem.tail _ (List.Mem.tail _ (List.Mem.tail _ (List.Mem.tail _ (List.Mem.head _)))))))))
  have f9 : 0 ≤ (-1) + ((-1) * τ 18508 + (1 * τ 19002 + (1 * τ 19005 + 0))) := hf _ (List.Mem.tail _ (List.Mem.tail _ (List.Mem.tail _ (List.Mem.tail _ (List.Mem.tail _ (List.Mem.tail _ (List.Mem.tail _ (List.Mem.tail _ (List.Mem.tail _ (List.Mem.head _))))))))))
  have f10 : 0 ≤ 0 + (1 * τ 18501 + ((-1) * τ 18504 + 0)) := hf _ (List.Mem.tail _ (List.Mem.tail _ (List.Mem.tail _ (List.Mem.tail _ (List.Mem.tail _ (List.Mem.tail _ (List.Mem.tail _ (List.Mem.tail _ (List.Mem.tail _ (List.Mem.tail _ (List.Mem.head _)))))))))))
  have f11 : 0 ≤ 0 + ((-1) * τ 18501 + (1 * τ 18504 + 0)) := hf _ (List.Mem.tail _ (List.Mem.tail _ (List.Mem.tail _ (List.Mem.tail _ (List.Mem.tail _ (List.Mem.tail _ (List.Mem.tail _ (List.Mem.tail _ (List.Mem.tail _ (List.Mem.tail _ (List.Mem.tail _ (List.Mem.head _))))))))))))
  clear hf hm
  have ej : a1 = 3 := by omega
  subst ej
  have ek : a3 = 0 := by omega
  subst ek
  simp only [lw_sel0, lw_sel1, lw_sel2, lw_sel3]
  refine Or.inr ⟨by omega, fun h => ?_⟩
  obtain ⟨z0, z1, z2, z3, z4, z5, z6, z7, z8, z9, z10, z11⟩ := h
  omega
theorem lw_pm_42 {as : List rv_A} {σ σ' : Nat → Int} {o : rv_O} {x : Int32} {a1 a2 a3 a4 a5 : Int} {τ : Nat → Int} (hx : o.1 = some (.inl x)) (h1 : lw_av as 1 = a1) (h2 : lw_av as 2 = a2) (h3 : lw_av as 3 = a3) (h4 : lw_av as 4 = a4) (h5 : lw_av as 5 = a5) (hb : ∀ s, (sx_sr s).1 ≤ σ s ∧ σ s ≤ (sx_sr s).2) (hW : lw_W ([], [(0, [(18505, 1)]), (0, [(18508, 1)]), ((-3), [(19001, 1)]), (3, [(19001, (-1))]), (0, [(19002, 1)]), (60, [(19002, (-1))]), (0, [(19003, 1)]), (0, [(19003, (-1))]), (0, [(19004, 1)]), (0, [(19005, 1)]), (60, [(19005, (-1))]), ((-1), [(18505, (-1)), (19004, 1), (19005, 1)]), (0, [(18508, 1), (19002, (-1)), (19005, (-1))]), (0, [(18501, 1), (18504, (-1))]), (0, [(18501, (-1)), (18504, 1)])], [(12800, (3, []))], some (false, (0, []))) as σ σ' τ o) : lw_pm_C a1 a2 a3 a4 a5 x.toInt σ σ' := by
  unfold lw_pm_C
  have b18501 : 0 ≤ σ 18501 ∧ σ 18501 ≤ 3 := by
    have h0 := hb 18501
    rw [show sx_sr 18501 = (0, 3) from by decide +kernel] at h0
    exact h0
  have b18502 : 0 ≤ σ 18502 ∧ σ 18502 ≤ 3 := by
    have h0 := hb 18502
    rw [show sx_sr 18502 = (0, 3) from by decide +kernel] at h0
    exact h0
  have b18503 : 0 ≤ σ 18503 ∧ σ 18503 ≤ 3 := by
    have h0 := hb 18503
    rw [show sx_sr 18503 = (0, 3) from by decide +kernel] at h0
    exact h0
  have b18504 : 0 ≤ σ 18504 ∧ σ 18504 ≤ 3 := by
    have h0 := hb 18504
    rw [show sx_sr 18504 = (0, 3) from by decide +kernel] at h0
    exact h0
  have b18505 : (-1) ≤ σ 18505 ∧ σ 18505 ≤ 60 := by
    have h0 := hb 18505
    rw [show sx_sr 18505 = ((-1), 60) from by decide +kernel] at h0
    exact h0
  have b18506 : (-1) ≤ σ 18506 ∧ σ 18506 ≤ 60 := by
    have h0 := hb 18506
    rw [show sx_sr 18506 = ((-1), 60) from by decide +kernel] at h0
    exact h0
  have b18507 : (-1) ≤ σ 18507 ∧ σ 18507 ≤ 60 := by
    have h0 := hb 18507
    rw [show sx_sr 18507 = ((-1), 60) from by decide +kernel] at h0
    exact h0
  have b18508 : (-1) ≤ σ 18508 ∧ σ 18508 ≤ 60 := by
    have h0 := hb 18508
    rw [show sx_sr 18508 = ((-1), 60) from by decide +kernel] at h0
    exact h0
  obtain ⟨hs, ht, hf, hr, hm, hw⟩ := hW
  have e1 : τ 19001 = a1 := by rw [ht 19001 (by decide) (by decide)]; exact h1
  have e2 : τ 19002 = a2 := by rw [ht 19002 (by decide) (by decide)]; exact h2
  have e3 : τ 19003 = a3 := by rw [ht 19003 (by decide) (by decide)]; exact h3
  have e4 : τ 19004 = a4 := by rw [ht 19004 (by decide) (by decide)]; exact h4
  have e5 : τ 19005 = a5 := by rw [ht 19005 (by decide) (by decide)]; exact h5
  have s18501 : τ 18501 = σ 18501 := hs 18501 (by decide)
  have s18502 : τ 18502 = σ 18502 := hs 18502 (by decide)
  have s18503 : τ 18503 = σ 18503 := hs 18503 (by decide)
  have s18504 : τ 18504 = σ 18504 := hs 18504 (by decide)
  have s18505 : τ 18505 = σ 18505 := hs 18505 (by decide)
  have s18506 : τ 18506 = σ 18506 := hs 18506 (by decide)
  have s18507 : τ 18507 = σ 18507 := hs 18507 (by decide)
  have s18508 : τ 18508 = σ 18508 := hs 18508 (by decide)
  clear hs ht hb
  rw [hx] at hr
  obtain ⟨y, hy, hv⟩ := hr
  cases hy
  replace hv : x.toInt = 0 + 0 := hv
  have f0 : 0 ≤ 0 + (1 * τ 18505 + 0) := hf _ (List.Mem.head _)
  have f1 : 0 ≤ 0 + (1 * τ 18508 + 0) := hf _ (List.Mem.tail _ (List.Mem.head _))
  have f2 : 0 ≤ (-3) + (1 * τ 19001 + 0) := hf _ (List.Mem.tail _ (List.Mem.tail _ (List.Mem.head _)))
  have f3 : 0 ≤ 3 + ((-1) * τ 19001 + 0) := hf _ (List.Mem.tail _ (List.Mem.tail _ (List.Mem.tail _ (List.Mem.head _))))
  have f4 : 0 ≤ 0 + (1 * τ 19002 + 0) := hf _ (List.Mem.tail _ (List.Mem.tail _ (List.Mem.tail _ (List.Mem.tail _ (List.Mem.head _)))))
  have f5 : 0 ≤ 60 + ((-1) * τ 19002 + 0) := hf _ (List.Mem.tail _ (List.Mem.tail _ (List.Mem.tail _ (List.Mem.tail _ (List.Mem.tail _ (List.Mem.head _))))))
  have f6 : 0 ≤ 0 + (1 * τ 19003 + 0) := hf _ (List.Mem.tail _ (List.Mem.tail _ (List.Mem.tail _ (List.Mem.tail _ (List.Mem.tail _ (List.Mem.tail _ (List.Mem.head _)))))))
  have f7 : 0 ≤ 0 + ((-1) * τ 19003 + 0) := hf _ (List.Mem.tail _ (List.Mem.tail _ (List.Mem.tail _ (List.Mem.tail _ (List.Mem.tail _ (List.Mem.tail _ (List.Mem.tail _ (List.Mem.head _))))))))
  have f8 : 0 ≤ 0 + (1 * τ 19004 + 0) := hf _ (List.Mem.tail _ (List.Mem.tail _ (List.Mem.tail _ (List.Mem.tail _ (List.Mem.tail _ (List.Mem.tail _ (List.Mem.tail _ (List.Mem.tail _ (List.Mem.head _)))))))))
  have f9 : 0 ≤ 0 + (1 * τ 19005 + 0) := hf _ (List.Mem.tail _ (List.Mem.tail _ (List.Mem.tail _ (List.Mem.tail _ (List.Mem.tail _ (List.Mem.tail _ (List.Mem.tail _ (List.Mem.tail _ (List.Mem.tail _ (List.Mem.head _))))))))))
  have f10 : 0 ≤ 60 + ((-1) * τ 19005 + 0) := hf _ (List.Mem.tail _ (List.Mem.tail _ (List.Mem.tail _ (List.Mem.tail _ (List.Mem.tail _ (List.Mem.tail _ (List.Mem.tail _ (List.Mem.tail _ (List.Mem.tail _ (List.Mem.tail _ (List.Mem.head _)))))))))))
  have f11 : 0 ≤ (-1) + ((-1) * τ 18505 + (1 * τ 19004 + (1 * τ 19005 + 0))) := hf _ (List.Mem.tail _ (List.Mem.tail _ (List.Mem.tail _ (List.Mem.tail _ (List.Mem.tail _ (List.Mem.tail _ (List.Mem.tail _ (List.Mem.tail _ (List.Mem.tail _ (List.Mem.tail _ (List.Mem.tail _ (List.Mem.head _))))))))))))
  have f12 : 0 ≤ 0 + (1 * τ 18508 + ((-1) * τ 19002 + ((-1) * τ 19005 + 0))) := hf _ (List.Mem.tail _ (List.Mem.tail _ (List.Mem.tail _ (List.Mem.tail _ (List.Mem.tail _ (List.Mem.tail _ (List.Mem.tail _ (List.Mem.tail _ (List.Mem.tail _ (List.Mem.tail _ (List.Mem.tail _ (List.Mem.tail _ (List.Mem.head _)))))))))))))
  have f13 : 0 ≤ 0 + (1 * τ 18501 + ((-1) * τ 18504 + 0)) := hf _ (List.Mem.tail _ (List.Mem.tail _ (List.Mem.tail _ (List.Mem.tail _ (List.Mem.tail _ (List.Mem.tail _ (List.Mem.tail _ (List.Mem.tail _ (List.Mem.tail _ (List.Mem.tail _ (List.Mem.tail _ (List.Mem.tail _ (List.Mem.tail _ (List.Mem.head _))))))))))))))
  have f14 : 0 ≤ 0 + ((-1) * τ 18501 + (1 * τ 18504 + 0)) := hf _ (List.Mem.tail _ (List.Mem.tail _ (List.Mem.tail _ (List.Mem.tail _ (List.Mem.tail _ (List.Mem.tail _ (List.Mem.tail _ (List.Mem.tail _ (List.Mem.tail _ (List.Mem.tail _ (List.Mem.tail _ (List.Mem.tail _ (List.Mem.tail _ (List.Mem.tail _ (List.Mem.head _)))))))))))))))
  clear hf hm
  have ej : a1 = 3 := by omega
  subst ej
  have ek : a3 = 0 := by omega
  subst ek
  simp only [lw_sel0, lw_sel1, lw_sel2, lw_sel3]
  refine Or.inr ⟨by omega, fun h => ?_⟩
  obtain ⟨z0, z1, z2, z3, z4, z5, z6, z7, z8, z9, z10, z11⟩ := h
  omega
theorem lw_pm_43 {as : List rv_A} {σ σ' : Nat → Int} {o : rv_O} {x : Int32} {a1 a2 a3 a4 a5 : Int} {τ : Nat → Int} (hx : o.1 = some (.inl x)) (h1 : lw_av as 1 = a1) (h2 : lw_av as 2 = a2) (h3 : lw_av as 3 = a3) (h4 : lw_av as 4 = a4) (h5 : lw_av as 5 = a5) (hb : ∀ s, (sx_sr s).1 ≤ σ s ∧ σ s ≤ (sx_sr s).2) (hW : lw_W ([], [(0, [(18505, 1)]), (0, [(19001, 1)]), (0, [(19001, (-1))]), (0, [(19002, 1)]), (0, [(19003, 1)]), (0, [(19003, (-1))]), (0, [(19004, 1)]), (0, [(19005, 1)]), ((-1), [(18505, (-1)), (19002, 1), (19005, 1)])], [(12800, (3, []))], some (false, (0, []))) as σ σ' τ o) : lw_pm_C a1 a2 a3 a4 a5 x.toInt σ σ' := by
  unfold lw_pm_C
  have b18501 : 0 ≤ σ 18501 ∧ σ 18501 ≤ 3 := by
    have h0 := hb 18501
    rw [show sx_sr 18501 = (0, 3) from by decide +kernel] at h0
    exact h0
  have b18502 : 0 ≤ σ 18502 ∧ σ 18502 ≤ 3 := by
    have h0 := hb 18502
    rw [show sx_sr 18502 = (0, 3) from by decide +kernel] at h0
    exact h0
  have b18503 : 0 ≤ σ 18503 ∧ σ 18503 ≤ 3 := by
    have h0 := hb 18503
    rw [show sx_sr 18503 = (0, 3) from by decide +kernel] at h0
    exact h0
  have b18504 : 0 ≤ σ 18504 ∧ σ 18504 ≤ 3 := by
    have h0 := hb 18504
    rw [show sx_sr 18504 = (0, 3) from by decide +kernel] at h0
    exact h0
  have b18505 : (-1) ≤ σ 18505 ∧ σ 18505 ≤ 60 := by
    have h0 := hb 18505
    rw [show sx_sr 18505 = ((-1), 60) from by decide +kernel] at h0
    exact h0
  have b18506 : (-1) ≤ σ 18506 ∧ σ 18506 ≤ 60 := by
    have h0 := hb 18506
    rw [show sx_sr 18506 = ((-1), 60) from by decide +kernel] at h0
    exact h0
  have b18507 : (-1) ≤ σ 18507 ∧ σ 18507 ≤ 60 := by
    have h0 := hb 18507
    rw [show sx_sr 18507 = ((-1), 60) from by decide +kernel] at h0
    exact h0
  have b18508 : (-1) ≤ σ 18508 ∧ σ 18508 ≤ 60 := by
    have h0 := hb 18508
    rw [show sx_sr 18508 = ((-1), 60) from by decide +kernel] at h0
    exact h0
  obtain ⟨hs, ht, hf, hr, hm, hw⟩ := hW
  have e1 : τ 19001 = a1 := by rw [ht 19001 (by decide) (by decide)]; exact h1
  have e2 : τ 19002 = a2 := by rw [ht 19002 (by decide) (by decide)]; exact h2
  have e3 : τ 19003 = a3 := by rw [ht 19003 (by decide) (by decide)]; exact h3
  have e4 : τ 19004 = a4 := by rw [ht 19004 (by decide) (by decide)]; exact h4
  have e5 : τ 19005 = a5 := by rw [ht 19005 (by decide) (by decide)]; exact h5
  have s18501 : τ 18501 = σ 18501 := hs 18501 (by decide)
  have s18502 : τ 18502 = σ 18502 := hs 18502 (by decide)
  have s18503 : τ 18503 = σ 18503 := hs 18503 (by decide)
  have s18504 : τ 18504 = σ 18504 := hs 18504 (by decide)
  have s18505 : τ 18505 = σ 18505 := hs 18505 (by decide)
  have s18506 : τ 18506 = σ 18506 := hs 18506 (by decide)
  have s18507 : τ 18507 = σ 18507 := hs 18507 (by decide)
  have s18508 : τ 18508 = σ 18508 := hs 18508 (by decide)
  clear hs ht hb
  rw [hx] at hr
  obtain ⟨y, hy, hv⟩ := hr
  cases hy
  replace hv : x.toInt = 0 + 0 := hv
  have f0 : 0 ≤ 0 + (1 * τ 18505 + 0) := hf _ (List.Mem.head _)
  have f1 : 0 ≤ 0 + (1 * τ 19001 + 0) := hf _ (List.Mem.tail _ (List.Mem.head _))
  have f2 : 0 ≤ 0 + ((-1) * τ 19001 + 0) := hf _ (List.Mem.tail _ (List.Mem.tail _ (List.Mem.head _)))
  have f3 : 0 ≤ 0 + (1 * τ 19002 + 0) := hf _ (List.Mem.tail _ (List.Mem.tail _ (List.Mem.tail _ (List.Mem.head _))))
  have f4 : 0 ≤ 0 + (1 * τ 19003 + 0) := hf _ (List.Mem.tail _ (List.Mem.tail _ (List.Mem.tail _ (List.Mem.tail _ (List.Mem.head _)))))
  have f5 : 0 ≤ 0 + ((-1) * τ 19003 + 0) := hf _ (List.Mem.tail _ (List.Mem.tail _ (List.Mem.tail _ (List.Mem.tail _ (List.Mem.tail _ (List.Mem.head _))))))
  have f6 : 0 ≤ 0 + (1 * τ 19004 + 0) := hf _ (List.Mem.tail _ (List.Mem.tail _ (List.Mem.tail _ (List.Mem.tail _ (List.Mem.tail _ (List.Mem.tail _ (List.Mem.head _)))))))
  have f7 : 0 ≤ 0 + (1 * τ 19005 + 0) := hf _ (List.Mem.tail _ (List.Mem.tail _ (List.Mem.tail _ (List.Mem.tail _ (List.Mem.tail _ (List.Mem.tail _ (List.Mem.tail _ (List.Mem.head _))))))))
  have f8 : 0 ≤ (-1) + ((-1) * τ 18505 + (1 * τ 19002 + (1 * τ 19005 + 0))) := hf _ (List.Mem.tail _ (List.Mem.tail _ (List.Mem.tail _ (List.Mem.tail _ (List.Mem.tail _ (List.Mem.tail _ (List.Mem.tail _ (List.Mem.tail _ (List.Mem.head _)))))))))
  clear hf hm
  have ej : a1 = 0 := by omega
  subst ej
  have ek : a3 = 0 := by omega
  subst ek
  simp only [lw_sel0, lw_sel1, lw_sel2, lw_sel3]
  refine Or.inr ⟨by omega, fun h => ?_⟩
  obtain ⟨z0, z1, z2, z3, z4, z5, z6, z7, z8, z9, z10, z11⟩ := h
  omega
theorem lw_pm_44 {as : List rv_A} {σ σ' : Nat → Int} {o : rv_O} {x : Int32} {a1 a2 a3 a4 a5 : Int} {τ : Nat → Int} (hx : o.1 = some (.inl x)) (h1 : lw_av as 1 = a1) (h2 : lw_av as 2 = a2) (h3 : lw_av as 3 = a3) (h4 : lw_av as 4 = a4) (h5 : lw_av as 5 = a5) (hb : ∀ s, (sx_sr s).1 ≤ σ s ∧ σ s ≤ (sx_sr s).2) (hW : lw_W ([], [(0, [(18505, 1)]), (0, [(19001, 1)]), (0, [(19001, (-1))]), (0, [(19002, 1)]), (60, [(19002, (-1))]), (0, [(19003, 1)]), (0, [(19003, (-1))]), (0, [(19004, 1)]), (0, [(19005, 1)]), (60, [(19005, (-1))]), ((-1), [(18505, (-1)), (19004, 1), (19005, 1)]), (0, [(18505, 1), (19002, (-1)), (19005, (-1))])], [(12800, (3, []))], some (false, (0, []))) as σ σ' τ o) : lw_pm_C a1 a2 a3 a4 a5 x.toInt σ σ' := by
  unfold lw_pm_C
  have b18501 : 0 ≤ σ 18501 ∧ σ 18501 ≤ 3 := by
    have h0 := hb 18501
    rw [show sx_sr 18501 = (0, 3) from by decide +kernel] at h0
    exact h0
  have b18502 : 0 ≤ σ 18502 ∧ σ 18502 ≤ 3 := by
    have h0 := hb 18502
    rw [show sx_sr 18502 = (0, 3) from by decide +kernel] at h0
    exact h0
  have b18503 : 0 ≤ σ 18503 ∧ σ 18503 ≤ 3 := by
    have h0 := hb 18503
    rw [show sx_sr 18503 = (0, 3) from by decide +kernel] at h0
    exact h0
  have b18504 : 0 ≤ σ 18504 ∧ σ 18504 ≤ 3 := by
    have h0 := hb 18504
    rw [show sx_sr 18504 = (0, 3) from by decide +kernel] at h0
    exact h0
  have b18505 : (-1) ≤ σ 18505 ∧ σ 18505 ≤ 60 := by
    have h0 := hb 18505
    rw [show sx_sr 18505 = ((-1), 60) from by decide +kernel] at h0
    exact h0
  have b18506 : (-1) ≤ σ 18506 ∧ σ 18506 ≤ 60 := by
    have h0 := hb 18506
    rw [show sx_sr 18506 = ((-1), 60) from by decide +kernel] at h0
    exact h0
  have b18507 : (-1) ≤ σ 18507 ∧ σ 18507 ≤ 60 := by
    have h0 := hb 18507
    rw [show sx_sr 18507 = ((-1), 60) from by decide +kernel] at h0
    exact h0
  have b18508 : (-1) ≤ σ 18508 ∧ σ 18508 ≤ 60 := by
    have h0 := hb 18508
    rw [show sx_sr 18508 = ((-1), 60) from by decide +kernel] at h0
    exact h0
  obtain ⟨hs, ht, hf, hr, hm, hw⟩ := hW
  have e1 : τ 19001 = a1 := by rw [ht 19001 (by decide) (by decide)]; exact h1
  have e2 : τ 19002 = a2 := by rw [ht 19002 (by decide) (by decide)]; exact h2
  have e3 : τ 19003 = a3 := by rw [ht 19003 (by decide) (by decide)]; exact h3
  have e4 : τ 19004 = a4 := by rw [ht 19004 (by decide) (by decide)]; exact h4
  have e5 : τ 19005 = a5 := by rw [ht 19005 (by decide) (by decide)]; exact h5
  have s18501 : τ 18501 = σ 18501 := hs 18501 (by decide)
  have s18502 : τ 18502 = σ 18502 := hs 18502 (by decide)
  have s18503 : τ 18503 = σ 18503 := hs 18503 (by decide)
  have s18504 : τ 18504 = σ 18504 := hs 18504 (by decide)
  have s18505 : τ 18505 = σ 18505 := hs 18505 (by decide)
  have s18506 : τ 18506 = σ 18506 := hs 18506 (by decide)
  have s18507 : τ 18507 = σ 18507 := hs 18507 (by decide)
  have s18508 : τ 18508 = σ 18508 := hs 18508 (by decide)
  clear hs ht hb
  rw [hx] at hr
  obtain ⟨y, hy, hv⟩ := hr
  cases hy
  replace hv : x.toInt = 0 + 0 := hv
  have f0 : 0 ≤ 0 + (1 * τ 18505 + 0) := hf _ (List.Mem.head _)
  have f1 : 0 ≤ 0 + (1 * τ 19001 + 0) := hf _ (List.Mem.tail _ (List.Mem.head _))
  have f2 : 0 ≤ 0 + ((-1) * τ 19001 + 0) := hf _ (List.Mem.tail _ (List.Mem.tail _ (List.Mem.head _)))
  have f3 : 0 ≤ 0 + (1 * τ 19002 + 0) := hf _ (List.Mem.tail _ (List.Mem.tail _ (List.Mem.tail _ (List.Mem.head _))))
  have f4 : 0 ≤ 60 + ((-1) * τ 19002 + 0) := hf _ (List.Mem.tail _ (List.Mem.tail _ (List.Mem.tail _ (List.Mem.tail _ (List.Mem.head _)))))
  have f5 : 0 ≤ 0 + (1 * τ 19003 + 0) := hf _ (List.Mem.tail _ (List.Mem.tail _ (List.Mem.tail _ (List.Mem.tail _ (List.Mem.tail _ (List.Mem.head _))))))
  have f6 : 0 ≤ 0 + ((-1) * τ 19003 + 0) := hf _ (List.Mem.tail _ (List.Mem.tail _ (List.Mem.tail _ (List.Mem.tail _ (List.Mem.tail _ (List.Mem.tail _ (List.Mem.head _)))))))
  have f7 : 0 ≤ 0 + (1 * τ 19004 + 0) := hf _ (List.Mem.tail _ (List.Mem.tail _ (List.Mem.tail _ (List.Mem.tail _ (List.Mem.tail _ (List.Mem.tail _ (List.Mem.tail _ (List.Mem.head _))))))))
  have f8 : 0 ≤ 0 + (1 * τ 19005 + 0) := hf _ (List.Mem.tail _ (List.Mem.tail _ (List.Mem.tail _ (List.Mem.tail _ (List.Mem.tail _ (List.Mem.tail _ (List.Mem.tail _ (List.Mem.tail _ (List.Mem.head _)))))))))
  have f9 : 0 ≤ 60 + ((-1) * τ 19005 + 0) := hf _ (List.Mem.tail _ (List.Mem.tail _ (List.Mem.tail _ (List.Mem.tail _ (List.Mem.tail _ (List.Mem.tail _ (List.Mem.tail _ (List.Mem.tail _ (List.Mem.tail _ (List.Mem.head _))))))))))
  have f10 : 0 ≤ (-1) + ((-1) * τ 18505 + (1 * τ 19004 + (1 * τ 19005 + 0))) := hf _ (List.Mem.tail _ (List.Mem.tail _ (List.Mem.tail _ (List.Mem.tail _ (List.Mem.tail _ (List.Mem.tail _ (List.Mem.tail _ (List.Mem.tail _ (List.Mem.tail _ (List.Mem.tail _ (List.Mem.head _)))))))))))
  have f11 : 0 ≤ 0 + (1 * τ 18505 + ((-1) * τ 19002 + ((-1) * τ 19005 + 0))) := hf _ (List.Mem.tail _ (List.Mem.tail _ (List.Mem.tail _ (List.Mem.tail _ (List.Mem.tail _ (List.Mem.tail _ (List.Mem.tail _ (List.Mem.tail _ (List.Mem.tail _ (List.Mem.tail _ (List.Mem.tail _ (List.Mem.head _))))))))))))
  clear hf hm
  have ej : a1 = 0 := by omega
  subst ej
  have ek : a3 = 0 := by omega
  subst ek
  simp only [lw_sel0, lw_sel1, lw_sel2, lw_sel3]
  refine Or.inr ⟨by omega, fun h => ?_⟩
  obtain ⟨z0, z1, z2, z3, z4, z5, z6, z7, z8, z9, z10, z11⟩ := h
  omega
theorem lw_pm_45 {as : List rv_A} {σ σ' : Nat → Int} {o : rv_O} {x : Int32} {a1 a2 a3 a4 a5 : Int} {τ : Nat → Int} (hx : o.1 = some (.inl x)) (h1 : lw_av as 1 = a1) (h2 : lw_av as 2 = a2) (h3 : lw_av as 3 = a3) (h4 : lw_av as 4 = a4) (h5 : lw_av as 5 = a5) (hb : ∀ s, (sx_sr s).1 ≤ σ s ∧ σ s ≤ (sx_sr s).2) (hW : lw_W ([], [((-1), [(18506, (-1))]), (0, [(18507, 1)]), ((-2), [(19001, 1)]), (2, [(19001, (-1))]), (0, [(19002, 1)]), ((-1), [(19003, 1)]), (1, [(19003, (-1))]), (0, [(19004, 1)]), (0, [(19005, 1)])], [(12800, (2, []))], some (false, (0, []))) as σ σ' τ o) : lw_pm_C a1 a2 a3 a4 a5 x.toInt σ σ' := by
  unfold lw_pm_C
  have b18501 : 0 ≤ σ 18501 ∧ σ 18501 ≤ 3 := by
    have h0 := hb 18501
    rw [show sx_sr 18501 = (0, 3) from by decide +kernel] at h0
    exact h0
  have b18502 : 0 ≤ σ 18502 ∧ σ 18502 ≤ 3 := by
    have h0 := hb 18502
    rw [show sx_sr 18502 = (0, 3) from by decide +kernel] at h0
    exact h0
  have b18503 : 0 ≤ σ 18503 ∧ σ 18503 ≤ 3 := by
    have h0 := hb 18503
    rw [show sx_sr 18503 = (0, 3) from by decide +kernel] at h0
    exact h0
  have b18504 : 0 ≤ σ 18504 ∧ σ 18504 ≤ 3 := by
    have h0 := hb 18504
    rw [show sx_sr 18504 = (0, 3) from by decide +kernel] at h0
    exact h0
  have b18505 : (-1) ≤ σ 18505 ∧ σ 18505 ≤ 60 := by
    have h0 := hb 18505
    rw [show sx_sr 18505 = ((-1), 60) from by decide +kernel] at h0
    exact h0
  have b18506 : (-1) ≤ σ 18506 ∧ σ 18506 ≤ 60 := by
    have h0 := hb 18506
    rw [show sx_sr 18506 = ((-1), 60) from by decide +kernel] at h0
    exact h0
  have b18507 : (-1) ≤ σ 18507 ∧ σ 18507 ≤ 60 := by
    have h0 := hb 18507
    rw [show sx_sr 18507 = ((-1), 60) from by decide +kernel] at h0
    exact h0
  have b18508 : (-1) ≤ σ 18508 ∧ σ 18508 ≤ 60 := by
    have h0 := hb 18508
    rw [show sx_sr 18508 = ((-1), 60) from by decide +kernel] at h0
    exact h0
  obtain ⟨hs, ht, hf, hr, hm, hw⟩ := hW
  have e1 : τ 19001 = a1 := by rw [ht 19001 (by decide) (by decide)]; exact h1
  have e2 : τ 19002 = a2 := by rw [ht 19002 (by decide) (by decide)]; exact h2
  have e3 : τ 19003 = a3 := by rw [ht 19003 (by decide) (by decide)]; exact h3
  have e4 : τ 19004 = a4 := by rw [ht 19004 (by decide) (by decide)]; exact h4
  have e5 : τ 19005 = a5 := by rw [ht 19005 (by decide) (by decide)]; exact h5
  have s18501 : τ 18501 = σ 18501 := hs 18501 (by decide)
  have s18502 : τ 18502 = σ 18502 := hs 18502 (by decide)
  have s18503 : τ 18503 = σ 18503 := hs 18503 (by decide)
  have s18504 : τ 18504 = σ 18504 := hs 18504 (by decide)
  have s18505 : τ 18505 = σ 18505 := hs 18505 (by decide)
  have s18506 : τ 18506 = σ 18506 := hs 18506 (by decide)
  have s18507 : τ 18507 = σ 18507 := hs 18507 (by decide)
  have s18508 : τ 18508 = σ 18508 := hs 18508 (by decide)
  clear hs ht hb
  rw [hx] at hr
  obtain ⟨y, hy, hv⟩ := hr
  cases hy
  replace hv : x.toInt = 0 + 0 := hv
  have f0 : 0 ≤ (-1) + ((-1) * τ 18506 + 0) := hf _ (List.Mem.head _)
  have f1 : 0 ≤ 0 + (1 * τ 18507 + 0) := hf _ (List.Mem.tail _ (List.Mem.head _))
  have f2 : 0 ≤ (-2) + (1 * τ 19001 + 0) := hf _ (List.Mem.tail _ (List.Mem.tail _ (List.Mem.head _)))
  have f3 : 0 ≤ 2 + ((-1) * τ 19001 + 0) := hf _ (List.Mem.tail _ (List.Mem.tail _ (List.Mem.tail _ (List.Mem.head _))))
  have f4 : 0 ≤ 0 + (1 * τ 19002 + 0) := hf _ (List.Mem.tail _ (List.Mem.tail _ (List.Mem.tail _ (List.Mem.tail _ (List.Mem.head _)))))
  have f5 : 0 ≤ (-1) + (1 * τ 19003 + 0) := hf _ (List.Mem.tail _ (List.Mem.tail _ (List.Mem.tail _ (List.Mem.tail _ (List.Mem.tail _ (List.Mem.head _))))))
  have f6 : 0 ≤ 1 + ((-1) * τ 19003 + 0) := hf _ (List.Mem.tail _ (List.Mem.tail _ (List.Mem.tail _ (List.Mem.tail _ (List.Mem.tail _ (List.Mem.tail _ (List.Mem.head _)))))))
  have f7 : 0 ≤ 0 + (1 * τ 19004 + 0) := hf _ (List.Mem.tail _ (List.Mem.tail _ (List.Mem.tail _ (List.Mem.tail _ (List.Mem.tail _ (List.Mem.tail _ (List.Mem.tail _ (List.Mem.head _))))))))
  have f8 : 0 ≤ 0 + (1 * τ 19005 + 0) := hf _ (List.Mem.tail _ (List.Mem.tail _ (List.Mem.tail _ (List.Mem.tail _ (List.Mem.tail _ (List.Mem.tail _ (List.Mem.tail _ (List.Mem.tail _ (List.Mem.head _)))))))))
  clear hf hm
  have ej : a1 = 2 := by omega
  subst ej
  have ek : a3 = 1 := by omega
  subst ek
  simp only [lw_sel0, lw_sel1, lw_sel2, lw_sel3]
  refine Or.inr ⟨by omega, fun h => ?_⟩
  obtain ⟨z0, z1, z2, z3, z4, z5, z6, z7, z8, z9, z10, z11⟩ := h
  omega
theorem lw_pm_46 {as : List rv_A} {σ σ' : Nat → Int} {o : rv_O} {x : Int32} {a1 a2 a3 a4 a5 : Int} {τ : Nat → Int} (hx : o.1 = some (.inl x)) (h1 : lw_av as 1 = a1) (h2 : lw_av as 2 = a2) (h3 : lw_av as 3 = a3) (h4 : lw_av as 4 = a4) (h5 : lw_av as 5 = a5) (hb : ∀ s, (sx_sr s).1 ≤ σ s ∧ σ s ≤ (sx_sr s).2) (hW : lw_W ([], [((-1), [(18506, (-1))]), (0, [(18508, 1)]), ((-3), [(19001, 1)]), (3, [(19001, (-1))]), (0, [(19002, 1)]), ((-1), [(19003, 1)]), (1, [(19003, (-1))]), (0, [(19004, 1)]), (0, [(19005, 1)])], [(12800, (2, []))], some (false, (0, []))) as σ σ' τ o) : lw_pm_C a1 a2 a3 a4 a5 x.toInt σ σ' := by
  unfold lw_pm_C
  have b18501 : 0 ≤ σ 18501 ∧ σ 18501 ≤ 3 := by
    have h0 := hb 18501
    rw [show sx_sr 18501 = (0, 3) from by decide +kernel] at h0
    exact h0
  have b18502 : 0 ≤ σ 18502 ∧ σ 18502 ≤ 3 := by
    have h0 := hb 18502
    rw [show sx_sr 18502 = (0, 3) from by decide +kernel] at h0
    exact h0
  have b18503 : 0 ≤ σ 18503 ∧ σ 18503 ≤ 3 := by
    have h0 := hb 18503
    rw [show sx_sr 18503 = (0, 3) from by decide +kernel] at h0
    exact h0
  have b18504 : 0 ≤ σ 18504 ∧ σ 18504 ≤ 3 := by
    have h0 := hb 18504
    rw [show sx_sr 18504 = (0, 3) from by decide +kernel] at h0
    exact h0
  have b18505 : (-1) ≤ σ 18505 ∧ σ 18505 ≤ 60 := by
    have h0 := hb 18505
    rw [show sx_sr 18505 = ((-1), 60) from by decide +kernel] at h0
    exact h0
  have b18506 : (-1) ≤ σ 18506 ∧ σ 18506 ≤ 60 := by
    have h0 := hb 18506
    rw [show sx_sr 18506 = ((-1), 60) from by decide +kernel] at h0
    exact h0
  have b18507 : (-1) ≤ σ 18507 ∧ σ 18507 ≤ 60 := by
    have h0 := hb 18507
    rw [show sx_sr 18507 = ((-1), 60) from by decide +kernel] at h0
    exact h0
  have b18508 : (-1) ≤ σ 18508 ∧ σ 18508 ≤ 60 := by
    have h0 := hb 18508
    rw [show sx_sr 18508 = ((-1), 60) from by decide +kernel] at h0
    exact h0
  obtain ⟨hs, ht, hf, hr, hm, hw⟩ := hW
  have e1 : τ 19001 = a1 := by rw [ht 19001 (by decide) (by decide)]; exact h1
  have e2 : τ 19002 = a2 := by rw [ht 19002 (by decide) (by decide)]; exact h2
  have e3 : τ 19003 = a3 := by rw [ht 19003 (by decide) (by decide)]; exact h3
  have e4 : τ 19004 = a4 := by rw [ht 19004 (by decide) (by decide)]; exact h4
  have e5 : τ 19005 = a5 := by rw [ht 19005 (by decide) (by decide)]; exact h5
  have s18501 : τ 18501 = σ 18501 := hs 18501 (by decide)
  have s18502 : τ 18502 = σ 18502 := hs 18502 (by decide)
  have s18503 : τ 18503 = σ 18503 := hs 18503 (by decide)
  have s18504 : τ 18504 = σ 18504 := hs 18504 (by decide)
  have s18505 : τ 18505 = σ 18505 := hs 18505 (by decide)
  have s18506 : τ 18506 = σ 18506 := hs 18506 (by decide)
  have s18507 : τ 18507 = σ 18507 := hs 18507 (by decide)
  have s18508 : τ 18508 = σ 18508 := hs 18508 (by decide)
  clear hs ht hb
  rw [hx] at hr
  obtain ⟨y, hy, hv⟩ := hr
  cases hy
  replace hv : x.toInt = 0 + 0 := hv
  have f0 : 0 ≤ (-1) + ((-1) * τ 18506 + 0) := hf _ (List.Mem.head _)
  have f1 : 0 ≤ 0 + (1 * τ 18508 + 0) := hf _ (List.Mem.tail _ (List.Mem.head _))
  have f2 : 0 ≤ (-3) + (1 * τ 19001 + 0) := hf _ (List.Mem.tail _ (List.Mem.tail _ (List.Mem.head _)))
  have f3 : 0 ≤ 3 + ((-1) * τ 19001 + 0) := hf _ (List.Mem.tail _ (List.Mem.tail _ (List.Mem.tail _ (List.Mem.head _))))
  have f4 : 0 ≤ 0 + (1 * τ 19002 + 0) := hf _ (List.Mem.tail _ (List.Mem.tail _ (List.Mem.tail _ (List.Mem.tail _ (List.Mem.head _)))))
  have f5 : 0 ≤ (-1) + (1 * τ 19003 + 0) := hf _ (List.Mem.tail _ (List.Mem.tail _ (List.Mem.tail _ (List.Mem.tail _ (List.Mem.tail _ (List.Mem.head _))))))
  have f6 : 0 ≤ 1 + ((-1) * τ 19003 + 0) := hf _ (List.Mem.tail _ (List.Mem.tail _ (List.Mem.tail _ (List.Mem.tail _ (List.Mem.tail _ (List.Mem.tail _ (List.Mem.head _)))))))
  have f7 : 0 ≤ 0 + (1 * τ 19004 + 0) := hf _ (List.Mem.tail _ (List.Mem.tail _ (List.Mem.tail _ (List.Mem.tail _ (List.Mem.tail _ (List.Mem.tail _ (List.Mem.tail _ (List.Mem.head _))))))))
  have f8 : 0 ≤ 0 + (1 * τ 19005 + 0) := hf _ (List.Mem.tail _ (List.Mem.tail _ (List.Mem.tail _ (List.Mem.tail _ (List.Mem.tail _ (List.Mem.tail _ (List.Mem.tail _ (List.Mem.tail _ (List.Mem.head _)))))))))
  clear hf hm
  have ej : a1 = 3 := by omega
  subst ej
  have ek : a3 = 1 := by omega
  subst ek
  simp only [lw_sel0, lw_sel1, lw_sel2, lw_sel3]
  refine Or.inr ⟨by omega, fun h => ?_⟩
  obtain ⟨z0, z1, z2, z3, z4, z5, z6, z7, z8, z9, z10, z11⟩ := h
  omega
theorem lw_pm_47 {as : List rv_A} {σ σ' : Nat → Int} {o : rv_O} {x : Int32} {a1 a2 a3 a4 a5 : Int} {τ : Nat → Int} (hx : o.1 = some (.inl x)) (h1 : lw_av as 1 = a1) (h2 : lw_av as 2 = a2) (h3 : lw_av as 3 = a3) (h4 : lw_av as 4 = a4) (h5 : lw_av as 5 = a5) (hb : ∀ s, (sx_sr s).1 ≤ σ s ∧ σ s ≤ (sx_sr s).2) (hW : lw_W ([], [((-1), [(18506, (-1))]), ((-1), [(19001, 1)]), (1, [(19001, (-1))]), (0, [(19002, 1)]), (0, [(19003, 1)]), (3, [(19003, (-1))]), (0, [(19004, 1)]), (0, [(19005, 1)])], [(12800, (2, []))], some (false, (0, []))) as σ σ' τ o) : lw_pm_C a1 a2 a3 a4 a5 x.toInt σ σ' := by
  unfold lw_pm_C
  have b18501 : 0 ≤ σ 18501 ∧ σ 18501 ≤ 3 := by
    have h0 := hb 18501
    rw [show sx_sr 18501 = (0, 3) from by decide +kernel] at h0
    exact h0
  have b18502 : 0 ≤ σ 18502 ∧ σ 18502 ≤ 3 := by
    have h0 := hb 18502
    rw [show sx_sr 18502 = (0, 3) from by decide +kernel] at h0
    exact h0
  have b18503 : 0 ≤ σ 18503 ∧ σ 18503 ≤ 3 := by
    have h0 := hb 18503
    rw [show sx_sr 18503 = (0, 3) from by decide +kernel] at h0
    exact h0
  have b18504 : 0 ≤ σ 18504 ∧ σ 18504 ≤ 3 := by
    have h0 := hb 18504
    rw [show sx_sr 18504 = (0, 3) from by decide +kernel] at h0
    exact h0
  have b18505 : (-1) ≤ σ 18505 ∧ σ 18505 ≤ 60 := by
    have h0 := hb 18505
    rw [show sx_sr 18505 = ((-1), 60) from by decide +kernel] at h0
    exact h0
  have b18506 : (-1) ≤ σ 18506 ∧ σ 18506 ≤ 60 := by
    have h0 := hb 18506
    rw [show sx_sr 18506 = ((-1), 60) from by decide +kernel] at h0
    exact h0
  have b18507 : (-1) ≤ σ 18507 ∧ σ 18507 ≤ 60 := by
    have h0 := hb 18507
    rw [show sx_sr 18507 = ((-1), 60) from by decide +kernel] at h0
    exact h0
  have b18508 : (-1) ≤ σ 18508 ∧ σ 18508 ≤ 60 := by
    have h0 := hb 18508
    rw [show sx_sr 18508 = ((-1), 60) from by decide +kernel] at h0
    exact h0
  obtain ⟨hs, ht, hf, hr, hm, hw⟩ := hW
  have e1 : τ 19001 = a1 := by rw [ht 19001 (by decide) (by decide)]; exact h1
  have e2 : τ 19002 = a2 := by rw [ht 19002 (by decide) (by decide)]; exact h2
  have e3 : τ 19003 = a3 := by rw [ht 19003 (by decide) (by decide)]; exact h3
  have e4 : τ 19004 = a4 := by rw [ht 19004 (by decide) (by decide)]; exact h4
  have e5 : τ 19005 = a5 := by rw [ht 19005 (by decide) (by decide)]; exact h5
  have s18501 : τ 18501 = σ 18501 := hs 18501 (by decide)
  have s18502 : τ 18502 = σ 18502 := hs 18502 (by decide)
  have s18503 : τ 18503 = σ 18503 := hs 18503 (by decide)
  have s18504 : τ 18504 = σ 18504 := hs 18504 (by decide)
  have s18505 : τ 18505 = σ 18505 := hs 18505 (by decide)
  have s18506 : τ 18506 = σ 18506 := hs 18506 (by decide)
  have s18507 : τ 18507 = σ 18507 := hs 18507 (by decide)
  have s18508 : τ 18508 = σ 18508 := hs 18508 (by decide)
  clear hs ht hb
  rw [hx] at hr
  obtain ⟨y, hy, hv⟩ := hr
  cases hy
  replace hv : x.toInt = 0 + 0 := hv
  have f0 : 0 ≤ (-1) + ((-1) * τ 18506 + 0) := hf _ (List.Mem.head _)
  have f1 : 0 ≤ (-1) + (1 * τ 19001 + 0) := hf _ (List.Mem.tail _ (List.Mem.head _))
  have f2 : 0 ≤ 1 + ((-1) * τ 19001 + 0) := hf _ (List.Mem.tail _ (List.Mem.tail _ (List.Mem.head _)))
  have f3 : 0 ≤ 0 + (1 * τ 19002 + 0) := hf _ (List.Mem.tail _ (List.Mem.tail _ (List.Mem.tail _ (List.Mem.head _))))
  have f4 : 0 ≤ 0 + (1 * τ 19003 + 0) := hf _ (List.Mem.tail _ (List.Mem.tail _ (List.Mem.tail _ (List.Mem.tail _ (List.Mem.head _)))))
  have f5 : 0 ≤ 3 + ((-1) * τ 19003 + 0) := hf _ (List.Mem.tail _ (List.Mem.tail _ (List.Mem.tail _ (List.Mem.tail _ (List.Mem.tail _ (List.Mem.head _))))))
  have f6 : 0 ≤ 0 + (1 * τ 19004 + 0) := hf _ (List.Mem.tail _ (List.Mem.tail _ (List.Mem.tail _ (List.Mem.tail _ (List.Mem.tail _ (List.Mem.tail _ (List.Mem.head _)))))))
  have f7 : 0 ≤ 0 + (1 * τ 19005 + 0) := hf _ (List.Mem.tail _ (List.Mem.tail _ (List.Mem.tail _ (List.Mem.tail _ (List.Mem.tail _ (List.Mem.tail _ (List.Mem.tail _ (List.Mem.head _))))))))
  clear hf hm
  have ej : a1 = 1 := by omega
  subst ej
  simp only [lw_sel0, lw_sel1, lw_sel2, lw_sel3]
  refine Or.inr ⟨by omega, fun h => ?_⟩
  obtain ⟨z0, z1, z2, z3, z4, z5, z6, z7, z8, z9, z10, z11⟩ := h
  omega
theorem lw_pm_48 {as : List rv_A} {σ σ' : Nat → Int} {o : rv_O} {x : Int32} {a1 a2 a3 a4 a5 : Int} {τ : Nat → Int} (hx : o.1 = some (.inl x)) (h1 : lw_av as 1 = a1) (h2 : lw_av as 2 = a2) (h3 : lw_av as 3 = a3) (h4 : lw_av as 4 = a4) (h5 : lw_av as 5 = a5) (hb : ∀ s, (sx_sr s).1 ≤ σ s ∧ σ s ≤ (sx_sr s).2) (hW : lw_W ([], [(0, [(18506, 1)]), ((-1), [(18507, (-1))]), ((-1), [(19001, 1)]), (1, [(19001, (-1))]), (0, [(19002, 1)]), ((-2), [(19003, 1)]), (2, [(19003, (-1))]), (0, [(19004, 1)]), (0, [(19005, 1)])], [(12800, (2, []))], some (false, (0, []))) as σ σ' τ o) : lw_pm_C a1 a2 a3 a4 a5 x.toInt σ σ' := by
  unfold lw_pm_C
  have b18501 : 0 ≤ σ 18501 ∧ σ 18501 ≤ 3 := by
    have h0 := hb 18501
    rw [show sx_sr 18501 = (0, 3) from by decide +kernel] at h0
    exact h0
  have b18502 : 0 ≤ σ 18502 ∧ σ 18502 ≤ 3 := by
    have h0 := hb 18502
    rw [show sx_sr 18502 = (0, 3) from by decide +kernel] at h0
    exact h0
  have b18503 : 0 ≤ σ 18503 ∧ σ 18503 ≤ 3 := by
    have h0 := hb 18503
    rw [show sx_sr 18503 = (0, 3) from by decide +kernel] at h0
    exact h0
  have b18504 : 0 ≤ σ 18504 ∧ σ 18504 ≤ 3 := by
    have h0 := hb 18504
    rw [show sx_sr 18504 = (0, 3) from by decide +kernel] at h0
    exact h0
  have b18505 : (-1) ≤ σ 18505 ∧ σ 18505 ≤ 60 := by
    have h0 := hb 18505
    rw [show sx_sr 18505 = ((-1), 60) from by decide +kernel] at h0
    exact h0
  have b18506 : (-1) ≤ σ 18506 ∧ σ 18506 ≤ 60 := by
    have h0 := hb 18506
    rw [show sx_sr 18506 = ((-1), 60) from by decide +kernel] at h0
    exact h0
  have b18507 : (-1) ≤ σ 18507 ∧ σ 18507 ≤ 60 := by
    have h0 := hb 18507
    rw [show sx_sr 18507 = ((-1), 60) from by decide +kernel] at h0
    exact h0
  have b18508 : (-1) ≤ σ 18508 ∧ σ 18508 ≤ 60 := by
    have h0 := hb 18508
    rw [show sx_sr 18508 = ((-1), 60) from by decide +kernel] at h0
    exact h0
  obtain ⟨hs, ht, hf, hr, hm, hw⟩ := hW
  have e1 : τ 19001 = a1 := by rw [ht 19001 (by decide) (by decide)]; exact h1
  have e2 : τ 19002 = a2 := by rw [ht 19002 (by decide) (by decide)]; exact h2
  have e3 : τ 19003 = a3 := by rw [ht 19003 (by decide) (by decide)]; exact h3
  have e4 : τ 19004 = a4 := by rw [ht 19004 (by decide) (by decide)]; exact h4
  have e5 : τ 19005 = a5 := by rw [ht 19005 (by decide) (by decide)]; exact h5
  have s18501 : τ 18501 = σ 18501 := hs 18501 (by decide)
  have s18502 : τ 18502 = σ 18502 := hs 18502 (by decide)
  have s18503 : τ 18503 = σ 18503 := hs 18503 (by decide)
  have s18504 : τ 18504 = σ 18504 := hs 18504 (by decide)
  have s18505 : τ 18505 = σ 18505 := hs 18505 (by decide)
  have s18506 : τ 18506 = σ 18506 := hs 18506 (by decide)
  have s18507 : τ 18507 = σ 18507 := hs 18507 (by decide)
  have s18508 : τ 18508 = σ 18508 := hs 18508 (by decide)
  clear hs ht hb
  rw [hx] at hr
  obtain ⟨y, hy, hv⟩ := hr
  cases hy
  replace hv : x.toInt = 0 + 0 := hv
  have f0 : 0 ≤ 0 + (1 * τ 18506 + 0) := hf _ (List.Mem.head _)
  have f1 : 0 ≤ (-1) + ((-1) * τ 18507 + 0) := hf _ (List.Mem.tail _ (List.Mem.head _))
  have f2 : 0 ≤ (-1) + (1 * τ 19001 + 0) := hf _ (List.Mem.tail _ (List.Mem.tail _ (List.Mem.head _)))
  have f3 : 0 ≤ 1 + ((-1) * τ 19001 + 0) := hf _ (List.Mem.tail _ (List.Mem.tail _ (List.Mem.tail _ (List.Mem.head _))))
  have f4 : 0 ≤ 0 + (1 * τ 19002 + 0) := hf _ (List.Mem.tail _ (List.Mem.tail _ (List.Mem.tail _ (List.Mem.tail _ (List.Mem.head _)))))
  have f5 : 0 ≤ (-2) + (1 * τ 19003 + 0) := hf _ (List.Mem.tail _ (List.Mem.tail _ (List.Mem.tail _ (List.Mem.tail _ (List.Mem.tail _ (List.Mem.head _))))))
  have f6 : 0 ≤ 2 + ((-1) * τ 19003 + 0) := hf _ (List.Mem.tail _ (List.Mem.tail _ (List.Mem.tail _ (List.Mem.tail _ (List.Mem.tail _ (List.Mem.tail _ (List.Mem.head _)))))))
  have f7 : 0 ≤ 0 + (1 * τ 19004 + 0) := hf _ (List.Mem.tail _ (List.Mem.tail _ (List.Mem.tail _ (List.Mem.tail _ (List.Mem.tail _ (List.Mem.tail _ (List.Mem.tail _ (List.Mem.head _))))))))
  have f8 : 0 ≤ 0 + (1 * τ 19005 + 0) := hf _ (List.Mem.tail _ (List.Mem.tail _ (List.Mem.tail _ (List.Mem.tail _ (List.Mem.tail _ (List.Mem.tail _ (List.Mem.tail _ (List.Mem.tail _ (List.Mem.head _)))))))))
  clear hf hm
  have ej : a1 = 1 := by omega
  subst ej
  have ek : a3 = 2 := by omega
  subst ek
  simp only [lw_sel0, lw_sel1, lw_sel2, lw_sel3]
  refine Or.inr ⟨by omega, fun h => ?_⟩
  obtain ⟨z0, z1, z2, z3, z4, z5, z6, z7, z8, z9, z10, z11⟩ := h
  omega
theorem lw_pm_49 {as : List rv_A} {σ σ' : Nat → Int} {o : rv_O} {x : Int32} {a1 a2 a3 a4 a5 : Int} {τ : Nat → Int} (hx : o.1 = some (.inl x)) (h1 : lw_av as 1 = a1) (h2 : lw_av as 2 = a2) (h3 : lw_av as 3 = a3) (h4 : lw_av as 4 = a4) (h5 : lw_av as 5 = a5) (hb : ∀ s, (sx_sr s).1 ≤ σ s ∧ σ s ≤ (sx_sr s).2) (hW : lw_W ([], [(0, [(18506, 1)]), (0, [(18507, 1)]), ((-1), [(19001, 1)]), (1, [(19001, (-1))]), (0, [(19002, 1)]), ((-2), [(19003, 1)]), (2, [(19003, (-1))]), (0, [(19004, 1)]), (0, [(19005, 1)]), ((-1), [(18506, (-1)), (19002, 1), (19005, 1)]), (0, [(18502, (-1)), (18503, 1)]), (0, [(18502, 1), (18503, (-1))])], [(12800, (3, []))], some (false, (0, []))) as σ σ' τ o) : lw_pm_C a1 a2 a3 a4 a5 x.toInt σ σ' := by
  unfold lw_pm_C
  have b18501 : 0 ≤ σ 18501 ∧ σ 18501 ≤ 3 := by
    have h0 := hb 18501
    rw [show sx_sr 18501 = (0, 3) from by decide +kernel] at h0
    exact h0
  have b18502 : 0 ≤ σ 18502 ∧ σ 18502 ≤ 3 := by
    have h0 := hb 18502
    rw [show sx_sr 18502 = (0, 3) from by decide +kernel] at h0
    exact h0
  have b18503 : 0 ≤ σ 18503 ∧ σ 18503 ≤ 3 := by
    have h0 := hb 18503
    rw [show sx_sr 18503 = (0, 3) from by decide +kernel] at h0
    exact h0
  have b18504 : 0 ≤ σ 18504 ∧ σ 18504 ≤ 3 := by
    have h0 := hb 18504
    rw [show sx_sr 18504 = (0, 3) from by decide +kernel] at h0
    exact h0
  have b18505 : (-1) ≤ σ 18505 ∧ σ 18505 ≤ 60 := by
    have h0 := hb 18505
    rw [show sx_sr 18505 = ((-1), 60) from by decide +kernel] at h0
    exact h0
  have b18506 : (-1) ≤ σ 18506 ∧ σ 18506 ≤ 60 := by
    have h0 := hb 18506
    rw [show sx_sr 18506 = ((-1), 60) from by decide +kernel] at h0
    exact h0
  have b18507 : (-1) ≤ σ 18507 ∧ σ 18507 ≤ 60 := by
    have h0 := hb 18507
    rw [show sx_sr 18507 = ((-1), 60) from by decide +kernel] at h0
    exact h0
  have b18508 : (-1) ≤ σ 18508 ∧ σ 18508 ≤ 60 := by
    have h0 := hb 18508
    rw [show sx_sr 18508 = ((-1), 60) from by decide +kernel] at h0
    exact h0
  obtain ⟨hs, ht, hf, hr, hm, hw⟩ := hW
  have e1 : τ 19001 = a1 := by rw [ht 19001 (by decide) (by decide)]; exact h1
  have e2 : τ 19002 = a2 := by rw [ht 19002 (by decide) (by decide)]; exact h2
  have e3 : τ 19003 = a3 := by rw [ht 19003 (by decide) (by decide)]; exact h3
  have e4 : τ 19004 = a4 := by rw [ht 19004 (by decide) (by decide)]; exact h4
  have e5 : τ 19005 = a5 := by rw [ht 19005 (by decide) (by decide)]; exact h5
  have s18501 : τ 18501 = σ 18501 := hs 18501 (by decide)
  have s18502 : τ 18502 = σ 18502 := hs 18502 (by decide)
  have s18503 : τ 18503 = σ 18503 := hs 18503 (by decide)
  have s18504 : τ 18504 = σ 18504 := hs 18504 (by decide)
  have s18505 : τ 18505 = σ 18505 := hs 18505 (by decide)
  have s18506 : τ 18506 = σ 18506 := hs 18506 (by decide)
  have s18507 : τ 18507 = σ 18507 := hs 18507 (by decide)
  have s18508 : τ 18508 = σ 18508 := hs 18508 (by decide)
  clear hs ht hb
  rw [hx] at hr
  obtain ⟨y, hy, hv⟩ := hr
  cases hy
  replace hv : x.toInt = 0 + 0 := hv
  have f0 : 0 ≤ 0 + (1 * τ 18506 + 0) := hf _ (List.Mem.head _)
  have f1 : 0 ≤ 0 + (1 * τ 18507 + 0) := hf _ (List.Mem.tail _ (List.Mem.head _))
  have f2 : 0 ≤ (-1) + (1 * τ 19001 + 0) := hf _ (List.Mem.tail _ (List.Mem.tail _ (List.Mem.head _)))
  have f3 : 0 ≤ 1 + ((-1) * τ 19001 + 0) := hf _ (List.Mem.tail _ (List.Mem.tail _ (List.Mem.tail _ (List.Mem.head _))))
  have f4 : 0 ≤ 0 + (1 * τ 19002 + 0) := hf _ (List.Mem.tail _ (List.Mem.tail _ (List.Mem.tail _ (List.Mem.tail _ (List.Mem.head _)))))
  have f5 : 0 ≤ (-2) + (1 * τ 19003 + 0) := hf _ (List.Mem.tail _ (List.Mem.tail _ (List.Mem.tail _ (List.Mem.tail _ (List.Mem.tail _ (List.Mem.head _))))))
  have f6 : 0 ≤ 2 + ((-1) * τ 19003 + 0) := hf _ (List.Mem.tail _ (List.Mem.tail _ (List.Mem.tail _ (List.Mem.tail _ (List.Mem.tail _ (List.Mem.tail _ (List.Mem.head _)))))))
  have f7 : 0 ≤ 0 + (1 * τ 19004 + 0) := hf _ (List.Mem.tail _ (List.Mem.tail _ (List.Mem.tail _ (List.Mem.tail _ (List.Mem.tail _ (List.Mem.tail _ (List.Mem.tail _ (List.Mem.head _))))))))
  have f8 : 0 ≤ 0 + (1 * τ 19005 + 0) := hf _ (List.Mem.tail _ (List.Mem.tail _ (List.Mem.tail _ (List.Mem.tail _ (List.Mem.tail _ (List.Mem.tail _ (List.Mem.tail _ (List.Mem.tail _ (List.Mem.head _)))))))))
  have f9 : 0 ≤ (-1) + ((-1) * τ 18506 + (1 * τ 19002 + (1 * τ 19005 + 0))) := hf _ (List.Mem.tail _ (List.Mem.tail _ (List.Mem.tail _ (List.Mem.tail _ (List.Mem.tail _ (List.Mem.tail _ (List.Mem.tail _ (List.Mem.tail _ (List.Mem.tail _ (List.Mem.head _))))))))))
  have f10 : 0 ≤ 0 + ((-1) * τ 18502 + (1 * τ 18503 + 0)) := hf _ (List.Mem.tail _ (List.Mem.tail _ (List.Mem.tail _ (List.Mem.tail _ (List.Mem.tail _ (List.Mem.tail _ (List.Mem.tail _ (List.Mem.tail _ (List.Mem.tail _ (List.Mem.tail _ (List.Mem.head _)))))))))))
  have f11 : 0 ≤ 0 + (1 * τ 18502 + ((-1) * τ 18503 + 0)) := hf _ (List.Mem.tail _ (List.Mem.tail _ (List.Mem.tail _ (List.Mem.tail _ (List.Mem.tail _ (List.Mem.tail _ (List.Mem.tail _ (List.Mem.tail _ (List.Mem.tail _ (List.Mem.tail _ (List.Mem.tail _ (List.Mem.head _))))))))))))
  clear hf hm
  have ej : a1 = 1 := by omega
  subst ej
  have ek : a3 = 2 := by omega
  subst ek
  simp only [lw_sel0, lw_sel1, lw_sel2, lw_sel3]
  refine Or.inr ⟨by omega, fun h => ?_⟩
  obtain ⟨z0, z1, z2, z3, z4, z5, z6, z7, z8, z9, z10, z11⟩ := h
  omega
theorem lw_pm_50 {as : List rv_A} {σ σ' : Nat → Int} {o : rv_O} {x : Int32} {a1 a2 a3 a4 a5 : Int} {τ : Nat → Int} (hx : o.1 = some (.inl x)) (h1 : lw_av as 1 = a1) (h2 : lw_av as 2 = a2) (h3 : lw_av as 3 = a3) (h4 : lw_av as 4 = a4) (h5 : lw_av as 5 = a5) (hb : ∀ s, (sx_sr s).1 ≤ σ s ∧ σ s ≤ (sx_sr s).2) (hW : lw_W ([], [(0, [(18506, 1)]), (0, [(18507, 1)]), ((-1), [(19001, 1)]), (1, [(19001, (-1))]), (0, [(19002, 1)]), (60, [(19002, (-1))]), ((-2), [(19003, 1)]), (2, [(19003, (-1))]), (0, [(19004, 1)]), (0, [(19005, 1)]), (60, [(19005, (-1))]), ((-1), [(18507, (-1)), (19004, 1), (19005, 1)]), (0, [(18506, 1), (19002, (-1)), (19005, (-1))]), (0, [(18502, (-1)), (18503, 1)]), (0, [(18502, 1), (18503, (-1))])], [(12800, (3, []))], some (false, (0, []))) as σ σ' τ o) : lw_pm_C a1 a2 a3 a4 a5 x.toInt σ σ' := by
  unfold lw_pm_C
  have b18501 : 0 ≤ σ 18501 ∧ σ 18501 ≤ 3 := by
    have h0 := hb 18501
    rw [show sx_sr 18501 = (0, 3) from by decide +kernel] at h0
    exact h0
  have b18502 : 0 ≤ σ 18502 ∧ σ 18502 ≤ 3 := by
    have h0 := hb 18502
    rw [show sx_sr 18502 = (0, 3) from by decide +kernel] at h0
    exact h0
  have b18503 : 0 ≤ σ 18503 ∧ σ 18503 ≤ 3 := by
    have h0 := hb 18503
    rw [show sx_sr 18503 = (0, 3) from by decide +kernel] at h0
    exact h0
  have b18504 : 0 ≤ σ 18504 ∧ σ 18504 ≤ 3 := by
    have h0 := hb 18504
    rw [show sx_sr 18504 = (0, 3) from by decide +kernel] at h0
    exact h0
  have b18505 : (-1) ≤ σ 18505 ∧ σ 18505 ≤ 60 := by
    have h0 := hb 18505
    rw [show sx_sr 18505 = ((-1), 60) from by decide +kernel] at h0
    exact h0
  have b18506 : (-1) ≤ σ 18506 ∧ σ 18506 ≤ 60 := by
    have h0 := hb 18506
    rw [show sx_sr 18506 = ((-1), 60) from by decide +kernel] at h0
    exact h0
  have b18507 : (-1) ≤ σ 18507 ∧ σ 18507 ≤ 60 := by
    have h0 := hb 18507
    rw [show sx_sr 18507 = ((-1), 60) from by decide +kernel] at h0
    exact h0
  have b18508 : (-1) ≤ σ 18508 ∧ σ 18508 ≤ 60 := by
    have h0 := hb 18508
    rw [show sx_sr 18508 = ((-1), 60) from by decide +kernel] at h0
    exact h0
  obtain ⟨hs, ht, hf, hr, hm, hw⟩ := hW
  have e1 : τ 19001 = a1 := by rw [ht 19001 (by decide) (by decide)]; exact h1
  have e2 : τ 19002 = a2 := by rw [ht 19002 (by decide) (by decide)]; exact h2
  have e3 : τ 19003 = a3 := by rw [ht 19003 (by decide) (by decide)]; exact h3
  have e4 : τ 19004 = a4 := by rw [ht 19004 (by decide) (by decide)]; exact h4
  have e5 : τ 19005 = a5 := by rw [ht 19005 (by decide) (by decide)]; exact h5
  have s18501 : τ 18501 = σ 18501 := hs 18501 (by decide)
  have s18502 : τ 18502 = σ 18502 := hs 18502 (by decide)
  have s18503 : τ 18503 = σ 18503 := hs 18503 (by decide)
  have s18504 : τ 18504 = σ 18504 := hs 18504 (by decide)
  have s18505 : τ 18505 = σ 18505 := hs 18505 (by decide)
  have s18506 : τ 18506 = σ 18506 := hs 18506 (by decide)
  have s18507 : τ 18507 = σ 18507 := hs 18507 (by decide)
  have s18508 : τ 18508 = σ 18508 := hs 18508 (by decide)
  clear hs ht hb
  rw [hx] at hr
  obtain ⟨y, hy, hv⟩ := hr
  cases hy
  replace hv : x.toInt = 0 + 0 := hv
  have f0 : 0 ≤ 0 + (1 * τ 18506 + 0) := hf _ (List.Mem.head _)
  have f1 : 0 ≤ 0 + (1 * τ 18507 + 0) := hf _ (List.Mem.tail _ (List.Mem.head _))
  have f2 : 0 ≤ (-1) + (1 * τ 19001 + 0) := hf _ (List.Mem.tail _ (List.Mem.tail _ (List.Mem.head _)))
  have f3 : 0 ≤ 1 + ((-1) * τ 19001 + 0) := hf _ (List.Mem.tail _ (List.Mem.tail _ (List.Mem.tail _ (List.Mem.head _))))
  have f4 : 0 ≤ 0 + (1 * τ 19002 + 0) := hf _ (List.Mem.tail _ (List.Mem.tail _ (List.Mem.tail _ (List.Mem.tail _ (List.Mem.head _)))))
  have f5 : 0 ≤ 60 + ((-1) * τ 19002 + 0) := hf _ (List.Mem.tail _ (List.Mem.tail _ (List.Mem.tail _ (List.Mem.tail _ (List.Mem.tail _ (List.Mem.head _))))))
  have f6 : 0 ≤ (-2) + (1 * τ 19003 + 0) := hf _ (List.Mem.tail _ (List.Mem.tail _ (List.Mem.tail _ (List.Mem.tail _ (List.Mem.tail _ (List.Mem.tail _ (List.Mem.head _)))))))
  have f7 : 0 ≤ 2 + ((-1) * τ 19003 + 0) := hf _ (List.Mem.tail _ (List.Mem.tail _ (List.Mem.tail _ (List.Mem.tail _ (List.Mem.tail _ (List.Mem.tail _ (List.Mem.tail _ (List.Mem.head _))))))))
  have f8 : 0 ≤ 0 + (1 * τ 19004 + 0) := hf _ (List.Mem.tail _ (List.Mem.tail _ (List.Mem.tail _ (List.Mem.tail _ (List.Mem.tail _ (List.Mem.tail _ (List.Mem.tail _ (List.Mem.tail _ (List.Mem.head _)))))))))
  have f9 : 0 ≤ 0 + (1 * τ 19005 + 0) := hf _ (List.Mem.tail _ (List.Mem.tail _ (List.Mem.tail _ (List.Mem.tail _ (List.Mem.tail _ (List.Mem.tail _ (List.Mem.tail _ (List.Mem.tail _ (List.Mem.tail _ (List.Mem.head _))))))))))
  have f10 : 0 ≤ 60 + ((-1) * τ 19005 + 0) := hf _ (List.Mem.tail _ (List.Mem.tail _ (List.Mem.tail _ (List.Mem.tail _ (List.Mem.tail _ (List.Mem.tail _ (List.Mem.tail _ (List.Mem.tail _ (List.Mem.tail _ (List.Mem.tail _ (List.Mem.head _)))))))))))
  have f11 : 0 ≤ (-1) + ((-1) * τ 18507 + (1 * τ 19004 + (1 * τ 19005 + 0))) := hf _ (List.Mem.tail _ (List.Mem.tail _ (List.Mem.tail _ (List.Mem.tail _ (List.Mem.tail _ (List.Mem.tail _ (List.Mem.tail _ (List.Mem.tail _ (List.Mem.tail _ (List.Mem.tail _ (List.Mem.tail _ (List.Mem.head _))))))))))))
  have f12 : 0 ≤ 0 + (1 * τ 18506 + ((-1) * τ 19002 + ((-1) * τ 19005 + 0))) := hf _ (List.Mem.tail _ (List.Mem.tail _ (List.Mem.tail _ (List.Mem.tail _ (List.Mem.tail _ (List.Mem.tail _ (List.Mem.tail _ (List.Mem.tail _ (List.Mem.tail _ (List.Mem.tail _ (List.Mem.tail _ (List.Mem.tail _ (List.Mem.head _)))))))))))))
  have f13 : 0 ≤ 0 + ((-1) * τ 18502 + (1 * τ 18503 + 0)) := hf _ (List.Mem.tail _ (List.Mem.tail _ (List.Mem.tail _ (List.Mem.tail _ (List.Mem.tail _ (List.Mem.tail _ (List.Mem.tail _ (List.Mem.tail _ (List.Mem.tail _ (List.Mem.tail _ (List.Mem.tail _ (List.Mem.tail _ (List.Mem.tail _ (List.Mem.head _))))))))))))))
  have f14 : 0 ≤ 0 + (1 * τ 18502 + ((-1) * τ 18503 + 0)) := hf _ (List.Mem.tail _ (List.Mem.tail _ (List.Mem.tail _ (List.Mem.tail _ (List.Mem.tail _ (List.Mem.tail _ (List.Mem.tail _ (List.Mem.tail _ (List.Mem.tail _ (List.Mem.tail _ (List.Mem.tail _ (List.Mem.tail _ (List.Mem.tail _ (List.Mem.tail _ (List.Mem.head _)))))))))))))))
  clear hf hm
  have ej : a1 = 1 := by omega
  subst ej
  have ek : a3 = 2 := by omega
  subst ek
  simp only [lw_sel0, lw_sel1, lw_sel2, lw_sel3]
  refine Or.inr ⟨by omega, fun h => ?_⟩
  obtain ⟨z0, z1, z2, z3, z4, z5, z6, z7, z8, z9, z10, z11⟩ := h
  omega
