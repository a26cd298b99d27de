theorem lw_pm_81 {as : List rv_A} {σ σ' : Nat → Int} {o : rv_O} {x : Int32} {a1 a2 a3 a4 a5 : Int} {τ : Nat → Int} (hx : o.1 = some (.inl x)) (h1 : lw_av as 1 = a1) (h2 : lw_av as 2 = a2) (h3 : lw_av as 3 = a3) (h4 : lw_av as 4 = a4) (h5 : lw_av as 5 = a5) (hb : ∀ s, (sx_sr s).1 ≤ σ s ∧ σ s ≤ (sx_sr s).2) (hW : lw_W ([], [(0, [(18505, 1)]), (0, [(18507, 1)]), (0, [(19001, 1)]), (0, [(19001, (-1))]), (0, [(19002, 1)]), (60, [(19002, (-1))]), ((-2), [(19003, 1)]), (2, [(19003, (-1))]), (0, [(19004, 1)]), (60, [(19004, (-1))]), (0, [(19005, 1)]), (60, [(19005, (-1))]), (0, [(18507, 1), (19004, (-1)), (19005, (-1))]), (0, [(18505, 1), (19002, (-1)), (19005, (-1))]), (0, [(18501, (-1)), (18503, 1)]), (0, [(18501, 1), (18503, (-1))])], [(12800, (0, []))], some (false, (1, []))) as σ σ' τ o) : lw_pm_C a1 a2 a3 a4 a5 x.toInt σ σ' := by
  unfold lw_pm_C
  have b18501 : 0 ≤ σ 18501 ∧ σ 18501 ≤ 3 := by
    have h0 := hb 18501
    rw [show sx_sr 18501 = (0, 3) from by decide +kernel] at h0
    exact h0
  have b18502 : 0 ≤ σ 18502 ∧ σ 18502 ≤ 3 := by
    have h0 := hb 18502
    rw [show sx_sr 18502 = (0, 3) from by decide +kernel] at h0
    exact h0
  have b18503 : 0 ≤ σ 18503 ∧ σ 18503 ≤ 3 := by
    have h0 := hb 18503
    rw [show sx_sr 18503 = (0, 3) from by decide +kernel] at h0
    exact h0
  have b18504 : 0 ≤ σ 18504 ∧ σ 18504 ≤ 3 := by
    have h0 := hb 18504
    rw [show sx_sr 18504 = (0, 3) from by decide +kernel] at h0
    exact h0
  have b18505 : (-1) ≤ σ 18505 ∧ σ 18505 ≤ 60 := by
    have h0 := hb 18505
    rw [show sx_sr 18505 = ((-1), 60) from by decide +kernel] at h0
    exact h0
  have b18506 : (-1) ≤ σ 18506 ∧ σ 18506 ≤ 60 := by
    have h0 := hb 18506
    rw [show sx_sr 18506 = ((-1), 60) from by decide +kernel] at h0
    exact h0
  have b18507 : (-1) ≤ σ 18507 ∧ σ 18507 ≤ 60 := by
    have h0 := hb 18507
    rw [show sx_sr 18507 = ((-1), 60) from by decide +kernel] at h0
    exact h0
  have b18508 : (-1) ≤ σ 18508 ∧ σ 18508 ≤ 60 := by
    have h0 := hb 18508
    rw [show sx_sr 18508 = ((-1), 60) from by decide +kernel] at h0
    exact h0
  obtain ⟨hs, ht, hf, hr, hm, hw⟩ := hW
  have e1 : τ 19001 = a1 := by rw [ht 19001 (by decide) (by decide)]; exact h1
  have e2 : τ 19002 = a2 := by rw [ht 19002 (by decide) (by decide)]; exact h2
  have e3 : τ 19003 = a3 := by rw [ht 19003 (by decide) (by decide)]; exact h3
  have e4 : τ 19004 = a4 := by rw [ht 19004 (by decide) (by decide)]; exact h4
  have e5 : τ 19005 = a5 := by rw [ht 19005 (by decide) (by decide)]; exact h5
  have s18501 : τ 18501 = σ 18501 := hs 18501 (by decide)
  have s18502 : τ 18502 = σ 18502 := hs 18502 (by decide)
  have s18503 : τ 18503 = σ 18503 := hs 18503 (by decide)
  have s18504 : τ 18504 = σ 18504 := hs 18504 (by decide)
  have s18505 : τ 18505 = σ 18505 := hs 18505 (by decide)
  have s18506 : τ 18506 = σ 18506 := hs 18506 (by decide)
  have s18507 : τ 18507 = σ 18507 := hs 18507 (by decide)
  have s18508 : τ 18508 = σ 18508 := hs 18508 (by decide)
  clear hs ht hb
  rw [hx] at hr
  obtain ⟨y, hy, hv⟩ := hr
  cases hy
  replace hv : x.toInt = 1 + 0 := hv
  have f0 : 0 ≤ 0 + (1 * τ 18505 + 0) := hf _ (List.Mem.head _)
  have f1 : 0 ≤ 0 + (1 * τ 18507 + 0) := hf _ (List.Mem.tail _ (List.Mem.head _))
  have f2 : 0 ≤ 0 + (1 * τ 19001 + 0) := hf _ (List.Mem.tail _ (List.Mem.tail _ (List.Mem.head _)))
  have f3 : 0 ≤ 0 + ((-1) * τ 19001 + 0) := hf _ (List.Mem.tail _ (List.Mem.tail _ (List.Mem.tail _ (List.Mem.head _))))
  have f4 : 0 ≤ 0 + (1 * τ 19002 + 0) := hf _ (List.Mem.tail _ (List.Mem.tail _ (List.Mem.tail _ (List.Mem.tail _ (List.Mem.head _)))))
  have f5 : 0 ≤ 60 + ((-1) * τ 19002 + 0) := hf _ (List.Mem.tail _ (List.Mem.tail _ (List.Mem.tail _ (List.Mem.tail _ (List.Mem.tail _ (List.Mem.head _))))))
  have f6 : 0 ≤ (-2) + (1 * τ 19003 + 0) := hf _ (List.Mem.tail _ (List.Mem.tail _ (List.Mem.tail _ (List.Mem.tail _ (List.Mem.tail _ (List.Mem.tail _ (List.Mem.head _)))))))
  have f7 : 0 ≤ 2 + ((-1) * τ 19003 + 0) := hf _ (List.Mem.tail _ (List.Mem.tail _ (List.Mem.tail _ (List.Mem.tail _ (List.Mem.tail _ (List.Mem.tail _ (List.Mem.tail _ (List.Mem.head _))))))))
  have f8 : 0 ≤ 0 + (1 * τ 19004 + 0) := hf _ (List.Mem.tail _ (List.Mem.tail _ (List.Mem.tail _ (List.Mem.tail _ (List.Mem.tail _ (List.Mem.tail _ (List.Mem.tail _ (List.Mem.tail _ (List.Mem.head _)))))))))
  have f9 : 0 ≤ 60 + ((-1) * τ 19004 + 0) := hf _ (List.Mem.tail _ (List.Mem.tail _ (List.Mem.tail _ (List.Mem.tail _ (List.Mem.tail _ (List.Mem.tail _ (List.Mem.tail _ (List.Mem.tail _ (List.Mem.tail _ (List.Mem.head _))))))))))
  have f10 : 0 ≤ 0 + (1 * τ 19005 + 0) := hf _ (List.Mem.tail _ (List.Mem.tail _ (List.Mem.tail _ (List.Mem.tail _ (List.Mem.tail _ (List.Mem.tail _ (List.Mem.tail _ (List.Mem.tail _ (List.Mem.tail _ (List.Mem.tail _ (List.Mem.head _)))))))))))
  have f11 : 0 ≤ 60 + ((-1) * τ 19005 + 0) := hf _ (List.Mem.tail _ (List.Mem.tail _ (List.Mem.tail _ (List.Mem.tail _ (List.Mem.tail _ (List.Mem.tail _ (List.Mem.tail _ (List.Mem.tail _ (List.Mem.tail _ (List.Mem.tail _ (List.Mem.tail _ (List.Mem.head _))))))))))))
  have f12 : 0 ≤ 0 + (1 * τ 18507 + ((-1) * τ 19004 + ((-1) * τ 19005 + 0))) := hf _ (List.Mem.tail _ (List.Mem.tail _ (List.Mem.tail _ (List.Mem.tail _ (List.Mem.tail _ (List.Mem.tail _ (List.Mem.tail _ (List.Mem.tail _ (List.Mem.tail _ (List.Mem.tail _ (List.Mem.tail _ (List.Mem.tail _ (List.Mem.head _)))))))))))))
  have f13 : 0 ≤ 0 + (1 * τ 18505 + ((-1) * τ 19002 + ((-1) * τ 19005 + 0))) := hf _ (List.Mem.tail _ (List.Mem.tail _ (List.Mem.tail _ (List.Mem.tail _ (List.Mem.tail _ (List.Mem.tail _ (List.Mem.tail _ (List.Mem.tail _ (List.Mem.tail _ (List.Mem.tail _ (List.Mem.tail _ (List.Mem.tail _ (List.Mem.tail _ (List.Mem.head _))))))))))))))
  have f14 : 0 ≤ 0 + ((-1) * τ 18501 + (1 * τ 18503 + 0)) := hf _ (List.Mem.tail _ (List.Mem.tail _ (List.Mem.tail _ (List.Mem.tail _ (List.Mem.tail _ (List.Mem.tail _ (List.Mem.tail _ (List.Mem.tail _ (List.Mem.tail _ (List.Mem.tail _ (List.Mem.tail _ (List.Mem.tail _ (List.Mem.tail _ (List.Mem.tail _ (List.Mem.head _)))))))))))))))
  have f15 : 0 ≤ 0 + (1 * τ 18501 + ((-1) * τ 18503 + 0)) := hf _ (List.Mem.tail _ (List.Mem.tail _ (List.Mem.tail _ (List.Mem.tail _ (List.Mem.tail _ (List.Mem.tail _ (List.Mem.tail _ (List.Mem.tail _ (List.Mem.tail _ (List.Mem.tail _ (List.Mem.tail _ (List.Mem.tail _ (List.Mem.tail _ (List.Mem.tail _ (List.Mem.tail _ (List.Mem.head _))))))))))))))))
  clear hf hm
  have ej : a1 = 0 := by omega
  subst ej
  have ek : a3 = 2 := by omega
  subst ek
  simp only [lw_sel0, lw_sel1, lw_sel2, lw_sel3]
  exact Or.inl ⟨by omega, by omega, by omega, by omega, by omega, by omega, by omega, by omega, by omega, by omega, by omega, by omega, by omega⟩
theorem lw_pm_82 {as : List rv_A} {σ σ' : Nat → Int} {o : rv_O} {x : Int32} {a1 a2 a3 a4 a5 : Int} {τ : Nat → Int} (hx : o.1 = some (.inl x)) (h1 : lw_av as 1 = a1) (h2 : lw_av as 2 = a2) (h3 : lw_av as 3 = a3) (h4 : lw_av as 4 = a4) (h5 : lw_av as 5 = a5) (hb : ∀ s, (sx_sr s).1 ≤ σ s ∧ σ s ≤ (sx_sr s).2) (hW : lw_W ([], [(0, [(18505, 1)]), (0, [(18507, 1)]), ((-2), [(19001, 1)]), (2, [(19001, (-1))]), (0, [(19002, 1)]), (60, [(19002, (-1))]), (0, [(19003, 1)]), (0, [(19003, (-1))]), (0, [(19004, 1)]), (60, [(19004, (-1))]), (0, [(19005, 1)]), (60, [(19005, (-1))]), (0, [(18505, 1), (19004, (-1)), (19005, (-1))]), (0, [(18507, 1), (19002, (-1)), (19005, (-1))]), (0, [(18501, 1), (18503, (-1))]), (0, [(18501, (-1)), (18503, 1)])], [(12800, (0, []))], some (false, (1, []))) as σ σ' τ o) : lw_pm_C a1 a2 a3 a4 a5 x.toInt σ σ' := by
  unfold lw_pm_C
  have b18501 : 0 ≤ σ 18501 ∧ σ 18501 ≤ 3 := by
    have h0 := hb 18501
    rw [show sx_sr 18501 = (0, 3) from by decide +kernel] at h0
    exact h0
  have b18502 : 0 ≤ σ 18502 ∧ σ 18502 ≤ 3 := by
    have h0 := hb 18502
    rw [show sx_sr 18502 = (0, 3) from by decide +kernel] at h0
    exact h0
  have b18503 : 0 ≤ σ 18503 ∧ σ 18503 ≤ 3 := by
    have h0 := hb 18503
    rw [show sx_sr 18503 = (0, 3) from by decide +kernel] at h0
    exact h0
  have b18504 : 0 ≤ σ 18504 ∧ σ 18504 ≤ 3 := by
    have h0 := hb 18504
    rw [show sx_sr 18504 = (0, 3) from by decide +kernel] at h0
    exact h0
  have b18505 : (-1) ≤ σ 18505 ∧ σ 18505 ≤ 60 := by
    have h0 := hb 18505
    rw [show sx_sr 18505 = ((-1), 60) from by decide +kernel] at h0
    exact h0
  have b18506 : (-1) ≤ σ 18506 ∧ σ 18506 ≤ 60 := by
    have h0 := hb 18506
    rw [show sx_sr 18506 = ((-1), 60) from by decide +kernel] at h0
    exact h0
  have b18507 : (-1) ≤ σ 18507 ∧ σ 18507 ≤ 60 := by
    have h0 := hb 18507
    rw [show sx_sr 18507 = ((-1), 60) from by decide +kernel] at h0
    exact h0
  have b18508 : (-1) ≤ σ 18508 ∧ σ 18508 ≤ 60 := by
    have h0 := hb 18508
    rw [show sx_sr 18508 = ((-1), 60) from by decide +kernel] at h0
    exact h0
  obtain ⟨hs, ht, hf, hr, hm, hw⟩ := hW
  have e1 : τ 19001 = a1 := by rw [ht 19001 (by decide) (by decide)]; exact h1
  have e2 : τ 19002 = a2 := by rw [ht 19002 (by decide) (by decide)]; exact h2
  have e3 : τ 19003 = a3 := by rw [ht 19003 (by decide) (by decide)]; exact h3
  have e4 : τ 19004 = a4 := by rw [ht 19004 (by decide) (by decide)]; exact h4
  have e5 : τ 19005 = a5 := by rw [ht 19005 (by decide) (by decide)]; exact h5
  have s18501 : τ 18501 = σ 18501 := hs 18501 (by decide)
  have s18502 : τ 18502 = σ 18502 := hs 18502 (by decide)
  have s18503 : τ 18503 = σ 18503 := hs 18503 (by decide)
  have s18504 : τ 18504 = σ 18504 := hs 18504 (by decide)
  have s18505 : τ 18505 = σ 18505 := hs 18505 (by decide)
  have s18506 : τ 18506 = σ 18506 := hs 18506 (by decide)
  have s18507 : τ 18507 = σ 18507 := hs 18507 (by decide)
  have s18508 : τ 18508 = σ 18508 := hs 18508 (by decide)
  clear hs ht hb
  rw [hx] at hr
  obtain ⟨y, hy, hv⟩ := hr
  cases hy
  replace hv : x.toInt = 1 + 0 := hv
  have f0 : 0 ≤ 0 + (1 * τ 18505 + 0) := hf _ (List.Mem.head _)
  have f1 : 0 ≤ 0 + (1 * τ 18507 + 0) := hf _ (List.Mem.tail _ (List.Mem.head _))
  have f2 : 0 ≤ (-2) + (1 * τ 19001 + 0) := hf _ (List.Mem.tail _ (List.Mem.tail _ (List.Mem.head _)))
  have f3 : 0 ≤ 2 + ((-1) * τ 19001 + 0) := hf _ (List.Mem.tail _ (List.Mem.tail _ (List.Mem.tail _ (List.Mem.head _))))
  have f4 : 0 ≤ 0 + (1 * τ 19002 + 0) := hf _ (List.Mem.tail _ (List.Mem.tail _ (List.Mem.tail _ (List.Mem.tail _ (List.Mem.head _)))))
  have f5 : 0 ≤ 60 + ((-1) * τ 19002 + 0) := hf _ (List.Mem.tail _ (List.Mem.tail _ (List.Mem.tail _ (List.Mem.tail _ (List.Mem.tail _ (List.Mem.head _))))))
  have f6 : 0 ≤ 0 + (1 * τ 19003 + 0) := hf _ (List.Mem.tail _ (List.Mem.tail _ (List.Mem.tail _ (List.Mem.tail _ (List.Mem.tail _ (List.Mem.tail _ (List.Mem.head _)))))))
  have f7 : 0 ≤ 0 + ((-1) * τ 19003 + 0) := hf _ (List.Mem.tail _ (List.Mem.tail _ (List.Mem.tail _ (List.Mem.tail _ (List.Mem.tail _ (List.Mem.tail _ (List.Mem.tail _ (List.Mem.head _))))))))
  have f8 : 0 ≤ 0 + (1 * τ 19004 + 0) := hf _ (List.Mem.tail _ (List.Mem.tail _ (List.Mem.tail _ (List.Mem.tail _ (List.Mem.tail _ (List.Mem.tail _ (List.Mem.tail _ (List.Mem.tail _ (List.Mem.head _)))))))))
  have f9 : 0 ≤ 60 + ((-1) * τ 19004 + 0) := hf _ (List.Mem.tail _ (List.Mem.tail _ (List.Mem.tail _ (List.Mem.tail _ (List.Mem.tail _ (List.Mem.tail _ (List.Mem.tail _ (List.Mem.tail _ (List.Mem.tail _ (List.Mem.head _))))))))))
  have f10 : 0 ≤ 0 + (1 * τ 19005 + 0) := hf _ (List.Mem.tail _ (List.Mem.tail _ (List.Mem.tail _ (List.Mem.tail _ (List.Mem.tail _ (List.Mem.tail _ (List.Mem.tail _ (List.Mem.tail _ (List.Mem.tail _ (List.Mem.tail _ (List.Mem.head _)))))))))))
  have f11 : 0 ≤ 60 + ((-1) * τ 19005 + 0) := hf _ (List.Mem.tail _ (List.Mem.tail _ (List.Mem.tail _ (List.Mem.tail _ (List.Mem.tail _ (List.Mem.tail _ (List.Mem.tail _ (List.Mem.tail _ (List.Mem.tail _ (List.Mem.tail _ (List.Mem.tail _ (List.Mem.head _))))))))))))
  have f12 : 0 ≤ 0 + (1 * τ 18505 + ((-1) * τ 19004 + ((-1) * τ 19005 + 0))) := hf _ (List.Mem.tail _ (List.Mem.tail _ (List.Mem.tail _ (List.Mem.tail _ (List.Mem.tail _ (List.Mem.tail _ (List.Mem.tail _ (List.Mem.tail _ (List.Mem.tail _ (List.Mem.tail _ (List.Mem.tail _ (List.Mem.tail _ (List.Mem.head _)))))))))))))
  have f13 : 0 ≤ 0 + (1 * τ 18507 + ((-1) * τ 19002 + ((-1) * τ 19005 + 0))) := hf _ (List.Mem.tail _ (List.Mem.tail _ (List.Mem.tail _ (List.Mem.tail _ (List.Mem.tail _ (List.Mem.tail _ (List.Mem.tail _ (List.Mem.tail _ (List.Mem.tail _ (List.Mem.tail _ (List.Mem.tail _ (List.Mem.tail _ (List.Mem.tail _ (List.Mem.head _))))))))))))))
  have f14 : 0 ≤ 0 + (1 * τ 18501 + ((-1) * τ 18503 + 0)) := hf _ (List.Mem.tail _ (List.Mem.tail _ (List.Mem.tail _ (List.Mem.tail _ (List.Mem.tail _ (List.Mem.tail _ (List.Mem.tail _ (List.Mem.tail _ (List.Mem.tail _ (List.Mem.tail _ (List.Mem.tail _ (List.Mem.tail _ (List.Mem.tail _ (List.Mem.tail _ (List.Mem.head _)))))))))))))))
  have f15 : 0 ≤ 0 + ((-1) * τ 18501 + (1 * τ 18503 + 0)) := hf _ (List.Mem.tail _ (List.Mem.tail _ (List.Mem.tail _ (List.Mem.tail _ (List.Mem.tail _ (List.Mem.tail _ (List.Mem.tail _ (List.Mem.tail _ (List.Mem.tail _ (List.Mem.tail _ (List.Mem.tail _ (List.Mem.tail _ (List.Mem.tail _ (List.Mem.tail _ (List.Mem.tail _ (List.Mem.head _))))))))))))))))
  clear hf hm
  have ej : a1 = 2 := by omega
  subst ej
  have ek : a3 = 0 := by omega
  subst ek
  simp only [lw_sel0, lw_sel1, lw_sel2, lw_sel3]
  exact Or.inl ⟨by omega, by omega, by omega, by omega, by omega, by omega, by omega, by omega, by omega, by omega, by omega, by omega, by omega⟩
theorem lw_pm_83 {as : List rv_A} {σ σ' : Nat → Int} {o : rv_O} {x : Int32} {a1 a2 a3 a4 a5 : Int} {τ : Nat → Int} (hx : o.1 = some (.inl x)) (h1 : lw_av as 1 = a1) (h2 : lw_av as 2 = a2) (h3 : lw_av as 3 = a3) (h4 : lw_av as 4 = a4) (h5 : lw_av as 5 = a5) (hb : ∀ s, (sx_sr s).1 ≤ σ s ∧ σ s ≤ (sx_sr s).2) (hW : lw_W ([], [(0, [(18505, 1)]), (0, [(18508, 1)]), (0, [(19001, 1)]), (0, [(19001, (-1))]), (0, [(19002, 1)]), (60, [(19002, (-1))]), ((-3), [(19003, 1)]), (3, [(19003, (-1))]), (0, [(19004, 1)]), (60, [(19004, (-1))]), (0, [(19005, 1)]), (60, [(19005, (-1))]), (0, [(18508, 1), (19004, (-1)), (19005, (-1))]), (0, [(18505, 1), (19002, (-1)), (19005, (-1))]), (0, [(18501, (-1)), (18504, 1)]), (0, [(18501, 1), (18504, (-1))])], [(12800, (0, []))], some (false, (1, []))) as σ σ' τ o) : lw_pm_C a1 a2 a3 a4 a5 x.toInt σ σ' := by
  unfold lw_pm_C
  have b18501 : 0 ≤ σ 18501 ∧ σ 18501 ≤ 3 := by
    have h0 := hb 18501
    rw [show sx_sr 18501 = (0, 3) from by decide +kernel] at h0
    exact h0
  have b18502 : 0 ≤ σ 18502 ∧ σ 18502 ≤ 3 := by
    have h0 := hb 18502
    rw [show sx_sr 18502 = (0, 3) from by decide +kernel] at h0
    exact h0
  have b18503 : 0 ≤ σ 18503 ∧ σ 18503 ≤ 3 := by
    have h0 := hb 18503
    rw [show sx_sr 18503 = (0, 3) from by decide +kernel] at h0
    exact h0
  have b18504 : 0 ≤ σ 18504 ∧ σ 18504 ≤ 3 := by
    have h0 := hb 18504
    rw [show sx_sr 18504 = (0, 3) from by decide +kernel] at h0
    exact h0
  have b18505 : (-1) ≤ σ 18505 ∧ σ 18505 ≤ 60 := by
    have h0 := hb 18505
    rw [show sx_sr 18505 = ((-1), 60) from by decide +kernel] at h0
    exact h0
  have b18506 : (-1) ≤ σ 18506 ∧ σ 18506 ≤ 60 := by
    have h0 := hb 18506
    rw [show sx_sr 18506 = ((-1), 60) from by decide +kernel] at h0
    exact h0
  have b18507 : (-1) ≤ σ 18507 ∧ σ 18507 ≤ 60 := by
    have h0 := hb 18507
    rw [show sx_sr 18507 = ((-1), 60) from by decide +kernel] at h0
    exact h0
  have b18508 : (-1) ≤ σ 18508 ∧ σ 18508 ≤ 60 := by
    have h0 := hb 18508
    rw [show sx_sr 18508 = ((-1), 60) from by decide +kernel] at h0
    exact h0
  obtain ⟨hs, ht, hf, hr, hm, hw⟩ := hW
  have e1 : τ 19001 = a1 := by rw [ht 19001 (by decide) (by decide)]; exact h1
  have e2 : τ 19002 = a2 := by rw [ht 19002 (by decide) (by decide)]; exact h2
  have e3 : τ 19003 = a3 := by rw [ht 19003 (by decide) (by decide)]; exact h3
  have e4 : τ 19004 = a4 := by rw [ht 19004 (by decide) (by decide)]; exact h4
  have e5 : τ 19005 = a5 := by rw [ht 19005 (by decide) (by decide)]; exact h5
  have s18501 : τ 18501 = σ 18501 := hs 18501 (by decide)
  have s18502 : τ 18502 = σ 18502 := hs 18502 (by decide)
  have s18503 : τ 18503 = σ 18503 := hs 18503 (by decide)
  have s18504 : τ 18504 = σ 18504 := hs 18504 (by decide)
  have s18505 : τ 18505 = σ 18505 := hs 18505 (by decide)
  have s18506 : τ 18506 = σ 18506 := hs 18506 (by decide)
  have s18507 : τ 18507 = σ 18507 := hs 18507 (by decide)
  have s18508 : τ 18508 = σ 18508 := hs 18508 (by decide)
  clear hs ht hb
  rw [hx] at hr
  obtain ⟨y, hy, hv⟩ := hr
  cases hy
  replace hv : x.toInt = 1 + 0 := hv
  have f0 : 0 ≤ 0 + (1 * τ 18505 + 0) := hf _ (List.Mem.head _)
  have f1 : 0 ≤ 0 + (1 * τ 18508 + 0) := hf _ (List.Mem.tail _ (List.Mem.head _))
  have f2 : 0 ≤ 0 + (1 * τ 19001 + 0) := hf _ (List.Mem.tail _ (List.Mem.tail _ (List.Mem.head _)))
  have f3 : 0 ≤ 0 + ((-1) * τ 19001 + 0) := hf _ (List.Mem.tail _ (List.Mem.tail _ (List.Mem.tail _ (List.Mem.head _))))
  have f4 : 0 ≤ 0 + (1 * τ 19002 + 0) := hf _ (List.Mem.tail _ (List.Mem.tail _ (List.Mem.tail _ (List.Mem.tail _ (List.Mem.head _)))))
  have f5 : 0 ≤ 60 + ((-1) * τ 19002 + 0) := hf _ (List.Mem.tail _ (List.Mem.tail _ (List.Mem.tail _ (List.Mem.tail _ (List.Mem.tail _ (List.Mem.head _))))))
  have f6 : 0 ≤ (-3) + (1 * τ 19003 + 0) := hf _ (List.Mem.tail _ (List.Mem.tail _ (List.Mem.tail _ (List.Mem.tail _ (List.Mem.tail _ (List.Mem.tail _ (List.Mem.head _)))))))
  have f7 : 0 ≤ 3 + ((-1) * τ 19003 + 0) := hf _ (List.Mem.tail _ (List.Mem.tail _ (List.Mem.tail _ (List.Mem.tail _ (List.Mem.tail _ (List.Mem.tail _ (List.Mem.tail _ (List.Mem.head _))))))))
  have f8 : 0 ≤ 0 + (1 * τ 19004 + 0) := hf _ (List.Mem.tail _ (List.Mem.tail _ (List.Mem.tail _ (List.Mem.tail _ (List.Mem.tail _ (List.Mem.tail _ (List.Mem.tail _ (List.Mem.tail _ (List.Mem.head _)))))))))
  have f9 : 0 ≤ 60 + ((-1) * τ 19004 + 0) := hf _ (List.Mem.tail _ (List.Mem.tail _ (List.Mem.tail _ (List.Mem.tail _ (List.Mem.tail _ (List.Mem.tail _ (List.Mem.tail _ (List.Mem.tail _ (List.Mem.tail _ (List.Mem.head _))))))))))
  have f10 : 0 ≤ 0 + (1 * τ 19005 + 0) := hf _ (List.Mem.tail _ (List.Mem.tail _ (List.Mem.tail _ (List.Mem.tail _ (List.Mem.tail _ (List.Mem.tail _ (List.Mem.tail _ (List.Mem.tail _ (List.Mem.tail _ (List.Mem.tail _ (List.Mem.head _)))))))))))
  have f11 : 0 ≤ 60 + ((-1) * τ 19005 + 0) := hf _ (List.Mem.tail _ (List.Mem.tail _ (List.Mem.tail _ (List.Mem.tail _ (List.Mem.tail _ (List.Mem.tail _ (List.Mem.tail _ (List.Mem.tail _ (List.Mem.tail _ (List.Mem.tail _ (List.Mem.tail _ (List.Mem.head _))))))))))))
  have f12 : 0 ≤ 0 + (1 * τ 18508 + ((-1) * τ 19004 + ((-1) * τ 19005 + 0))) := hf _ (List.Mem.tail _ (List.Mem.tail _ (List.Mem.tail _ (List.Mem.tail _ (List.Mem.tail _ (List.Mem.tail _ (List.Mem.tail _ (List.Mem.tail _ (List.Mem.tail _ (List.Mem.tail _ (List.Mem.tail _ (List.Mem.tail _ (List.Mem.head _)))))))))))))
  have f13 : 0 ≤ 0 + (1 * τ 18505 + ((-1) * τ 19002 + ((-1) * τ 19005 + 0))) := hf _ (List.Mem.tail _ (List.Mem.tail _ (List.Mem.tail _ (List.Mem.tail _ (List.Mem.tail _ (List.Mem.tail _ (List.Mem.tail _ (List.Mem.tail _ (List.Mem.tail _ (List.Mem.tail _ (List.Mem.tail _ (List.Mem.tail _ (List.Mem.tail _ (List.Mem.head _))))))))))))))
  have f14 : 0 ≤ 0 + ((-1) * τ 18501 + (1 * τ 18504 + 0)) := hf _ (List.Mem.tail _ (List.Mem.tail _ (List.Mem.tail _ (List.Mem.tail _ (List.Mem.tail _ (List.Mem.tail _ (List.Mem.tail _ (List.Mem.tail _ (List.Mem.tail _ (List.Mem.tail _ (List.Mem.tail _ (List.Mem.tail _ (List.Mem.tail _ (List.Mem.tail _ (List.Mem.head _)))))))))))))))
  have f15 : 0 ≤ 0 + (1 * τ 18501 + ((-1) * τ 18504 + 0)) := hf _ (List.Mem.tail _ (List.Mem.tail _ (List.Mem.tail _ (List.Mem.tail _ (List.Mem.tail _ (List.Mem.tail _ (List.Mem.tail _ (List.Mem.tail _ (List.Mem.tail _ (List.Mem.tail _ (List.Mem.tail _ (List.Mem.tail _ (List.Mem.tail _ (List.Mem.tail _ (List.Mem.tail _ (List.Mem.head _))))))))))))))))
  clear hf hm
  have ej : a1 = 0 := by omega
  subst ej
  have ek : a3 = 3 := by omega
  subst ek
  simp only [lw_sel0, lw_sel1, lw_sel2, lw_sel3]
  exact Or.inl ⟨by omega, by omega, by omega, by omega, by omega, by omega, by omega, by omega, by omega, by omega, by omega, by omega, by omega⟩
theorem lw_pm_84 {as : List rv_A} {σ σ' : Nat → Int} {o : rv_O} {x : Int32} {a1 a2 a3 a4 a5 : Int} {τ : Nat → Int} (hx : o.1 = some (.inl x)) (h1 : lw_av as 1 = a1) (h2 : lw_av as 2 = a2) (h3 : lw_av as 3 = a3) (h4 : lw_av as 4 = a4) (h5 : lw_av as 5 = a5) (hb : ∀ s, (sx_sr s).1 ≤ σ s ∧ σ s ≤ (sx_sr s).2) (hW : lw_W ([], [(0, [(18505, 1)]), (0, [(18508, 1)]), ((-3), [(19001, 1)]), (3, [(19001, (-1))]), (0, [(19002, 1)]), (60, [(19002, (-1))]), (0, [(19003, 1)]), (0, [(19003, (-1))]), (0, [(19004, 1)]), (60, [(19004, (-1))]), (0, [(19005, 1)]), (60, [(19005, (-1))]), (0, [(18505, 1), (19004, (-1)), (19005, (-1))]), (0, [(18508, 1), (19002, (-1)), (19005, (-1))]), (0, [(18501, 1), (18504, (-1))]), (0, [(18501, (-1)), (18504, 1)])], [(12800, (0, []))], some (false, (1, []))) as σ σ' τ o) : lw_pm_C a1 a2 a3 a4 a5 x.toInt σ σ' := by
  unfold lw_pm_C
  have b18501 : 0 ≤ σ 18501 ∧ σ 18501 ≤ 3 := by
    have h0 := hb 18501
    rw [show sx_sr 18501 = (0, 3) from by decide +kernel] at h0
    exact h0
  have b18502 : 0 ≤ σ 18502 ∧ σ 18502 ≤ 3 := by
    have h0 := hb 18502
    rw [show sx_sr 18502 = (0, 3) from by decide +kernel] at h0
    exact h0
  have b18503 : 0 ≤ σ 18503 ∧ σ 18503 ≤ 3 := by
    have h0 := hb 18503
    rw [show sx_sr 18503 = (0, 3) from by decide +kernel] at h0
    exact h0
  have b18504 : 0 ≤ σ 18504 ∧ σ 18504 ≤ 3 := by
    have h0 := hb 18504
    rw [show sx_sr 18504 = (0, 3) from by decide +kernel] at h0
    exact h0
  have b18505 : (-1) ≤ σ 18505 ∧ σ 18505 ≤ 60 := by
    have h0 := hb 18505
    rw [show sx_sr 18505 = ((-1), 60) from by decide +kernel] at h0
    exact h0
  have b18506 : (-1) ≤ σ 18506 ∧ σ 18506 ≤ 60 := by
    have h0 := hb 18506
    rw [show sx_sr 18506 = ((-1), 60) from by decide +kernel] at h0
    exact h0
  have b18507 : (-1) ≤ σ 18507 ∧ σ 18507 ≤ 60 := by
    have h0 := hb 18507
    rw [show sx_sr 18507 = ((-1), 60) from by decide +kernel] at h0
    exact h0
  have b18508 : (-1) ≤ σ 18508 ∧ σ 18508 ≤ 60 := by
    have h0 := hb 18508
    rw [show sx_sr 18508 = ((-1), 60) from by decide +kernel] at h0
    exact h0
  obtain ⟨hs, ht, hf, hr, hm, hw⟩ := hW
  have e1 : τ 19001 = a1 := by rw [ht 19001 (by decide) (by decide)]; exact h1
  have e2 : τ 19002 = a2 := by rw [ht 19002 (by decide) (by decide)]; exact h2
  have e3 : τ 19003 = a3 := by rw [ht 19003 (by decide) (by decide)]; exact h3
  have e4 : τ 19004 = a4 := by rw [ht 19004 (by decide) (by decide)]; exact h4
  have e5 : τ 19005 = a5 := by rw [ht 19005 (by decide) (by decide)]; exact h5
  have s18501 : τ 18501 = σ 18501 := hs 18501 (by decide)
  have s18502 : τ 18502 = σ 18502 := hs 18502 (by decide)
  have s18503 : τ 18503 = σ 18503 := hs 18503 (by decide)
  have s18504 : τ 18504 = σ 18504 := hs 18504 (by decide)
  have s18505 : τ 18505 = σ 18505 := hs 18505 (by decide)
  have s18506 : τ 18506 = σ 18506 := hs 18506 (by decide)
  have s18507 : τ 18507 = σ 18507 := hs 18507 (by decide)
  have s18508 : τ 18508 = σ 18508 := hs 18508 (by decide)
  clear hs ht hb
  rw [hx] at hr
  obtain ⟨y, hy, hv⟩ := hr
  cases hy
  replace hv : x.toInt = 1 + 0 := hv
  have f0 : 0 ≤ 0 + (1 * τ 18505 + 0) := hf _ (List.Mem.head _)
  have f1 : 0 ≤ 0 + (1 * τ 18508 + 0) := hf _ (List.Mem.tail _ (List.Mem.head _))
  have f2 : 0 ≤ (-3) + (1 * τ 19001 + 0) := hf _ (List.Mem.tail _ (List.Mem.tail _ (List.Mem.head _)))
  have f3 : 0 ≤ 3 + ((-1) * τ 19001 + 0) := hf _ (List.Mem.tail _ (List.Mem.tail _ (List.Mem.tail _ (List.Mem.head _))))
  have f4 : 0 ≤ 0 + (1 * τ 19002 + 0) := hf _ (List.Mem.tail _ (List.Mem.tail _ (List.Mem.tail _ (List.Mem.tail _ (List.Mem.head _)))))
  have f5 : 0 ≤ 60 + ((-1) * τ 19002 + 0) := hf _ (List.Mem.tail _ (List.Mem.tail _ (List.Mem.tail _ (List.Mem.tail _ (List.Mem.tail _ (List.Mem.head _))))))
  have f6 : 0 ≤ 0 + (1 * τ 19003 + 0) := hf _ (List.Mem.tail _ (List.Mem.tail _ (List.Mem.tail _ (List.Mem.tail _ (List.Mem.tail _ (List.Mem.tail _ (List.Mem.head _)))))))
  have f7 : 0 ≤ 0 + ((-1) * τ 19003 + 0) := hf _ (List.Mem.tail _ (List.Mem.tail _ (List.Mem.tail _ (List.Mem.tail _ (List.Mem.tail _ (List.Mem.tail _ (List.Mem.tail _ (List.Mem.head _))))))))
  have f8 : 0 ≤ 0 + (1 * τ 19004 + 0) := hf _ (List.Mem.tail _ (List.Mem.tail _ (List.Mem.tail _ (List.Mem.tail _ (List.Mem.tail _ (List.Mem.tail _ (List.Mem.tail _ (List.Mem.tail _ (List.Mem.head _)))))))))
  have f9 : 0 ≤ 60 + ((-1) * τ 19004 + 0) := hf _ (List.Mem.tail _ (List.Mem.tail _ (List.Mem.tail _ (List.Mem.tail _ (List.Mem.tail _ (List.Mem.tail _ (List.Mem.tail _ (List.Mem.tail _ (List.Mem.tail _ (List.Mem.head _))))))))))
  have f10 : 0 ≤ 0 + (1 * τ 19005 + 0) := hf _ (List.Mem.tail _ (List.Mem.tail _ (List.Mem.tail _ (List.Mem.tail _ (List.Mem.tail _ (List.Mem.tail _ (List.Mem.tail _ (List.Mem.tail _ (List.Mem.tail _ (List.Mem.tail _ (List.Mem.head _)))))))))))
  have f11 : 0 ≤ 60 + ((-1) * τ 19005 + 0) := hf _ (List.Mem.tail _ (List.Mem.tail _ (List.Mem.tail _ (List.Mem.tail _ (List.Mem.tail _ (List.Mem.tail _ (List.Mem.tail _ (List.Mem.tail _ (List.Mem.tail _ (List.Mem.tail _ (List.Mem.tail _ (List.Mem.head _))))))))))))
  have f12 : 0 ≤ 0 + (1 * τ 18505 + ((-1) * τ 19004 + ((-1) * τ 19005 + 0))) := hf _ (List.Mem.tail _ (List.Mem.tail _ (List.Mem.tail _ (List.Mem.tail _ (List.Mem.tail _ (List.Mem.tail _ (List.Mem.tail _ (List.Mem.tail _ (List.Mem.tail _ (List.Mem.tail _ (List.Mem.tail _ (List.Mem.tail _ (List.Mem.head _)))))))))))))
  have f13 : 0 ≤ 0 + (1 * τ 18508 + ((-1) * τ 19002 + ((-1) * τ 19005 + 0))) := hf _ (List.Mem.tail _ (List.Mem.tail _ (List.Mem.tail _ (List.Mem.tail _ (List.Mem.tail _ (List.Mem.tail _ (List.Mem.tail _ (List.Mem.tail _ (List.Mem.tail _ (List.Mem.tail _ (List.Mem.tail _ (List.Mem.tail _ (List.Mem.tail _ (List.Mem.head _))))))))))))))
  have f14 : 0 ≤ 0 + (1 * τ 18501 + ((-1) * τ 18504 + 0)) := hf _ (List.Mem.tail _ (List.Mem.tail _ (List.Mem.tail _ (List.Mem.tail _ (List.Mem.tail _ (List.Mem.tail _ (List.Mem.tail _ (List.Mem.tail _ (List.Mem.tail _ (List.Mem.tail _ (List.Mem.tail _ (List.Mem.tail _ (List.Mem.tail _ (List.Mem.tail _ (List.Mem.head _)))))))))))))))
  have f15 : 0 ≤ 0 + ((-1) * τ 18501 + (1 * τ 18504 + 0)) := hf _ (List.Mem.tail _ (List.Mem.tail _ (List.Mem.tail _ (List.Mem.tail _ (List.Mem.tail _ (List.Mem.tail _ (List.Mem.tail _ (List.Mem.tail _ (List.Mem.tail _ (List.Mem.tail _ (List.Mem.tail _ (List.Mem.tail _ (List.Mem.tail _ (List.Mem.tail _ (List.Mem.tail _ (List.Mem.head _))))))))))))))))
  clear hf hm
  have ej : a1 = 3 := by omega
  subst ej
  have ek : a3 = 0 := by omega
  subst ek
  simp only [lw_sel0, lw_sel1, lw_sel2, lw_sel3]
  exact Or.inl ⟨by omega, by omega, by omega, by omega, by omega, by omega, by omega, by omega, by omega, by omega, by omega, by omega, by omega⟩
theorem lw_pm_85 {as : List rv_A} {σ σ' : Nat → Int} {o : rv_O} {x : Int32} {a1 a2 a3 a4 a5 : Int} {τ : Nat → Int} (hx : o.1 = some (.inl x)) (h1 : lw_av as 1 = a1) (h2 : lw_av as 2 = a2) (h3 : lw_av as 3 = a3) (h4 : lw_av as 4 = a4) (h5 : lw_av as 5 = a5) (hb : ∀ s, (sx_sr s).1 ≤ σ s ∧ σ s ≤ (sx_sr s).2) (hW : lw_W ([], [(0, [(18505, 1)]), (0, [(19001, 1)]), (0, [(19001, (-1))]), (0, [(19002, 1)]), (60, [(19002, (-1))]), (0, [(19003, 1)]), (0, [(19003, (-1))]), (0, [(19004, 1)]), (60, [(19004, (-1))]), (0, [(19005, 1)]), (60, [(19005, (-1))]), (0, [(18505, 1), (19004, (-1)), (19005, (-1))]), (0, [(18505, 1), (19002, (-1)), (19005, (-1))])], [(12800, (0, []))], some (false, (1, []))) as σ σ' τ o) : lw_pm_C a1 a2 a3 a4 a5 x.toInt σ σ' := by
  unfold lw_pm_C
  have b18501 : 0 ≤ σ 18501 ∧ σ 18501 ≤ 3 := by
    have h0 := hb 18501
    rw [show sx_sr 18501 = (0, 3) from by decide +kernel] at h0
    exact h0
  have b18502 : 0 ≤ σ 18502 ∧ σ 18502 ≤ 3 := by
    have h0 := hb 18502
    rw [show sx_sr 18502 = (0, 3) from by decide +kernel] at h0
    exact h0
  have b18503 : 0 ≤ σ 18503 ∧ σ 18503 ≤ 3 := by
    have h0 := hb 18503
    rw [show sx_sr 18503 = (0, 3) from by decide +kernel] at h0
    exact h0
  have b18504 : 0 ≤ σ 18504 ∧ σ 18504 ≤ 3 := by
    have h0 := hb 18504
    rw [show sx_sr 18504 = (0, 3) from by decide +kernel] at h0
    exact h0
  have b18505 : (-1) ≤ σ 18505 ∧ σ 18505 ≤ 60 := by
    have h0 := hb 18505
    rw [show sx_sr 18505 = ((-1), 60) from by decide +kernel] at h0
    exact h0
  have b18506 : (-1) ≤ σ 18506 ∧ σ 18506 ≤ 60 := by
    have h0 := hb 18506
    rw [show sx_sr 18506 = ((-1), 60) from by decide +kernel] at h0
    exact h0
  have b18507 : (-1) ≤ σ 18507 ∧ σ 18507 ≤ 60 := by
    have h0 := hb 18507
    rw [show sx_sr 18507 = ((-1), 60) from by decide +kernel] at h0
    exact h0
  have b18508 : (-1) ≤ σ 18508 ∧ σ 18508 ≤ 60 := by
    have h0 := hb 18508
    rw [show sx_sr 18508 = ((-1), 60) from by decide +kernel] at h0
    exact h0
  obtain ⟨hs, ht, hf, hr, hm, hw⟩ := hW
  have e1 : τ 19001 = a1 := by rw [ht 19001 (by decide) (by decide)]; exact h1
  have e2 : τ 19002 = a2 := by rw [ht 19002 (by decide) (by decide)]; exact h2
  have e3 : τ 19003 = a3 := by rw [ht 19003 (by decide) (by decide)]; exact h3
  have e4 : τ 19004 = a4 := by rw [ht 19004 (by decide) (by decide)]; exact h4
  have e5 : τ 19005 = a5 := by rw [ht 19005 (by decide) (by decide)]; exact h5
  have s18501 : τ 18501 = σ 18501 := hs 18501 (by decide)
  have s18502 : τ 18502 = σ 18502 := hs 18502 (by decide)
  have s18503 : τ 18503 = σ 18503 := hs 18503 (by decide)
  have s18504 : τ 18504 = σ 18504 := hs 18504 (by decide)
  have s18505 : τ 18505 = σ 18505 := hs 18505 (by decide)
  have s18506 : τ 18506 = σ 18506 := hs 18506 (by decide)
  have s18507 : τ 18507 = σ 18507 := hs 18507 (by decide)
  have s18508 : τ 18508 = σ 18508 := hs 18508 (by decide)
  clear hs ht hb
  rw [hx] at hr
  obtain ⟨y, hy, hv⟩ := hr
  cases hy
  replace hv : x.toInt = 1 + 0 := hv
  have f0 : 0 ≤ 0 + (1 * τ 18505 + 0) := hf _ (List.Mem.head _)
  have f1 : 0 ≤ 0 + (1 * τ 19001 + 0) := hf _ (List.Mem.tail _ (List.Mem.head _))
  have f2 : 0 ≤ 0 + ((-1) * τ 19001 + 0) := hf _ (List.Mem.tail _ (List.Mem.tail _ (List.Mem.head _)))
  have f3 : 0 ≤ 0 + (1 * τ 19002 + 0) := hf _ (List.Mem.tail _ (List.Mem.tail _ (List.Mem.tail _ (List.Mem.head _))))
  have f4 : 0 ≤ 60 + ((-1) * τ 19002 + 0) := hf _ (List.Mem.tail _ (List.Mem.tail _ (List.Mem.tail _ (List.Mem.tail _ (List.Mem.head _)))))
  have f5 : 0 ≤ 0 + (1 * τ 19003 + 0) := hf _ (List.Mem.tail _ (List.Mem.tail _ (List.Mem.tail _ (List.Mem.tail _ (List.Mem.tail _ (List.Mem.head _))))))
  have f6 : 0 ≤ 0 + ((-1) * τ 19003 + 0) := hf _ (List.Mem.tail _ (List.Mem.tail _ (List.Mem.tail _ (List.Mem.tail _ (List.Mem.tail _ (List.Mem.tail _ (List.Mem.head _)))))))
  have f7 : 0 ≤ 0 + (1 * τ 19004 + 0) := hf _ (List.Mem.tail _ (List.Mem.tail _ (List.Mem.tail _ (List.Mem.tail _ (List.Mem.tail _ (List.Mem.tail _ (List.Mem.tail _ (List.Mem.head _))))))))
  have f8 : 0 ≤ 60 + ((-1) * τ 19004 + 0) := hf _ (List.Mem.tail _ (List.Mem.tail _ (List.Mem.tail _ (List.Mem.tail _ (List.Mem.tail _ (List.Mem.tail _ (List.Mem.tail _ (List.Mem.tail _ (List.Mem.head _)))))))))
  have f9 : 0 ≤ 0 + (1 * τ 19005 + 0) := hf _ (List.Mem.tail _ (List.Mem.tail _ (List.Mem.tail _ (List.Mem.tail _ (List.Mem.tail _ (List.Mem.tail _ (List.Mem.tail _ (List.Mem.tail _ (List.Mem.tail _ (List.Mem.head _))))))))))
  have f10 : 0 ≤ 60 + ((-1) * τ 19005 + 0) := hf _ (List.Mem.tail _ (List.Mem.tail _ (List.Mem.tail _ (List.Mem.tail _ (List.Mem.tail _ (List.Mem.tail _ (List.Mem.tail _ (List.Mem.tail _ (List.Mem.tail _ (List.Mem.tail _ (List.Mem.head _)))))))))))
  have f11 : 0 ≤ 0 + (1 * τ 18505 + ((-1) * τ 19004 + ((-1) * τ 19005 + 0))) := hf _ (List.Mem.tail _ (List.Mem.tail _ (List.Mem.tail _ (List.Mem.tail _ (List.Mem.tail _ (List.Mem.tail _ (List.Mem.tail _ (List.Mem.tail _ (List.Mem.tail _ (List.Mem.tail _ (List.Mem.tail _ (List.Mem.head _))))))))))))
  have f12 : 0 ≤ 0 + (1 * τ 18505 + ((-1) * τ 19002 + ((-1) * τ 19005 + 0))) := hf _ (List.Mem.tail _ (List.Mem.tail _ (List.Mem.tail _ (List.Mem.tail _ (List.Mem.tail _ (List.Mem.tail _ (List.Mem.tail _ (List.Mem.tail _ (List.Mem.tail _ (List.Mem.tail _ (List.Mem.tail _ (List.Mem.tail _ (List.Mem.head _)))))))))))))
  clear hf hm
  have ej : a1 = 0 := by omega
  subst ej
  have ek : a3 = 0 := by omega
  subst ek
  simp only [lw_sel0, lw_sel1, lw_sel2, lw_sel3]
  exact Or.inl ⟨by omega, by omega, by omega, by omega, by omega, by omega, by omega, by omega, by omega, by omega, by omega, by omega, by omega⟩
theorem lw_pm_86 {as : List rv_A} {σ σ' : Nat → Int} {o : rv_O} {x : Int32} {a1 a2 a3 a4 a5 : Int} {τ : Nat → Int} (hx : o.1 = some (.inl x)) (h1 : lw_av as 1 = a1) (h2 : lw_av as 2 = a2) (h3 : lw_av as 3 = a3) (h4 : lw_av as 4 = a4) (h5 : lw_av as 5 = a5) (hb : ∀ s, (sx_sr s).1 ≤ σ s ∧ σ s ≤ (sx_sr s).2) (hW : lw_W ([], [(0, [(18506, 1)]), (0, [(18507, 1)]), ((-1), [(19001, 1)]), (1, [(19001, (-1))]), (0, [(19002, 1)]), (60, [(19002, (-1))]), ((-2), [(19003, 1)]), (2, [(19003, (-1))]), (0, [(19004, 1)]), (60, [(19004, (-1))]), (0, [(19005, 1)]), (60, [(19005, (-1))]), (0, [(18507, 1), (19004, (-1)), (19005, (-1))]), (0, [(18506, 1), (19002, (-1)), (19005, (-1))]), (0, [(18502, (-1)), (18503, 1)]), (0, [(18502, 1), (18503, (-1))])], [(12800, (0, []))], some (false, (1, []))) as σ σ' τ o) : lw_pm_C a1 a2 a3 a4 a5 x.toInt σ σ' := by
  unfold lw_pm_C
  have b18501 : 0 ≤ σ 18501 ∧ σ 18501 ≤ 3 := by
    have h0 := hb 18501
    rw [show sx_sr 18501 = (0, 3) from by decide +kernel] at h0
    exact h0
  have b18502 : 0 ≤ σ 18502 ∧ σ 18502 ≤ 3 := by
    have h0 := hb 18502
    rw [show sx_sr 18502 = (0, 3) from by decide +kernel] at h0
    exact h0
  have b18503 : 0 ≤ σ 18503 ∧ σ 18503 ≤ 3 := by
    have h0 := hb 18503
    rw [show sx_sr 18503 = (0, 3) from by decide +kernel] at h0
    exact h0
  have b18504 : 0 ≤ σ 18504 ∧ σ 18504 ≤ 3 := by
    have h0 := hb 18504
    rw [show sx_sr 18504 = (0, 3) from by decide +kernel] at h0
    exact h0
  have b18505 : (-1) ≤ σ 18505 ∧ σ 18505 ≤ 60 := by
    have h0 := hb 18505
    rw [show sx_sr 18505 = ((-1), 60) from by decide +kernel] at h0
    exact h0
  have b18506 : (-1) ≤ σ 18506 ∧ σ 18506 ≤ 60 := by
    have h0 := hb 18506
    rw [show sx_sr 18506 = ((-1), 60) from by decide +kernel] at h0
    exact h0
  have b18507 : (-1) ≤ σ 18507 ∧ σ 18507 ≤ 60 := by
    have h0 := hb 18507
    rw [show sx_sr 18507 = ((-1), 60) from by decide +kernel] at h0
    exact h0
  have b18508 : (-1) ≤ σ 18508 ∧ σ 18508 ≤ 60 := by
    have h0 := hb 18508
    rw [show sx_sr 18508 = ((-1), 60) from by decide +kernel] at h0
    exact h0
  obtain ⟨hs, ht, hf, hr, hm, hw⟩ := hW
  have e1 : τ 19001 = a1 := by rw [ht 19001 (by decide) (by decide)]; exact h1
  have e2 : τ 19002 = a2 := by rw [ht 19002 (by decide) (by decide)]; exact h2
  have e3 : τ 19003 = a3 := by rw [ht 19003 (by decide) (by decide)]; exact h3
  have e4 : τ 19004 = a4 := by rw [ht 19004 (by decide) (by decide)]; exact h4
  have e5 : τ 19005 = a5 := by rw [ht 19005 (by decide) (by decide)]; exact h5
  have s18501 : τ 18501 = σ 18501 := hs 18501 (by decide)
  have s18502 : τ 18502 = σ 18502 := hs 18502 (by decide)
  have s18503 : τ 18503 = σ 18503 := hs 18503 (by decide)
  have s18504 : τ 18504 = σ 18504 := hs 18504 (by decide)
  have s18505 : τ 18505 = σ 18505 := hs 18505 (by decide)
  have s18506 : τ 18506 = σ 18506 := hs 18506 (by decide)
  have s18507 : τ 18507 = σ 18507 := hs 18507 (by decide)
  have s18508 : τ 18508 = σ 18508 := hs 18508 (by decide)
  clear hs ht hb
  rw [hx] at hr
  obtain ⟨y, hy, hv⟩ := hr
  cases hy
  replace hv : x.toInt = 1 + 0 := hv
  have f0 : 0 ≤ 0 + (1 * τ 18506 + 0) := hf _ (List.Mem.head _)
  have f1 : 0 ≤ 0 + (1 * τ 18507 + 0) := hf _ (List.Mem.tail _ (List.Mem.head _))
  have f2 : 0 ≤ (-1) + (1 * τ 19001 + 0) := hf _ (List.Mem.tail _ (List.Mem.tail _ (List.Mem.head _)))
  have f3 : 0 ≤ 1 + ((-1) * τ 19001 + 0) := hf _ (List.Mem.tail _ (List.Mem.tail _ (List.Mem.tail _ (List.Mem.head _))))
  have f4 : 0 ≤ 0 + (1 * τ 19002 + 0) := hf _ (List.Mem.tail _ (List.Mem.tail _ (List.Mem.tail _ (List.Mem.tail _ (List.Mem.head _)))))
  have f5 : 0 ≤ 60 + ((-1) * τ 19002 + 0) := hf _ (List.Mem.tail _ (List.Mem.tail _ (List.Mem.tail _ (List.Mem.tail _ (List.Mem.tail _ (List.Mem.head _))))))
  have f6 : 0 ≤ (-2) + (1 * τ 19003 + 0) := hf _ (List.Mem.tail _ (List.Mem.tail _ (List.Mem.tail _ (List.Mem.tail _ (List.Mem.tail _ (List.Mem.tail _ (List.Mem.head _)))))))
  have f7 : 0 ≤ 2 + ((-1) * τ 19003 + 0) := hf _ (List.Mem.tail _ (List.Mem.tail _ (List.Mem.tail _ (List.Mem.tail _ (List.Mem.tail _ (List.Mem.tail _ (List.Mem.tail _ (List.Mem.head _))))))))
  have f8 : 0 ≤ 0 + (1 * τ 19004 + 0) := hf _ (List.Mem.tail _ (List.Mem.tail _ (List.Mem.tail _ (List.Mem.tail _ (List.Mem.tail _ (List.Mem.tail _ (List.Mem.tail _ (List.Mem.tail _ (List.Mem.head _)))))))))
  have f9 : 0 ≤ 60 + ((-1) * τ 19004 + 0) := hf _ (List.Mem.tail _ (List.Mem.tail _ (List.Mem.tail _ (List.Mem.tail _ (List.Mem.tail _ (List.Mem.tail _ (List.Mem.tail _ (List.Mem.tail _ (List.Mem.tail _ (List.Mem.head _))))))))))
  have f10 : 0 ≤ 0 + (1 * τ 19005 + 0) := hf _ (List.Mem.tail _ (List.Mem.tail _ (List.Mem.tail _ (List.Mem.tail _ (List.Mem.tail _ (List.Mem.tail _ (List.Mem.tail _ (List.Mem.tail _ (List.Mem.tail _ (List.Mem.tail _ (List.Mem.head _)))))))))))
  have f11 : 0 ≤ 60 + ((-1) * τ 19005 + 0) := hf _ (List.Mem.tail _ (List.Mem.tail _ (List.Mem.tail _ (List.Mem.tail _ (List.Mem.tail _ (List.Mem.tail _ (List.Mem.tail _ (List.Mem.tail _ (List.Mem.tail _ (List.Mem.tail _ (List.Mem.tail _ (List.Mem.head _))))))))))))
  have f12 : 0 ≤ 0 + (1 * τ 18507 + ((-1) * τ 19004 + ((-1) * τ 19005 + 0))) := hf _ (List.Mem.tail _ (List.Mem.tail _ (List.Mem.tail _ (List.Mem.tail _ (List.Mem.tail _ (List.Mem.tail _ (List.Mem.tail _ (List.Mem.tail _ (List.Mem.tail _ (List.Mem.tail _ (List.Mem.tail _ (List.Mem.tail _ (List.Mem.head _)))))))))))))
  have f13 : 0 ≤ 0 + (1 * τ 18506 + ((-1) * τ 19002 + ((-1) * τ 19005 + 0))) := hf _ (List.Mem.tail _ (List.Mem.tail _ (List.Mem.tail _ (List.Mem.tail _ (List.Mem.tail _ (List.Mem.tail _ (List.Mem.tail _ (List.Mem.tail _ (List.Mem.tail _ (List.Mem.tail _ (List.Mem.tail _ (List.Mem.tail _ (List.Mem.tail _ (List.Mem.head _))))))))))))))
  have f14 : 0 ≤ 0 + ((-1) * τ 18502 + (1 * τ 18503 + 0)) := hf _ (List.Mem.tail _ (List.Mem.tail _ (List.Mem.tail _ (List.Mem.tail _ (List.Mem.tail _ (List.Mem.tail _ (List.Mem.tail _ (List.Mem.tail _ (List.Mem.tail _ (List.Mem.tail _ (List.Mem.tail _ (List.Mem.tail _ (List.Mem.tail _ (List.Mem.tail _ (List.Mem.head _)))))))))))))))
  have f15 : 0 ≤ 0 + (1 * τ 18502 + ((-1) * τ 18503 + 0)) := hf _ (List.Mem.tail _ (List.Mem.tail _ (List.Mem.tail _ (List.Mem.tail _ (List.Mem.tail _ (List.Mem.tail _ (List.Mem.tail _ (List.Mem.tail _ (List.Mem.tail _ (List.Mem.tail _ (List.Mem.tail _ (List.Mem.tail _ (List.Mem.tail _ (List.Mem.tail _ (List.Mem.tail _ (List.Mem.head _))))))))))))))))
  clear hf hm
  have ej : a1 = 1 := by omega
  subst ej
  have ek : a3 = 2 := by omega
  subst ek
  simp only [lw_sel0, lw_sel1, lw_sel2, lw_sel3]
  exact Or.inl ⟨by omega, by omega, by omega, by omega, by omega, by omega, by omega, by omega, by omega, by omega, by omega, by omega, by omega⟩
theorem lw_pm_87 {as : List rv_A} {σ σ' : Nat → Int} {o : rv_O} {x : Int32} {a1 a2 a3 a4 a5 : Int} {τ : Nat → Int} (hx : o.1 = some (.inl x)) (h1 : lw_av as 1 = a1) (h2 : lw_av as 2 = a2) (h3 : lw_av as 3 = a3) (h4 : lw_av as 4 = a4) (h5 : lw_av as 5 = a5) (hb : ∀ s, (sx_sr s).1 ≤ σ s ∧ σ s ≤ (sx_sr s).2) (hW : lw_W ([], [(0, [(18506, 1)]), (0, [(18507, 1)]), ((-2), [(19001, 1)]), (2, [(19001, (-1))]), (0, [(19002, 1)]), (60, [(19002, (-1))]), ((-1), [(19003, 1)]), (1, [(19003, (-1))]), (0, [(19004, 1)]), (60, [(19004, (-1))]), (0, [(19005, 1)]), (60, [(19005, (-1))]), (0, [(18506, 1), (19004, (-1)), (19005, (-1))]), (0, [(18507, 1), (19002, (-1)), (19005, (-1))]), (0, [(18502, 1), (18503, (-1))]), (0, [(18502, (-1)), (18503, 1)])], [(12800, (0, []))], some (false, (1, []))) as σ σ' τ o) : lw_pm_C a1 a2 a3 a4 a5 x.toInt σ σ' := by
  unfold lw_pm_C
  have b18501 : 0 ≤ σ 18501 ∧ σ 18501 ≤ 3 := by
    have h0 := hb 18501
    rw [show sx_sr 18501 = (0, 3) from by decide +kernel] at h0
    exact h0
  have b18502 : 0 ≤ σ 18502 ∧ σ 18502 ≤ 3 := by
    have h0 := hb 18502
    rw [show sx_sr 18502 = (0, 3) from by decide +kernel] at h0
    exact h0
  have b18503 : 0 ≤ σ 18503 ∧ σ 18503 ≤ 3 := by
    have h0 := hb 18503
    rw [show sx_sr 18503 = (0, 3) from by decide +kernel] at h0
    exact h0
  have b18504 : 0 ≤ σ 18504 ∧ σ 18504 ≤ 3 := by
    have h0 := hb 18504
    rw [show sx_sr 18504 = (0, 3) from by decide +kernel] at h0
    exact h0
  have b18505 : (-1) ≤ σ 18505 ∧ σ 18505 ≤ 60 := by
    have h0 := hb 18505
    rw [show sx_sr 18505 = ((-1), 60) from by decide +kernel] at h0
    exact h0
  have b18506 : (-1) ≤ σ 18506 ∧ σ 18506 ≤ 60 := by
    have h0 := hb 18506
    rw [show sx_sr 18506 = ((-1), 60) from by decide +kernel] at h0
    exact h0
  have b18507 : (-1) ≤ σ 18507 ∧ σ 18507 ≤ 60 := by
    have h0 := hb 18507
    rw [show sx_sr 18507 = ((-1), 60) from by decide +kernel] at h0
    exact h0
  have b18508 : (-1) ≤ σ 18508 ∧ σ 18508 ≤ 60 := by
    have h0 := hb 18508
    rw [show sx_sr 18508 = ((-1), 60) from by decide +kernel] at h0
    exact h0
  obtain ⟨hs, ht, hf, hr, hm, hw⟩ := hW
  have e1 : τ 19001 = a1 := by rw [ht 19001 (by decide) (by decide)]; exact h1
  have e2 : τ 19002 = a2 := by rw [ht 19002 (by decide) (by decide)]; exact h2
  have e3 : τ 19003 = a3 := by rw [ht 19003 (by decide) (by decide)]; exact h3
  have e4 : τ 19004 = a4 := by rw [ht 19004 (by decide) (by decide)]; exact h4
  have e5 : τ 19005 = a5 := by rw [ht 19005 (by decide) (by decide)]; exact h5
  have s18501 : τ 18501 = σ 18501 := hs 18501 (by decide)
  have s18502 : τ 18502 = σ 18502 := hs 18502 (by decide)
  have s18503 : τ 18503 = σ 18503 := hs 18503 (by decide)
  have s18504 : τ 18504 = σ 18504 := hs 18504 (by decide)
  have s18505 : τ 18505 = σ 18505 := hs 18505 (by decide)
  have s18506 : τ 18506 = σ 18506 := hs 18506 (by decide)
  have s18507 : τ 18507 = σ 18507 := hs 18507 (by decide)
  have s18508 : τ 18508 = σ 18508 := hs 18508 (by decide)
  clear hs ht hb
  rw [hx] at hr
  obtain ⟨y, hy, hv⟩ := hr
  cases hy
  replace hv : x.toInt = 1 + 0 := hv
  have f0 : 0 ≤ 0 + (1 * τ 18506 + 0) := hf _ (List.Mem.head _)
  have f1 : 0 ≤ 0 + (1 * τ 18507 + 0) := hf _ (List.Mem.tail _ (List.Mem.head _))
  have f2 : 0 ≤ (-2) + (1 * τ 19001 + 0) := hf _ (List.Mem.tail _ (List.Mem.tail _ (List.Mem.head _)))
  have f3 : 0 ≤ 2 + ((-1) * τ 19001 + 0) := hf _ (List.Mem.tail _ (List.Mem.tail _ (List.Mem.tail _ (List.Mem.head _))))
  have f4 : 0 ≤ 0 + (1 * τ 19002 + 0) := hf _ (List.Mem.tail _ (List.Mem.tail _ (List.Mem.tail _ (List.Mem.tail _ (List.Mem.head _)))))
  have f5 : 0 ≤ 60 + ((-1) * τ 19002 + 0) := hf _ (List.Mem.tail _ (List.Mem.tail _ (List.Mem.tail _ (List.Mem.tail _ (List.Mem.tail _ (List.Mem.head _))))))
  have f6 : 0 ≤ (-1) + (1 * τ 19003 + 0) := hf _ (List.Mem.tail _ (List.Mem.tail _ (List.Mem.tail _ (List.Mem.tail _ (List.Mem.tail _ (List.Mem.tail _ (List.Mem.head _)))))))
  have f7 : 0 ≤ 1 + ((-1) * τ 19003 + 0) := hf _ (List.Mem.tail _ (List.Mem.tail _ (List.Mem.tail _ (List.Mem.tail _ (List.Mem.tail _ (List.Mem.tail _ (List.Mem.tail _ (List.Mem.head _))))))))
  have f8 : 0 ≤ 0 + (1 * τ 19004 + 0) := hf _ (List.Mem.tail _ (List.Mem.tail _ (List.Mem.tail _ (List.Mem.tail _ (List.Mem.tail _ (List.Mem.tail _ (List.Mem.tail _ (List.Mem.tail _ (List.Mem.head _)))))))))
  have f9 : 0 ≤ 60 + ((-1) * τ 19004 + 0) := hf _ (List.Mem.tail _ (List.Mem.tail _ (List.Mem.tail _ (List.Mem.tail _ (List.Mem.tail _ (List.Mem.tail _ (List.Mem.tail _ (List.Mem.tail _ (List.Mem.tail _ (List.Mem.head _))))))))))
  have f10 : 0 ≤ 0 + (1 * τ 19005 + 0) := hf _ (List.Mem.tail _ (List.Mem.tail _ (List.Mem.tail _ (List.Mem.tail _ (List.Mem.tail _ (List.Mem.tail _ (List.Mem.tail _ (List.Mem.tail _ (List.Mem.tail _ (List.Mem.tail _ (List.Mem.head _)))))))))))
  have f11 : 0 ≤ 60 + ((-1) * τ 19005 + 0) := hf _ (List.Mem.tail _ (List.Mem.tail _ (List.Mem.tail _ (List.Mem.tail _ (List.Mem.tail _ (List.Mem.tail _ (List.Mem.tail _ (List.Mem.tail _ (List.Mem.tail _ (List.Mem.tail _ (List.Mem.tail _ (List.Mem.head _))))))))))))
  have f12 : 0 ≤ 0 + (1 * τ 18506 + ((-1) * τ 19004 + ((-1) * τ 19005 + 0))) := hf _ (List.Mem.tail _ (List.Mem.tail _ (List.Mem.tail _ (List.Mem.tail _ (List.Mem.tail _ (List.Mem.tail _ (List.Mem.tail _ (List.Mem.tail _ (List.Mem.tail _ (List.Mem.tail _ (List.Mem.tail _ (List.Mem.tail _ (List.Mem.head _)))))))))))))
  have f13 : 0 ≤ 0 + (1 * τ 18507 + ((-1) * τ 19002 + ((-1) * τ 19005 + 0))) := hf _ (List.Mem.tail _ (List.Mem.tail _ (List.Mem.tail _ (List.Mem.tail _ (List.Mem.tail _ (List.Mem.tail _ (List.Mem.tail _ (List.Mem.tail _ (List.Mem.tail _ (List.Mem.tail _ (List.Mem.tail _ (List.Mem.tail _ (List.Mem.tail _ (List.Mem.head _))))))))))))))
  have f14 : 0 ≤ 0 + (1 * τ 18502 + ((-1) * τ 18503 + 0)) := hf _ (List.Mem.tail _ (List.Mem.tail _ (List.Mem.tail _ (List.Mem.tail _ (List.Mem.tail _ (List.Mem.tail _ (List.Mem.tail _ (List.Mem.tail _ (List.Mem.tail _ (List.Mem.tail _ (List.Mem.tail _ (List.Mem.tail _ (List.Mem.tail _ (List.Mem.tail _ (List.Mem.head _)))))))))))))))
  have f15 : 0 ≤ 0 + ((-1) * τ 18502 + (1 * τ 18503 + 0)) := hf _ (List.Mem.tail _ (List.Mem.tail _ (List.Mem.tail _ (List.Mem.tail _ (List.Mem.tail _ (List.Mem.tail _ (List.Mem.tail _ (List.Mem.tail _ (List.Mem.tail _ (List.Mem.tail _ (List.Mem.tail _ (List.Mem.tail _ (List.Mem.tail _ (List.Mem.tail _ (List.Mem.tail _ (List.Mem.head _))))))))))))))))
  clear hf hm
  have ej : a1 = 2 := by omega
  subst ej
  have ek : a3 = 1 := by omega
  subst ek
  simp only [lw_sel0, lw_sel1, lw_sel2, lw_sel3]
  exact Or.inl ⟨by omega, by omega, by omega, by omega, by omega, by omega, by omega, by omega, by omega, by omega, by omega, by omega, by omega⟩
theorem lw_pm_88 {as : List rv_A} {σ σ' : Nat → Int} {o : rv_O} {x : Int32} {a1 a2 a3 a4 a5 : Int} {τ : Nat → Int} (hx : o.1 = some (.inl x)) (h1 : lw_av as 1 = a1) (h2 : lw_av as 2 = a2) (h3 : lw_av as 3 = a3) (h4 : lw_av as 4 = a4) (h5 : lw_av as 5 = a5) (hb : ∀ s, (sx_sr s).1 ≤ σ s ∧ σ s ≤ (sx_sr s).2) (hW : lw_W ([], [(0, [(18506, 1)]), (0, [(18508, 1)]), ((-1), [(19001, 1)]), (1, [(19001, (-1))]), (0, [(19002, 1)]), (60, [(19002, (-1))]), ((-3), [(19003, 1)]), (3, [(19003, (-1))]), (0, [(19004, 1)]), (60, [(19004, (-1))]), (0, [(19005, 1)]), (60, [(19005, (-1))]), (0, [(18508, 1), (19004, (-1)), (19005, (-1))]), (0, [(18506, 1), (19002, (-1)), (19005, (-1))]), (0, [(18502, (-1)), (18504, 1)]), (0, [(18502, 1), (18504, (-1))])], [(12800, (0, []))], some (false, (1, []))) as σ σ' τ o) : lw_pm_C a1 a2 a3 a4 a5 x.toInt σ σ' := by
  unfold lw_pm_C
  have b18501 : 0 ≤ σ 18501 ∧ σ 18501 ≤ 3 := by
    have h0 := hb 18501
    rw [show sx_sr 18501 = (0, 3) from by decide +kernel] at h0
    exact h0
  have b18502 : 0 ≤ σ 18502 ∧ σ 18502 ≤ 3 := by
    have h0 := hb 18502
    rw [show sx_sr 18502 = (0, 3) from by decide +kernel] at h0
    exact h0
  have b18503 : 0 ≤ σ 18503 ∧ σ 18503 ≤ 3 := by
    have h0 := hb 18503
    rw [show sx_sr 18503 = (0, 3) from by decide +kernel] at h0
    exact h0
  have b18504 : 0 ≤ σ 18504 ∧ σ 18504 ≤ 3 := by
    have h0 := hb 18504
    rw [show sx_sr 18504 = (0, 3) from by decide +kernel] at h0
    exact h0
  have b18505 : (-1) ≤ σ 18505 ∧ σ 18505 ≤ 60 := by
    have h0 := hb 18505
    rw [show sx_sr 18505 = ((-1), 60) from by decide +kernel] at h0
    exact h0
  have b18506 : (-1) ≤ σ 18506 ∧ σ 18506 ≤ 60 := by
    have h0 := hb 18506
    rw [show sx_sr 18506 = ((-1), 60) from by decide +kernel] at h0
    exact h0
  have b18507 : (-1) ≤ σ 18507 ∧ σ 18507 ≤ 60 := by
    have h0 := hb 18507
    rw [show sx_sr 18507 = ((-1), 60) from by decide +kernel] at h0
    exact h0
  have b18508 : (-1) ≤ σ 18508 ∧ σ 18508 ≤ 60 := by
    have h0 := hb 18508
    rw [show sx_sr 18508 = ((-1), 60) from by decide +kernel] at h0
    exact h0
  obtain ⟨hs, ht, hf, hr, hm, hw⟩ := hW
  have e1 : τ 19001 = a1 := by rw [ht 19001 (by decide) (by decide)]; exact h1
  have e2 : τ 19002 = a2 := by rw [ht 19002 (by decide) (by decide)]; exact h2
  have e3 : τ 19003 = a3 := by rw [ht 19003 (by decide) (by decide)]; exact h3
  have e4 : τ 19004 = a4 := by rw [ht 19004 (by decide) (by decide)]; exact h4
  have e5 : τ 19005 = a5 := by rw [ht 19005 (by decide) (by decide)]; exact h5
  have s18501 : τ 18501 = σ 18501 := hs 18501 (by decide)
  have s18502 : τ 18502 = σ 18502 := hs 18502 (by decide)
  have s18503 : τ 18503 = σ 18503 := hs 18503 (by decide)
  have s18504 : τ 18504 = σ 18504 := hs 18504 (by decide)
  have s18505 : τ 18505 = σ 18505 := hs 18505 (by decide)
  have s18506 : τ 18506 = σ 18506 := hs 18506 (by decide)
  have s18507 : τ 18507 = σ 18507 := hs 18507 (by decide)
  have s18508 : τ 18508 = σ 18508 := hs 18508 (by decide)
  clear hs ht hb
  rw [hx] at hr
  obtain ⟨y, hy, hv⟩ := hr
  cases hy
  replace hv : x.toInt = 1 + 0 := hv
  have f0 : 0 ≤ 0 + (1 * τ 18506 + 0) := hf _ (List.Mem.head _)
  have f1 : 0 ≤ 0 + (1 * τ 18508 + 0) := hf _ (List.Mem.tail _ (List.Mem.head _))
  have f2 : 0 ≤ (-1) + (1 * τ 19001 + 0) := hf _ (List.Mem.tail _ (List.Mem.tail _ (List.Mem.head _)))
  have f3 : 0 ≤ 1 + ((-1) * τ 19001 + 0) := hf _ (List.Mem.tail _ (List.Mem.tail _ (List.Mem.tail _ (List.Mem.head _))))
  have f4 : 0 ≤ 0 + (1 * τ 19002 + 0) := hf _ (List.Mem.tail _ (List.Mem.tail _ (List.Mem.tail _ (List.Mem.tail _ (List.Mem.head _)))))
  have f5 : 0 ≤ 60 + ((-1) * τ 19002 + 0) := hf _ (List.Mem.tail _ (List.Mem.tail _ (List.Mem.tail _ (List.Mem.tail _ (List.Mem.tail _ (List.Mem.head _))))))
  have f6 : 0 ≤ (-3) + (1 * τ 19003 + 0) := hf _ (List.Mem.tail _ (List.Mem.tail _ (List.Mem.tail _ (List.Mem.tail _ (List.Mem.tail _ (List.Mem.tail _ (List.Mem.head _)))))))
  have f7 : 0 ≤ 3 + ((-1) * τ 19003 + 0) := hf _ (List.Mem.tail _ (List.Mem.tail _ (List.Mem.tail _ (List.Mem.tail _ (List.Mem.tail _ (List.Mem.tail _ (List.Mem.tail _ (List.Mem.head _))))))))
  have f8 : 0 ≤ 0 + (1 * τ 19004 + 0) := hf _ (List.Mem.tail _ (List.Mem.tail _ (List.Mem.tail _ (List.Mem.tail _ (List.Mem.tail _ (List.Mem.tail _ (List.Mem.tail _ (List.Mem.tail _ (List.Mem.head _)))))))))
  have f9 : 0 ≤ 60 + ((-1) * τ 19004 + 0) := hf _ (List.Mem.tail _ (List.Mem.tail _ (List.Mem.tail _ (List.Mem.tail _ (List.Mem.tail _ (List.Mem.tail _ (List.Mem.tail _ (List.Mem.tail _ (List.Mem.tail _ (List.Mem.head _))))))))))
  have f10 : 0 ≤ 0 + (1 * τ 19005 + 0) := hf _ (List.Mem.tail _ (List.Mem.tail _ (List.Mem.tail _ (List.Mem.tail _ (List.Mem.tail _ (List.Mem.tail _ (List.Mem.tail _ (List.Mem.tail _ (List.Mem.tail _ (List.Mem.tail _ (List.Mem.head _)))))))))))
  have f11 : 0 ≤ 60 + ((-1) * τ 19005 + 0) := hf _ (List.Mem.tail _ (List.Mem.tail _ (List.Mem.tail _ (List.Mem.tail _ (List.Mem.tail _ (List.Mem.tail _ (List.Mem.tail _ (List.Mem.tail _ (List.Mem.tail _ (List.Mem.tail _ (List.Mem.tail _ (List.Mem.head _))))))))))))
  have f12 : 0 ≤ 0 + (1 * τ 18508 + ((-1) * τ 19004 + ((-1) * τ 19005 + 0))) := hf _ (List.Mem.tail _ (List.Mem.tail _ (List.Mem.tail _ (List.Mem.tail _ (List.Mem.tail _ (List.Mem.tail _ (List.Mem.tail _ (List.Mem.tail _ (List.Mem.tail _ (List.Mem.tail _ (List.Mem.tail _ (List.Mem.tail _ (List.Mem.head _)))))))))))))
  have f13 : 0 ≤ 0 + (1 * τ 18506 + ((-1) * τ 19002 + ((-1) * τ 19005 + 0))) := hf _ (List.Mem.tail _ (List.Mem.tail _ (List.Mem.tail _ (List.Mem.tail _ (List.Mem.tail _ (List.Mem.tail _ (List.Mem.tail _ (List.Mem.tail _ (List.Mem.tail _ (List.Mem.tail _ (List.Mem.tail _ (List.Mem.tail _ (List.Mem.tail _ (List.Mem.head _))))))))))))))
  have f14 : 0 ≤ 0 + ((-1) * τ 18502 + (1 * τ 18504 + 0)) := hf _ (List.Mem.tail _ (List.Mem.tail _ (List.Mem.tail _ (List.Mem.tail _ (List.Mem.tail _ (List.Mem.tail _ (List.Mem.tail _ (List.Mem.tail _ (List.Mem.tail _ (List.Mem.tail _ (List.Mem.tail _ (List.Mem.tail _ (List.Mem.tail _ (List.Mem.tail _ (List.Mem.head _)))))))))))))))
  have f15 : 0 ≤ 0 + (1 * τ 18502 + ((-1) * τ 18504 + 0)) := hf _ (List.Mem.tail _ (List.Mem.tail _ (List.Mem.tail _ (List.Mem.tail _ (List.Mem.tail _ (List.Mem.tail _ (List.Mem.tail _ (List.Mem.tail _ (List.Mem.tail _ (List.Mem.tail _ (List.Mem.tail _ (List.Mem.tail _ (List.Mem.tail _ (List.Mem.tail _ (List.Mem.tail _ (List.Mem.head _))))))))))))))))
  clear hf hm
  have ej : a1 = 1 := by omega
  subst ej
  have ek : a3 = 3 := by omega
  subst ek
  simp only [lw_sel0, lw_sel1, lw_sel2, lw_sel3]
  exact Or.inl ⟨by omega, by omega, by omega, by omega, by omega, by omega, by omega, by omega, by omega, by omega, by omega, by omega, by omega⟩
theorem lw_pm_89 {as : List rv_A} {σ σ' : Nat → Int} {o : rv_O} {x : Int32} {a1 a2 a3 a4 a5 : Int} {τ : Nat → Int} (hx : o.1 = some (.inl x)) (h1 : lw_av as 1 = a1) (h2 : lw_av as 2 = a2) (h3 : lw_av as 3 = a3) (h4 : lw_av as 4 = a4) (h5 : lw_av as 5 = a5) (hb : ∀ s, (sx_sr s).1 ≤ σ s ∧ σ s ≤ (sx_sr s).2) (hW : lw_W ([], [(0, [(18506, 1)]), (0, [(18508, 1)]), ((-3), [(19001, 1)]), (3, [(19001, (-1))]), (0, [(19002, 1)]), (60, [(19002, (-1))]), ((-1), [(19003, 1)]), (1, [(19003, (-1))]), (0, [(19004, 1)]), (60, [(19004, (-1))]), (0, [(19005, 1)]), (60, [(19005, (-1))]), (0, [(18506, 1), (19004, (-1)), (19005, (-1))]), (0, [(18508, 1), (19002, (-1)), (19005, (-1))]), (0, [(18502, 1), (18504, (-1))]), (0, [(18502, (-1)), (18504, 1)])], [(12800, (0, []))], some (false, (1, []))) as σ σ' τ o) : lw_pm_C a1 a2 a3 a4 a5 x.toInt σ σ' := by
  unfold lw_pm_C
  have b18501 : 0 ≤ σ 18501 ∧ σ 18501 ≤ 3 := by
    have h0 := hb 18501
    rw [show sx_sr 18501 = (0, 3) from by decide +kernel] at h0
    exact h0
  have b18502 : 0 ≤ σ 18502 ∧ σ 18502 ≤ 3 := by
    have h0 := hb 18502
    rw [show sx_sr 18502 = (0, 3) from by decide +kernel] at h0
    exact h0
  have b18503 : 0 ≤ σ 18503 ∧ σ 18503 ≤ 3 := by
    have h0 := hb 18503
    rw [show sx_sr 18503 = (0, 3) from by decide +kernel] at h0
    exact h0
  have b18504 : 0 ≤ σ 18504 ∧ σ 18504 ≤ 3 := by
    have h0 := hb 18504
    rw [show sx_sr 18504 = (0, 3) from by decide +kernel] at h0
    exact h0
  have b18505 : (-1) ≤ σ 18505 ∧ σ 18505 ≤ 60 := by
    have h0 := hb 18505
    rw [show sx_sr 18505 = ((-1), 60) from by decide +kernel] at h0
    exact h0
  have b18506 : (-1) ≤ σ 18506 ∧ σ 18506 ≤ 60 := by
    have h0 := hb 18506
    rw [show sx_sr 18506 = ((-1), 60) from by decide +kernel] at h0
    exact h0
  have b18507 : (-1) ≤ σ 18507 ∧ σ 18507 ≤ 60 := by
    have h0 := hb 18507
    rw [show sx_sr 18507 = ((-1), 60) from by decide +kernel] at h0
    exact h0
  have b18508 : (-1) ≤ σ 18508 ∧ σ 18508 ≤ 60 := by
    have h0 := hb 18508
    rw [show sx_sr 18508 = ((-1), 60) from by decide +kernel] at h0
    exact h0
  obtain ⟨hs, ht, hf, hr, hm, hw⟩ := hW
  have e1 : τ 19001 = a1 := by rw [ht 19001 (by decide) (by decide)]; exact h1
  have e2 : τ 19002 = a2 := by rw [ht 19002 (by decide) (by decide)]; exact h2
  have e3 : τ 19003 = a3 := by rw [ht 19003 (by decide) (by decide)]; exact h3
  have e4 : τ 19004 = a4 := by rw [ht 19004 (by decide) (by decide)]; exact h4
  have e5 : τ 19005 = a5 := by rw [ht 19005 (by decide) (by decide)]; exact h5
  have s18501 : τ 18501 = σ 18501 := hs 18501 (by decide)
  have s18502 : τ 18502 = σ 18502 := hs 18502 (by decide)
  have s18503 : τ 18503 = σ 18503 := hs 18503 (by decide)
  have s18504 : τ 18504 = σ 18504 := hs 18504 (by decide)
  have s18505 : τ 18505 = σ 18505 := hs 18505 (by decide)
  have s18506 : τ 18506 = σ 18506 := hs 18506 (by decide)
  have s18507 : τ 18507 = σ 18507 := hs 18507 (by decide)
  have s18508 : τ 18508 = σ 18508 := hs 18508 (by decide)
  clear hs ht hb
  rw [hx] at hr
  obtain ⟨y, hy, hv⟩ := hr
  cases hy
  replace hv : x.toInt = 1 + 0 := hv
  have f0 : 0 ≤ 0 + (1 * τ 18506 + 0) := hf _ (List.Mem.head _)
  have f1 : 0 ≤ 0 + (1 * τ 18508 + 0) := hf _ (List.Mem.tail _ (List.Mem.head _))
  have f2 : 0 ≤ (-3) + (1 * τ 19001 + 0) := hf _ (List.Mem.tail _ (List.Mem.tail _ (List.Mem.head _)))
  have f3 : 0 ≤ 3 + ((-1) * τ 19001 + 0) := hf _ (List.Mem.tail _ (List.Mem.tail _ (List.Mem.tail _ (List.Mem.head _))))
  have f4 : 0 ≤ 0 + (1 * τ 19002 + 0) := hf _ (List.Mem.tail _ (List.Mem.tail _ (List.Mem.tail _ (List.Mem.tail _ (List.Mem.head _)))))
  have f5 : 0 ≤ 60 + ((-1) * τ 19002 + 0) := hf _ (List.Mem.tail _ (List.Mem.tail _ (List.Mem.tail _ (List.Mem.tail _ (List.Mem.tail _ (List.Mem.head _))))))
  have f6 : 0 ≤ (-1) + (1 * τ 19003 + 0) := hf _ (List.Mem.tail _ (List.Mem.tail _ (List.Mem.tail _ (List.Mem.tail _ (List.Mem.tail _ (List.Mem.tail _ (List.Mem.head _)))))))
  have f7 : 0 ≤ 1 + ((-1) * τ 19003 + 0) := hf _ (List.Mem.tail _ (List.Mem.tail _ (List.Mem.tail _ (List.Mem.tail _ (List.Mem.tail _ (List.Mem.tail _ (List.Mem.tail _ (List.Mem.head _))))))))
  have f8 : 0 ≤ 0 + (1 * τ 19004 + 0) := hf _ (List.Mem.tail _ (List.Mem.tail _ (List.Mem.tail _ (List.Mem.tail _ (List.Mem.tail _ (List.Mem.tail _ (List.Mem.tail _ (List.Mem.tail _ (List.Mem.head _)))))))))
  have f9 : 0 ≤ 60 + ((-1) * τ 19004 + 0) := hf _ (List.Mem.tail _ (List.Mem.tail _ (List.Mem.tail _ (List.Mem.tail _ (List.Mem.tail _ (List.Mem.tail _ (List.Mem.tail _ (List.Mem.tail _ (List.Mem.tail _ (List.Mem.head _))))))))))
  have f10 : 0 ≤ 0 + (1 * τ 19005 + 0) := hf _ (List.Mem.tail _ (List.Mem.tail _ (List.Mem.tail _ (List.Mem.tail _ (List.Mem.tail _ (List.Mem.tail _ (List.Mem.tail _ (List.Mem.tail _ (List.Mem.tail _ (List.Mem.tail _ (List.Mem.head _)))))))))))
  have f11 : 0 ≤ 60 + ((-1) * τ 19005 + 0) := hf _ (List.Mem.tail _ (List.Mem.tail _ (List.Mem.tail _ (List.Mem.tail _ (List.Mem.tail _ (List.Mem.tail _ (List.Mem.tail _ (List.Mem.tail _ (List.Mem.tail _ (List.Mem.tail _ (List.Mem.tail _ (List.Mem.head _))))))))))))
  have f12 : 0 ≤ 0 + (1 * τ 18506 + ((-1) * τ 19004 + ((-1) * τ 19005 + 0))) := hf _ (List.Mem.tail _ (List.Mem.tail _ (List.Mem.tail _ (List.Mem.tail _ (List.Mem.tail _ (List.Mem.tail _ (List.Mem.tail _ (List.Mem.tail _ (List.Mem.tail _ (List.Mem.tail _ (List.Mem.tail _ (List.Mem.tail _ (List.Mem.head _)))))))))))))
  have f13 : 0 ≤ 0 + (1 * τ 18508 + ((-1) * τ 19002 + ((-1) * τ 19005 + 0))) := hf _ (List.Mem.tail _ (List.Mem.tail _ (List.Mem.tail _ (List.Mem.tail _ (List.Mem.tail _ (List.Mem.tail _ (List.Mem.tail _ (List.Mem.tail _ (List.Mem.tail _ (List.Mem.tail _ (List.Mem.tail _ (List.Mem.tail _ (List.Mem.tail _ (List.Mem.head _))))))))))))))
  have f14 : 0 ≤ 0 + (1 * τ 18502 + ((-1) * τ 18504 + 0)) := hf _ (List.Mem.tail _ (List.Mem.tail _ (List.Mem.tail _ (List.Mem.tail _ (List.Mem.tail _ (List.Mem.tail _ (List.Mem.tail _ (List.Mem.tail _ (List.Mem.tail _ (List.Mem.tail _ (List.Mem.tail _ (List.Mem.tail _ (List.Mem.tail _ (List.Mem.tail _ (List.Mem.head _)))))))))))))))
  have f15 : 0 ≤ 0 + ((-1) * τ 18502 + (1 * τ 18504 + 0)) := hf _ (List.Mem.tail _ (List.Mem.tail _ (List.Mem.tail _ (List.Mem.tail _ (List.Mem.tail _ (List.Mem.tail _ (List.Mem.tail _ (List.Mem.tail _ (List.Mem.tail _ (List.Mem.tail _ (List.Mem.tail _ (List.Mem.tail _ (List.Mem.tail _ (List.Mem.tail _ (List.Mem.tail _ (List.Mem.head _))))))))))))))))
  clear hf hm
  have ej : a1 = 3 := by omega
  subst ej
  have ek : a3 = 1 := by omega
  subst ek
  simp only [lw_sel0, lw_sel1, lw_sel2, lw_sel3]
  exact Or.inl ⟨by omega, by omega, by omega, by omega, by omega, by omega, by omega, by omega, by omega, by omega, by omega, by omega, by omega⟩
theorem lw_pm_90 {as : List rv_A} {σ σ' : Nat → Int} {o : rv_O} {x : Int32} {a1 a2 a3 a4 a5 : Int} {τ : Nat → Int} (hx : o.1 = some (.inl x)) (h1 : lw_av as 1 = a1) (h2 : lw_av as 2 = a2) (h3 : lw_av as 3 = a3) (h4 : lw_av as 4 = a4) (h5 : lw_av as 5 = a5) (hb : ∀ s, (sx_sr s).1 ≤ σ s ∧ σ s ≤ (sx_sr s).2) (hW : lw_W ([], [(0, [(18506, 1)]), ((-1), [(19001, 1)]), (1, [(19001, (-1))]), (0, [(19002, 1)]), (60, [(19002, (-1))]), ((-1), [(19003, 1)]), (1, [(19003, (-1))]), (0, [(19004, 1)]), (60, [(19004, (-1))]), (0, [(19005, 1)]), (60, [(19005, (-1))]), (0, [(18506, 1), (19004, (-1)), (19005, (-1))]), (0, [(18506, 1), (19002, (-1)), (19005, (-1))])], [(12800, (0, []))], some (false, (1, []))) as σ σ' τ o) : lw_pm_C a1 a2 a3 a4 a5 x.toInt σ σ' := by
  unfold lw_pm_C
  have b18501 : 0 ≤ σ 18501 ∧ σ 18501 ≤ 3 := by
    have h0 := hb 18501
    rw [show sx_sr 18501 = (0, 3) from by decide +kernel] at h0
    exact h0
  have b18502 : 0 ≤ σ 18502 ∧ σ 18502 ≤ 3 := by
    have h0 := hb 18502
    rw [show sx_sr 18502 = (0, 3) from by decide +kernel] at h0
    exact h0
  have b18503 : 0 ≤ σ 18503 ∧ σ 18503 ≤ 3 := by
    have h0 := hb 18503
    rw [show sx_sr 18503 = (0, 3) from by decide +kernel] at h0
    exact h0
  have b18504 : 0 ≤ σ 18504 ∧ σ 18504 ≤ 3 := by
    have h0 := hb 18504
    rw [show sx_sr 18504 = (0, 3) from by decide +kernel] at h0
    exact h0
  have b18505 : (-1) ≤ σ 18505 ∧ σ 18505 ≤ 60 := by
    have h0 := hb 18505
    rw [show sx_sr 18505 = ((-1), 60) from by decide +kernel] at h0
    exact h0
  have b18506 : (-1) ≤ σ 18506 ∧ σ 18506 ≤ 60 := by
    have h0 := hb 18506
    rw [show sx_sr 18506 = ((-1), 60) from by decide +kernel] at h0
    exact h0
  have b18507 : (-1) ≤ σ 18507 ∧ σ 18507 ≤ 60 := by
    have h0 := hb 18507
    rw [show sx_sr 18507 = ((-1), 60) from by decide +kernel] at h0
    exact h0
  have b18508 : (-1) ≤ σ 18508 ∧ σ 18508 ≤ 60 := by
    have h0 := hb 18508
    rw [show sx_sr 18508 = ((-1), 60) from by decide +kernel] at h0
    exact h0
  obtain ⟨hs, ht, hf, hr, hm, hw⟩ := hW
  have e1 : τ 19001 = a1 := by rw [ht 19001 (by decide) (by decide)]; exact h1
  have e2 : τ 19002 = a2 := by rw [ht 19002 (by decide) (by decide)]; exact h2
  have e3 : τ 19003 = a3 := by rw [ht 19003 (by decide) (by decide)]; exact h3
  have e4 : τ 19004 = a4 := by rw [ht 19004 (by decide) (by decide)]; exact h4
  have e5 : τ 19005 = a5 := by rw [ht 19005 (by decide) (by decide)]; exact h5
  have s18501 : τ 18501 = σ 18501 := hs 18501 (by decide)
  have s18502 : τ 18502 = σ 18502 := hs 18502 (by decide)
  have s18503 : τ 18503 = σ 18503 := hs 18503 (by decide)
  have s18504 : τ 18504 = σ 18504 := hs 18504 (by decide)
  have s18505 : τ 18505 = σ 18505 := hs 18505 (by decide)
  have s18506 : τ 18506 = σ 18506 := hs 18506 (by decide)
  have s18507 : τ 18507 = σ 18507 := hs 18507 (by decide)
  have s18508 : τ 18508 = σ 18508 := hs 18508 (by decide)
  clear hs ht hb
  rw [hx] at hr
  obtain ⟨y, hy, hv⟩ := hr
  cases hy
  replace hv : x.toInt = 1 + 0 := hv
  have f0 : 0 ≤ 0 + (1 * τ 18506 + 0) := hf _ (List.Mem.head _)
  have f1 : 0 ≤ (-1) + (1 * τ 19001 + 0) := hf _ (List.Mem.tail _ (List.Mem.head _))
  have f2 : 0 ≤ 1 + ((-1) * τ 19001 + 0) := hf _ (List.Mem.tail _ (List.Mem.tail _ (List.Mem.head _)))
  have f3 : 0 ≤ 0 + (1 * τ 19002 + 0) := hf _ (List.Mem.tail _ (List.Mem.tail _ (List.Mem.tail _ (List.Mem.head _))))
  have f4 : 0 ≤ 60 + ((-1) * τ 19002 + 0) := hf _ (List.Mem.tail _ (List.Mem.tail _ (List.Mem.tail _ (List.Mem.tail _ (List.Mem.head _)))))
  have f5 : 0 ≤ (-1) + (1 * τ 19003 + 0) := hf _ (List.Mem.tail _ (List.Mem.tail _ (List.Mem.tail _ (List.Mem.tail _ (List.Mem.tail _ (List.Mem.head _))))))
  have f6 : 0 ≤ 1 + ((-1) * τ 19003 + 0) := hf _ (List.Mem.tail _ (List.Mem.tail _ (List.Mem.tail _ (List.Mem.tail _ (List.Mem.tail _ (List.Mem.tail _ (List.Mem.head _)))))))
  have f7 : 0 ≤ 0 + (1 * τ 19004 + 0) := hf _ (List.Mem.tail _ (List.Mem.tail _ (List.Mem.tail _ (List.Mem.tail _ (List.Mem.tail _ (List.Mem.tail _ (List.Mem.tail _ (List.Mem.head _))))))))
  have f8 : 0 ≤ 60 + ((-1) * τ 19004 + 0) := hf _ (List.Mem.tail _ (List.Mem.tail _ (List.Mem.tail _ (List.Mem.tail _ (List.Mem.tail _ (List.Mem.tail _ (List.Mem.tail _ (List.Mem.tail _ (List.Mem.head _)))))))))
  have f9 : 0 ≤ 0 + (1 * τ 19005 + 0) := hf _ (List.Mem.tail _ (List.Mem.tail _ (List.Mem.tail _ (List.Mem.tail _ (List.Mem.tail _ (List.Mem.tail _ (List.Mem.tail _ (List.Mem.tail _ (List.Mem.tail _ (List.Mem.head _))))))))))
  have f10 : 0 ≤ 60 + ((-1) * τ 19005 + 0) := hf _ (List.Mem.tail _ (List.Mem.tail _ (List.Mem.tail _ (List.Mem.tail _ (List.Mem.tail _ (List.Mem.tail _ (List.Mem.tail _ (List.Mem.tail _ (List.Mem.tail _ (List.Mem.tail _ (List.Mem.head _)))))))))))
  have f11 : 0 ≤ 0 + (1 * τ 18506 + ((-1) * τ 19004 + ((-1) * τ 19005 + 0))) := hf _ (List.Mem.tail _ (List.Mem.tail _ (List.Mem.tail _ (List.Mem.tail _ (List.Mem.tail _ (List.Mem.tail _ (List.Mem.tail _ (List.Mem.tail _ (List.Mem.tail _ (List.Mem.tail _ (List.Mem.tail _ (List.Mem.head _))))))))))))
  have f12 : 0 ≤ 0 + (1 * τ 18506 + ((-1) * τ 19002 + ((-1) * τ 19005 + 0))) := hf _ (List.Mem.tail _ (List.Mem.tail _ (List.Mem.tail _ (List.Mem.tail _ (List.Mem.tail _ (List.Mem.tail _ (List.Mem.tail _ (List.Mem.tail _ (List.Mem.tail _ (List.Mem.tail _ (List.Mem.tail _ (List.Mem.tail _ (List.Mem.head _)))))))))))))
  clear hf hm
  have ej : a1 = 1 := by omega
  subst ej
  have ek : a3 = 1 := by omega
  subst ek
  simp only [lw_sel0, lw_sel1, lw_sel2, lw_sel3]
  exact Or.inl ⟨by omega, by omega, by omega, by omega, by omega, by omega, by omega, by omega, by omega, by omega, by omega, by omega, by omega⟩
theorem lw_pm_91 {as : List rv_A} {σ σ' : Nat → Int} {o : rv_O} {x : Int32} {a1 a2 a3 a4 a5 : Int} {τ : Nat → Int} (hx : o.1 = some (.inl x)) (h1 : lw_av as 1 = a1) (h2 : lw_av as 2 = a2) (h3 : lw_av as 3 = a3) (h4 : lw_av as 4 = a4) (h5 : lw_av as 5 = a5) (hb : ∀ s, (sx_sr s).1 ≤ σ s ∧ σ s ≤ (sx_sr s).2) (hW : lw_W ([], [(0, [(18507, 1)]), (0, [(18508, 1)]), ((-2), [(19001, 1)]), (2, [(19001, (-1))]), (0, [(19002, 1)]), (60, [(19002, (-1))]), ((-3), [(19003, 1)]), (3, [(19003, (-1))]), (0, [(19004, 1)]), (60, [(19004, (-1))]), (0, [(19005, 1)]), (60, [(19005, (-1))]), (0, [(18508, 1), (19004, (-1)), (19005, (-1))]), (0, [(18507, 1), (19002, (-1)), (19005, (-1))]), (0, [(18503, (-1)), (18504, 1)]), (0, [(18503, 1), (18504, (-1))])], [(12800, (0, []))], some (false, (1, []))) as σ σ' τ o) : lw_pm_C a1 a2 a3 a4 a5 x.toInt σ σ' := by
  unfold lw_pm_C
  have b18501 : 0 ≤ σ 18501 ∧ σ 18501 ≤ 3 := by
    have h0 := hb 18501
    rw [show sx_sr 18501 = (0, 3) from by decide +kernel] at h0
    exact h0
  have b18502 : 0 ≤ σ 18502 ∧ σ 18502 ≤ 3 := by
    have h0 := hb 18502
    rw [show sx_sr 18502 = (0, 3) from by decide +kernel] at h0
    exact h0
  have b18503 : 0 ≤ σ 18503 ∧ σ 18503 ≤ 3 := by
    have h0 := hb 18503
    rw [show sx_sr 18503 = (0, 3) from by decide +kernel] at h0
    exact h0
  have b18504 : 0 ≤ σ 18504 ∧ σ 18504 ≤ 3 := by
    have h0 := hb 18504
    rw [show sx_sr 18504 = (0, 3) from by decide +kernel] at h0
    exact h0
  have b18505 : (-1) ≤ σ 18505 ∧ σ 18505 ≤ 60 := by
    have h0 := hb 18505
    rw [show sx_sr 18505 = ((-1), 60) from by decide +kernel] at h0
    exact h0
  have b18506 : (-1) ≤ σ 18506 ∧ σ 18506 ≤ 60 := by
    have h0 := hb 18506
    rw [show sx_sr 18506 = ((-1), 60) from by decide +kernel] at h0
    exact h0
  have b18507 : (-1) ≤ σ 18507 ∧ σ 18507 ≤ 60 := by
    have h0 := hb 18507
    rw [show sx_sr 18507 = ((-1), 60) from by decide +kernel] at h0
    exact h0
  have b18508 : (-1) ≤ σ 18508 ∧ σ 18508 ≤ 60 := by
    have h0 := hb 18508
    rw [show sx_sr 18508 = ((-1), 60) from by decide +kernel] at h0
    exact h0
  obtain ⟨hs, ht, hf, hr, hm, hw⟩ := hW
  have e1 : τ 19001 = a1 := by rw [ht 19001 (by decide) (by decide)]; exact h1
  have e2 : τ 19002 = a2 := by rw [ht 19002 (by decide) (by decide)]; exact h2
  have e3 : τ 19003 = a3 := by rw [ht 19003 (by decide) (by decide)]; exact h3
  have e4 : τ 19004 = a4 := by rw [ht 19004 (by decide) (by decide)]; exact h4
  have e5 : τ 19005 = a5 := by rw [ht 19005 (by decide) (by decide)]; exact h5
  have s18501 : τ 18501 = σ 18501 := hs 18501 (by decide)
  have s18502 : τ 18502 = σ 18502 := hs 18502 (by decide)
  have s18503 : τ 18503 = σ 18503 := hs 18503 (by decide)
  have s18504 : τ 18504 = σ 18504 := hs 18504 (by decide)
  have s18505 : τ 18505 = σ 18505 := hs 18505 (by decide)
  have s18506 : τ 18506 = σ 18506 := hs 18506 (by decide)
  have s18507 : τ 18507 = σ 18507 := hs 18507 (by decide)
  have s18508 : τ 18508 = σ 18508 := hs 18508 (by decide)
  clear hs ht hb
  rw [hx] at hr
  obtain ⟨y, hy, hv⟩ := hr
  cases hy
  replace hv : x.toInt = 1 + 0 := hv
  have f0 : 0 ≤ 0 + (1 * τ 18507 + 0) := hf _ (List.Mem.head _)
  have f1 : 0 ≤ 0 + (1 * τ 18508 + 0) := hf _ (List.Mem.tail _ (List.Mem.head _))
  have f2 : 0 ≤ (-2) + (1 * τ 19001 + 0) := hf _ (List.Mem.tail _ (List.Mem.tail _ (List.Mem.head _)))
  have f3 : 0 ≤ 2 + ((-1) * τ 19001 + 0) := hf _ (List.Mem.tail _ (List.Mem.tail _ (List.Mem.tail _ (List.Mem.head _))))
  have f4 : 0 ≤ 0 + (1 * τ 19002 + 0) := hf _ (List.Mem.tail _ (List.Mem.tail _ (List.Mem.tail _ (List.Mem.tail _ (List.Mem.head _)))))
  have f5 : 0 ≤ 60 + ((-1) * τ 19002 + 0) := hf _ (List.Mem.tail _ (List.Mem.tail _ (List.Mem.tail _ (List.Mem.tail _ (List.Mem.tail _ (List.Mem.head _))))))
  have f6 : 0 ≤ (-3) + (1 * τ 19003 + 0) := hf _ (List.Mem.tail _ (List.Mem.tail _ (List.Mem.tail _ (List.Mem.tail _ (List.Mem.tail _ (List.Mem.tail _ (List.Mem.head _)))))))
  have f7 : 0 ≤ 3 + ((-1) * τ 19003 + 0) := hf _ (List.Mem.tail _ (List.Mem.tail _ (List.Mem.tail _ (List.Mem.tail _ (List.Mem.tail _ (List.Mem.tail _ (List.Mem.tail _ (List.Mem.head _))))))))
  have f8 : 0 ≤ 0 + (1 * τ 19004 + 0) := hf _ (List.Mem.tail _ (List.Mem.tail _ (List.Mem.tail _ (List.Mem.tail _ (List.Mem.tail _ (List.Mem.tail _ (List.Mem.tail _ (List.Mem.tail _ (List.Mem.head _)))))))))
  have f9 : 0 ≤ 60 + ((-1) * τ 19004 + 0) := hf _ (List.Mem.tail _ (List.Mem.tail _ (List.Mem.tail _ (List.Mem.tail _ (List.Mem.tail _ (List.Mem.tail _ (List.Mem.tail _ (List.Mem.tail _ (List.Mem.tail _ (List.Mem.head _))))))))))
  have f10 : 0 ≤ 0 + (1 * τ 19005 + 0) := hf _ (List.Mem.tail _ (List.Mem.tail _ (List.Mem.tail _ (List.Mem.tail _ (List.Mem.tail _ (List.Mem.tail _ (List.Mem.tail _ (List.Mem.tail _ (List.Mem.tail _ (List.Mem.tail _ (List.Mem.head _)))))))))))
  have f11 : 0 ≤ 60 + ((-1) * τ 19005 + 0) := hf _ (List.Mem.tail _ (List.Mem.tail _ (List.Mem.tail _ (List.Mem.tail _ (List.Mem.tail _ (List.Mem.tail _ (List.Mem.tail _ (List.Mem.tail _ (List.Mem.tail _ (List.Mem.tail _ (List.Mem.tail _ (List.Mem.head _))))))))))))
  have f12 : 0 ≤ 0 + (1 * τ 18508 + ((-1) * τ 19004 + ((-1) * τ 19005 + 0))) := hf _ (List.Mem.tail _ (List.Mem.tail _ (List.Mem.tail _ (List.Mem.tail _ (List.Mem.tail _ (List.Mem.tail _ (List.Mem.tail _ (List.Mem.tail _ (List.Mem.tail _ (List.Mem.tail _ (List.Mem.tail _ (List.Mem.tail _ (List.Mem.head _)))))))))))))
  have f13 : 0 ≤ 0 + (1 * τ 18507 + ((-1) * τ 19002 + ((-1) * τ 19005 + 0))) := hf _ (List.Mem.tail _ (List.Mem.tail _ (List.Mem.tail _ (List.Mem.tail _ (List.Mem.tail _ (List.Mem.tail _ (List.Mem.tail _ (List.Mem.tail _ (List.Mem.tail _ (List.Mem.tail _ (List.Mem.tail _ (List.Mem.tail _ (List.Mem.tail _ (List.Mem.head _))))))))))))))
  have f14 : 0 ≤ 0 + ((-1) * τ 18503 + (1 * τ 18504 + 0)) := hf _ (List.Mem.tail _ (List.Mem.tail _ (List.Mem.tail _ (List.Mem.tail _ (List.Mem.tail _ (List.Mem.tail _ (List.Mem.tail _ (List.Mem.tail _ (List.Mem.tail _ (List.Mem.tail _ (List.Mem.tail _ (List.Mem.tail _ (List.Mem.tail _ (List.Mem.tail _ (List.Mem.head _)))))))))))))))
  have f15 : 0 ≤ 0 + (1 * τ 18503 + ((-1) * τ 18504 + 0)) := hf _ (List.Mem.tail _ (List.Mem.tail _ (List.Mem.tail _ (List.Mem.tail _ (List.Mem.tail _ (List.Mem.tail _ (List.Mem.tail _ (List.Mem.tail _ (List.Mem.tail _ (List.Mem.tail _ (List.Mem.tail _ (List.Mem.tail _ (List.Mem.tail _ (List.Mem.tail _ (List.Mem.tail _ (List.Mem.head _))))))))))))))))
  clear hf hm
  have ej : a1 = 2 := by omega
  subst ej
  have ek : a3 = 3 := by omega
  subst ek
  simp only [lw_sel0, lw_sel1, lw_sel2, lw_sel3]
  exact Or.inl ⟨by omega, by omega, by omega, by omega, by omega, by omega, by omega, by omega, by omega, by omega, by omega, by omega, by omega⟩
theorem lw_pm_92 {as : List rv_A} {σ σ' : Nat → Int} {o : rv_O} {x : Int32} {a1 a2 a3 a4 a5 : Int} {τ : Nat → Int} (hx : o.1 = some (.inl x)) (h1 : lw_av as 1 = a1) (h2 : lw_av as 2 = a2) (h3 : lw_av as 3 = a3) (h4 : lw_av as 4 = a4) (h5 : lw_av as 5 = a5) (hb : ∀ s, (sx_sr s).1 ≤ σ s ∧ σ s ≤ (sx_sr s).2) (hW : lw_W ([], [(0, [(18507, 1)]), (0, [(18508, 1)]), ((-3), [(19001, 1)]), (3, [(19001, (-1))]), (0, [(19002, 1)]), (60, [(19002, (-1))]), ((-2), [(19003, 1)]), (2, [(19003, (-1))]), (0, [(19004, 1)]), (60, [(19004, (-1))]), (0, [(19005, 1)]), (60, [(19005, (-1))]), (0, [(18507, 1), (19004, (-1)), (19005, (-1))]), (0, [(18508, 1), (19002, (-1)), (19005, (-1))]), (0, [(18503, 1), (18504, (-1))]), (0, [(18503, (-1)), (18504, 1)])], [(12800, (0, []))], some (false, (1, []))) as σ σ' τ o) : lw_pm_C a1 a2 a3 a4 a5 x.toInt σ σ' := by
  unfold lw_pm_C
  have b18501 : 0 ≤ σ 18501 ∧ σ 18501 ≤ 3 := by
    have h0 := hb 18501
    rw [show sx_sr 18501 = (0, 3) from by decide +kernel] at h0
    exact h0
  have b18502 : 0 ≤ σ 18502 ∧ σ 18502 ≤ 3 := by
    have h0 := hb 18502
    rw [show sx_sr 18502 = (0, 3) from by decide +kernel] at h0
    exact h0
  have b18503 : 0 ≤ σ 18503 ∧ σ 18503 ≤ 3 := by
    have h0 := hb 18503
    rw [show sx_sr 18503 = (0, 3) from by decide +kernel] at h0
    exact h0
  have b18504 : 0 ≤ σ 18504 ∧ σ 18504 ≤ 3 := by
    have h0 := hb 18504
    rw [show sx_sr 18504 = (0, 3) from by decide +kernel] at h0
    exact h0
  have b18505 : (-1) ≤ σ 18505 ∧ σ 18505 ≤ 60 := by
    have h0 := hb 18505
    rw [show sx_sr 18505 = ((-1), 60) from by decide +kernel] at h0
    exact h0
  have b18506 : (-1) ≤ σ 18506 ∧ σ 18506 ≤ 60 := by
    have h0 := hb 18506
    rw [show sx_sr 18506 = ((-1), 60) from by decide +kernel] at h0
    exact h0
  have b18507 : (-1) ≤ σ 18507 ∧ σ 18507 ≤ 60 := by
    have h0 := hb 18507
    rw [show sx_sr 18507 = ((-1), 60) from by decide +kernel] at h0
    exact h0
  have b18508 : (-1) ≤ σ 18508 ∧ σ 18508 ≤ 60 := by
    have h0 := hb 18508
    rw [show sx_sr 18508 = ((-1), 60) from by decide +kernel] at h0
    exact h0
  obtain ⟨hs, ht, hf, hr, hm, hw⟩ := hW
  have e1 : τ 19001 = a1 := by rw [ht 19001 (by decide) (by decide)]; exact h1
  have e2 : τ 19002 = a2 := by rw [ht 19002 (by decide) (by decide)]; exact h2
  have e3 : τ 19003 = a3 := by rw [ht 19003 (by decide) (by decide)]; exact h3
  have e4 : τ 19004 = a4 := by rw [ht 19004 (by decide) (by decide)]; exact h4
  have e5 : τ 19005 = a5 := by rw [ht 19005 (by decide) (by decide)]; exact h5
  have s18501 : τ 18501 = σ 18501 := hs 18501 (by decide)
  have s18502 : τ 18502 = σ 18502 := hs 18502 (by decide)
  have s18503 : τ 18503 = σ 18503 := hs 18503 (by decide)
  have s18504 : τ 18504 = σ 18504 := hs 18504 (by decide)
  have s18505 : τ 18505 = σ 18505 := hs 18505 (by decide)
  have s18506 : τ 18506 = σ 18506 := hs 18506 (by decide)
  have s18507 : τ 18507 = σ 18507 := hs 18507 (by decide)
  have s18508 : τ 18508 = σ 18508 := hs 18508 (by decide)
  clear hs ht hb
  rw [hx] at hr
  obtain ⟨y, hy, hv⟩ := hr
  cases hy
  replace hv : x.toInt = 1 + 0 := hv
  have f0 : 0 ≤ 0 + (1 * τ 18507 + 0) := hf _ (List.Mem.head _)
  have f1 : 0 ≤ 0 + (1 * τ 18508 + 0) := hf _ (List.Mem.tail _ (List.Mem.head _))
  have f2 : 0 ≤ (-3) + (1 * τ 19001 + 0) := hf _ (List.Mem.tail _ (List.Mem.tail _ (List.Mem.head _)))
  have f3 : 0 ≤ 3 + ((-1) * τ 19001 + 0) := hf _ (List.Mem.tail _ (List.Mem.tail _ (List.Mem.tail _ (List.Mem.head _))))
  have f4 : 0 ≤ 0 + (1 * τ 19002 + 0) := hf _ (List.Mem.tail _ (List.Mem.tail _ (List.Mem.tail _ (List.Mem.tail _ (List.Mem.head _)))))
  have f5 : 0 ≤ 60 + ((-1) * τ 19002 + 0) := hf _ (List.Mem.tail _ (List.Mem.tail _ (List.Mem.tail _ (List.Mem.tail _ (List.Mem.tail _ (List.Mem.head _))))))
  have f6 : 0 ≤ (-2) + (1 * τ 19003 + 0) := hf _ (List.Mem.tail _ (List.Mem.tail _ (List.Mem.tail _ (List.Mem.tail _ (List.Mem.tail _ (List.Mem.tail _ (List.Mem.head _)))))))
  have f7 : 0 ≤ 2 + ((-1) * τ 19003 + 0) := hf _ (List.Mem.tail _ (List.Mem.tail _ (List.Mem.tail _ (List.Mem.tail _ (List.Mem.tail _ (List.Mem.tail _ (List.Mem.tail _ (List.Mem.head _))))))))
  have f8 : 0 ≤ 0 + (1 * τ 19004 + 0) := hf _ (List.Mem.tail _ (List.Mem.tail _ (List.Mem.tail _ (List.Mem.tail _ (List.Mem.tail _ (List.Mem.tail _ (List.Mem.tail _ (List.Mem.tail _ (List.Mem.head _)))))))))
  have f9 : 0 ≤ 60 + ((-1) * τ 19004 + 0) := hf _ (List.Mem.tail _ (List.Mem.tail _ (List.Mem.tail _ (List.Mem.tail _ (List.Mem.tail _ (List.Mem.tail _ (List.Mem.tail _ (List.Mem.tail _ (List.Mem.tail _ (List.Mem.head _))))))))))
  have f10 : 0 ≤ 0 + (1 * τ 19005 + 0) := hf _ (List.Mem.tail _ (List.Mem.tail _ (List.Mem.tail _ (List.Mem.tail _ (List.Mem.tail _ (List.Mem.tail _ (List.Mem.tail _ (List.Mem.tail _ (List.Mem.tail _ (List.Mem.tail _ (List.Mem.head _)))))))))))
  have f11 : 0 ≤ 60 + ((-1) * τ 19005 + 0) := hf _ (List.Mem.tail _ (List.Mem.tail _ (List.Mem.tail _ (List.Mem.tail _ (List.Mem.tail _ (List.Mem.tail _ (List.Mem.tail _ (List.Mem.tail _ (List.Mem.tail _ (List.Mem.tail _ (List.Mem.tail _ (List.Mem.head _))))))))))))
  have f12 : 0 ≤ 0 + (1 * τ 18507 + ((-1) * τ 19004 + ((-1) * τ 19005 + 0))) := hf _ (List.Mem.tail _ (List.Mem.tail _ (List.Mem.tail _ (List.Mem.tail _ (List.Mem.tail _ (List.Mem.tail _ (List.Mem.tail _ (List.Mem.tail _ (List.Mem.tail _ (List.Mem.tail _ (List.Mem.tail _ (List.Mem.tail _ (List.Mem.head _)))))))))))))
  have f13 : 0 ≤ 0 + (1 * τ 18508 + ((-1) * τ 19002 + ((-1) * τ 19005 + 0))) := hf _ (List.Mem.tail _ (List.Mem.tail _ (List.Mem.tail _ (List.Mem.tail _ (List.Mem.tail _ (List.Mem.tail _ (List.Mem.tail _ (List.Mem.tail _ (List.Mem.tail _ (List.Mem.tail _ (List.Mem.tail _ (List.Mem.tail _ (List.Mem.tail _ (List.Mem.head _))))))))))))))
  have f14 : 0 ≤ 0 + (1 * τ 18503 + ((-1) * τ 18504 + 0)) := hf _ (List.Mem.tail _ (List.Mem.tail _ (List.Mem.tail _ (List.Mem.tail _ (List.Mem.tail _ (List.Mem.tail _ (List.Mem.tail _ (List.Mem.tail _ (List.Mem.tail _ (List.Mem.tail _ (List.Mem.tail _ (List.Mem.tail _ (List.Mem.tail _ (List.Mem.tail _ (List.Mem.head _)))))))))))))))
  have f15 : 0 ≤ 0 + ((-1) * τ 18503 + (1 * τ 18504 + 0)) := hf _ (List.Mem.tail _ (List.Mem.tail _ (List.Mem.tail _ (List.Mem.tail _ (List.Mem.tail _ (List.Mem.tail _ (List.Mem.tail _ (List.Mem.tail _ (List.Mem.tail _ (List.Mem.tail _ (List.Mem.tail _ (List.Mem.tail _ (List.Mem.tail _ (List.Mem.tail _ (List.Mem.tail _ (List.Mem.head _))))))))))))))))
  clear hf hm
  have ej : a1 = 3 := by omega
  subst ej
  have ek : a3 = 2 := by omega
  subst ek
  simp only [lw_sel0, lw_sel1, lw_sel2, lw_sel3]
  exact Or.inl ⟨by omega, by omega, by omega, by omega, by omega, by omega, by omega, by omega, by omega, by omega, by omega, by omega, by omega⟩
theorem lw_pm_93 {as : List rv_A} {σ σ' : Nat → Int} {o : rv_O} {x : Int32} {a1 a2 a3 a4 a5 : Int} {τ : Nat → Int} (hx : o.1 = some (.inl x)) (h1 : lw_av as 1 = a1) (h2 : lw_av as 2 = a2) (h3 : lw_av as 3 = a3) (h4 : lw_av as 4 = a4) (h5 : lw_av as 5 = a5) (hb : ∀ s, (sx_sr s).1 ≤ σ s ∧ σ s ≤ (sx_sr s).2) (hW : lw_W ([], [(0, [(18507, 1)]), ((-2), [(19001, 1)]), (2, [(19001, (-1))]), (0, [(19002, 1)]), (60, [(19002, (-1))]), ((-2), [(19003, 1)]), (2, [(19003, (-1))]), (0, [(19004, 1)]), (60, [(19004, (-1))]), (0, [(19005, 1)]), (60, [(19005, (-1))]), (0, [(18507, 1), (19004, (-1)), (19005, (-1))]), (0, [(18507, 1), (19002, (-1)), (19005, (-1))])], [(12800, (0, []))], some (false, (1, []))) as σ σ' τ o) : lw_pm_C a1 a2 a3 a4 a5 x.toInt σ σ' := by
  unfold lw_pm_C
  have b18501 : 0 ≤ σ 18501 ∧ σ 18501 ≤ 3 := by
    have h0 := hb 18501
    rw [show sx_sr 18501 = (0, 3) from by decide +kernel] at h0
    exact h0
  have b18502 : 0 ≤ σ 18502 ∧ σ 18502 ≤ 3 := by
    have h0 := hb 18502
    rw [show sx_sr 18502 = (0, 3) from by decide +kernel] at h0
    exact h0
  have b18503 : 0 ≤ σ 18503 ∧ σ 18503 ≤ 3 := by
    have h0 := hb 18503
    rw [show sx_sr 18503 = (0, 3) from by decide +kernel] at h0
    exact h0
  have b18504 : 0 ≤ σ 18504 ∧ σ 18504 ≤ 3 := by
    have h0 := hb 18504
    rw [show sx_sr 18504 = (0, 3) from by decide +kernel] at h0
    exact h0
  have b18505 : (-1) ≤ σ 18505 ∧ σ 18505 ≤ 60 := by
    have h0 := hb 18505
    rw [show sx_sr 18505 = ((-1), 60) from by decide +kernel] at h0
    exact h0
  have b18506 : (-1) ≤ σ 18506 ∧ σ 18506 ≤ 60 := by
    have h0 := hb 18506
    rw [show sx_sr 18506 = ((-1), 60) from by decide +kernel] at h0
    exact h0
  have b18507 : (-1) ≤ σ 18507 ∧ σ 18507 ≤ 60 := by
    have h0 := hb 18507
    rw [show sx_sr 18507 = ((-1), 60) from by decide +kernel] at h0
    exact h0
  have b18508 : (-1) ≤ σ 18508 ∧ σ 18508 ≤ 60 := by
    have h0 := hb 18508
    rw [show sx_sr 18508 = ((-1), 60) from by decide +kernel] at h0
    exact h0
  obtain ⟨hs, ht, hf, hr, hm, hw⟩ := hW
  have e1 : τ 19001 = a1 := by rw [ht 19001 (by decide) (by decide)]; exact h1
  have e2 : τ 19002 = a2 := by rw [ht 19002 (by decide) (by decide)]; exact h2
  have e3 : τ 19003 = a3 := by rw [ht 19003 (by decide) (by decide)]; exact h3
  have e4 : τ 19004 = a4 := by rw [ht 19004 (by decide) (by decide)]; exact h4
  have e5 : τ 19005 = a5 := by rw [ht 19005 (by decide) (by decide)]; exact h5
  have s18501 : τ 18501 = σ 18501 := hs 18501 (by decide)
  have s18502 : τ 18502 = σ 18502 := hs 18502 (by decide)
  have s18503 : τ 18503 = σ 18503 := hs 18503 (by decide)
  have s18504 : τ 18504 = σ 18504 := hs 18504 (by decide)
  have s18505 : τ 18505 = σ 18505 := hs 18505 (by decide)
  have s18506 : τ 18506 = σ 18506 := hs 18506 (by decide)
  have s18507 : τ 18507 = σ 18507 := hs 18507 (by decide)
  have s18508 : τ 18508 = σ 18508 := hs 18508 (by decide)
  clear hs ht hb
  rw [hx] at hr
  obtain ⟨y, hy, hv⟩ := hr
  cases hy
  replace hv : x.toInt = 1 + 0 := hv
  have f0 : 0 ≤ 0 + (1 * τ 18507 + 0) := hf _ (List.Mem.head _)
  have f1 : 0 ≤ (-2) + (1 * τ 19001 + 0) := hf _ (List.Mem.tail _ (List.Mem.head _))
  have f2 : 0 ≤ 2 + ((-1) * τ 19001 + 0) := hf _ (List.Mem.tail _ (List.Mem.tail _ (List.Mem.head _)))
  have f3 : 0 ≤ 0 + (1 * τ 19002 + 0) := hf _ (List.Mem.tail _ (List.Mem.tail _ (List.Mem.tail _ (List.Mem.head _))))
  have f4 : 0 ≤ 60 + ((-1) * τ 19002 + 0) := hf _ (List.Mem.tail _ (List.Mem.tail _ (List.Mem.tail _ (List.Mem.tail _ (List.Mem.head _)))))
  have f5 : 0 ≤ (-2) + (1 * τ 19003 + 0) := hf _ (List.Mem.tail _ (List.Mem.tail _ (List.Mem.tail _ (List.Mem.tail _ (List.Mem.tail _ (List.Mem.head _))))))
  have f6 : 0 ≤ 2 + ((-1) * τ 19003 + 0) := hf _ (List.Mem.tail _ (List.Mem.tail _ (List.Mem.tail _ (List.Mem.tail _ (List.Mem.tail _ (List.Mem.tail _ (List.Mem.head _)))))))
  have f7 : 0 ≤ 0 + (1 * τ 19004 + 0) := hf _ (List.Mem.tail _ (List.Mem.tail _ (List.Mem.tail _ (List.Mem.tail _ (List.Mem.tail _ (List.Mem.tail _ (List.Mem.tail _ (List.Mem.head _))))))))
  have f8 : 0 ≤ 60 + ((-1) * τ 19004 + 0) := hf _ (List.Mem.tail _ (List.Mem.tail _ (List.Mem.tail _ (List.Mem.tail _ (List.Mem.tail _ (List.Mem.tail _ (List.Mem.tail _ (List.Mem.tail _ (List.Mem.head _)))))))))
  have f9 : 0 ≤ 0 + (1 * τ 19005 + 0) := hf _ (List.Mem.tail _ (List.Mem.tail _ (List.Mem.tail _ (List.Mem.tail _ (List.Mem.tail _ (List.Mem.tail _ (List.Mem.tail _ (List.Mem.tail _ (List.Mem.tail _ (List.Mem.head _))))))))))
  have f10 : 0 ≤ 60 + ((-1) * τ 19005 + 0) := hf _ (List.Mem.tail _ (List.Mem.tail _ (List.Mem.tail _ (List.Mem.tail _ (List.Mem.tail _ (List.Mem.tail _ (List.Mem.tail _ (List.Mem.tail _ (List.Mem.tail _ (List.Mem.tail _ (List.Mem.head _)))))))))))
  have f11 : 0 ≤ 0 + (1 * τ 18507 + ((-1) * τ 19004 + ((-1) * τ 19005 + 0))) := hf _ (List.Mem.tail _ (List.Mem.tail _ (List.Mem.tail _ (List.Mem.tail _ (List.Mem.tail _ (List.Mem.tail _ (List.Mem.tail _ (List.Mem.tail _ (List.Mem.tail _ (List.Mem.tail _ (List.Mem.tail _ (List.Mem.head _))))))))))))
  have f12 : 0 ≤ 0 + (1 * τ 18507 + ((-1) * τ 19002 + ((-1) * τ 19005 + 0))) := hf _ (List.Mem.tail _ (List.Mem.tail _ (List.Mem.tail _ (List.Mem.tail _ (List.Mem.tail _ (List.Mem.tail _ (List.Mem.tail _ (List.Mem.tail _ (List.Mem.tail _ (List.Mem.tail _ (List.Mem.tail _ (List.Mem.tail _ (List.Mem.head _)))))))))))))
  clear hf hm
  have ej : a1 = 2 := by omega
  subst ej
  have ek : a3 = 2 := by omega
  subst ek
  simp only [lw_sel0, lw_sel1, lw_sel2, lw_sel3]
  exact Or.inl ⟨by omega, by omega, by omega, by omega, by omega, by omega, by omega, by omega, by omega, by omega, by omega, by omega, by omega⟩
theorem lw_pm_94 {as : List rv_A} {σ σ' : Nat → Int} {o : rv_O} {x : Int32} {a1 a2 a3 a4 a5 : Int} {τ : Nat → Int} (hx : o.1 = some (.inl x)) (h1 : lw_av as 1 = a1) (h2 : lw_av as 2 = a2) (h3 : lw_av as 3 = a3) (h4 : lw_av as 4 = a4) (h5 : lw_av as 5 = a5) (hb : ∀ s, (sx_sr s).1 ≤ σ s ∧ σ s ≤ (sx_sr s).2) (hW : lw_W ([], [(0, [(18508, 1)]), ((-3), [(19001, 1)]), (3, [(19001, (-1))]), (0, [(19002, 1)]), (60, [(19002, (-1))]), ((-3), [(19003, 1)]), (3, [(19003, (-1))]), (0, [(19004, 1)]), (60, [(19004, (-1))]), (0, [(19005, 1)]), (60, [(19005, (-1))]), (0, [(18508, 1), (19004, (-1)), (19005, (-1))]), (0, [(18508, 1), (19002, (-1)), (19005, (-1))])], [(12800, (0, []))], some (false, (1, []))) as σ σ' τ o) : lw_pm_C a1 a2 a3 a4 a5 x.toInt σ σ' := by
  unfold lw_pm_C
  have b18501 : 0 ≤ σ 18501 ∧ σ 18501 ≤ 3 := by
    have h0 := hb 18501
    rw [show sx_sr 18501 = (0, 3) from by decide +kernel] at h0
    exact h0
  have b18502 : 0 ≤ σ 18502 ∧ σ 18502 ≤ 3 := by
    have h0 := hb 18502
    rw [show sx_sr 18502 = (0, 3) from by decide +kernel] at h0
    exact h0
  have b18503 : 0 ≤ σ 18503 ∧ σ 18503 ≤ 3 := by
    have h0 := hb 18503
    rw [show sx_sr 18503 = (0, 3) from by decide +kernel] at h0
    exact h0
  have b18504 : 0 ≤ σ 18504 ∧ σ 18504 ≤ 3 := by
    have h0 := hb 18504
    rw [show sx_sr 18504 = (0, 3) from by decide +kernel] at h0
    exact h0
  have b18505 : (-1) ≤ σ 18505 ∧ σ 18505 ≤ 60 := by
    have h0 := hb 18505
    rw [show sx_sr 18505 = ((-1), 60) from by decide +kernel] at h0
    exact h0
  have b18506 : (-1) ≤ σ 18506 ∧ σ 18506 ≤ 60 := by
    have h0 := hb 18506
    rw [show sx_sr 18506 = ((-1), 60) from by decide +kernel] at h0
    exact h0
  have b18507 : (-1) ≤ σ 18507 ∧ σ 18507 ≤ 60 := by
    have h0 := hb 18507
    rw [show sx_sr 18507 = ((-1), 60) from by decide +kernel] at h0
    exact h0
  have b18508 : (-1) ≤ σ 18508 ∧ σ 18508 ≤ 60 := by
    have h0 := hb 18508
    rw [show sx_sr 18508 = ((-1), 60) from by decide +kernel] at h0
    exact h0
  obtain ⟨hs, ht, hf, hr, hm, hw⟩ := hW
  have e1 : τ 19001 = a1 := by rw [ht 19001 (by decide) (by decide)]; exact h1
  have e2 : τ 19002 = a2 := by rw [ht 19002 (by decide) (by decide)]; exact h2
  have e3 : τ 19003 = a3 := by rw [ht 19003 (by decide) (by decide)]; exact h3
  have e4 : τ 19004 = a4 := by rw [ht 19004 (by decide) (by decide)]; exact h4
  have e5 : τ 19005 = a5 := by rw [ht 19005 (by decide) (by decide)]; exact h5
  have s18501 : τ 18501 = σ 18501 := hs 18501 (by decide)
  have s18502 : τ 18502 = σ 18502 := hs 18502 (by decide)
  have s18503 : τ 18503 = σ 18503 := hs 18503 (by decide)
  have s18504 : τ 18504 = σ 18504 := hs 18504 (by decide)
  have s18505 : τ 18505 = σ 18505 := hs 18505 (by decide)
  have s18506 : τ 18506 = σ 18506 := hs 18506 (by decide)
  have s18507 : τ 18507 = σ 18507 := hs 18507 (by decide)
  have s18508 : τ 18508 = σ 18508 := hs 18508 (by decide)
  clear hs ht hb
  rw [hx] at hr
  obtain ⟨y, hy, hv⟩ := hr
  cases hy
  replace hv : x.toInt = 1 + 0 := hv
  have f0 : 0 ≤ 0 + (1 * τ 18508 + 0) := hf _ (List.Mem.head _)
  have f1 : 0 ≤ (-3) + (1 * τ 19001 + 0) := hf _ (List.Mem.tail _ (List.Mem.head _))
  have f2 : 0 ≤ 3 + ((-1) * τ 19001 + 0) := hf _ (List.Mem.tail _ (List.Mem.tail _ (List.Mem.head _)))
  have f3 : 0 ≤ 0 + (1 * τ 19002 + 0) := hf _ (List.Mem.tail _ (List.Mem.tail _ (List.Mem.tail _ (List.Mem.head _))))
  have f4 : 0 ≤ 60 + ((-1) * τ 19002 + 0) := hf _ (List.Mem.tail _ (List.Mem.tail _ (List.Mem.tail _ (List.Mem.tail _ (List.Mem.head _)))))
  have f5 : 0 ≤ (-3) + (1 * τ 19003 + 0) := hf _ (List.Mem.tail _ (List.Mem.tail _ (List.Mem.tail _ (List.Mem.tail _ (List.Mem.tail _ (List.Mem.head _))))))
  have f6 : 0 ≤ 3 + ((-1) * τ 19003 + 0) := hf _ (List.Mem.tail _ (List.Mem.tail _ (List.Mem.tail _ (List.Mem.tail _ (List.Mem.tail _ (List.Mem.tail _ (List.Mem.head _)))))))
  have f7 : 0 ≤ 0 + (1 * τ 19004 + 0) := hf _ (List.Mem.tail _ (List.Mem.tail _ (List.Mem.tail _ (List.Mem.tail _ (List.Mem.tail _ (List.Mem.tail _ (List.Mem.tail _ (List.Mem.head _))))))))
  have f8 : 0 ≤ 60 + ((-1) * τ 19004 + 0) := hf _ (List.Mem.tail _ (List.Mem.tail _ (List.Mem.tail _ (List.Mem.tail _ (List.Mem.tail _ (List.Mem.tail _ (List.Mem.tail _ (List.Mem.tail _ (List.Mem.head _)))))))))
  have f9 : 0 ≤ 0 + (1 * τ 19005 + 0) := hf _ (List.Mem.tail _ (List.Mem.tail _ (List.Mem.tail _ (List.Mem.tail _ (List.Mem.tail _ (List.Mem.tail _ (List.Mem.tail _ (List.Mem.tail _ (List.Mem.tail _ (List.Mem.head _))))))))))
  have f10 : 0 ≤ 60 + ((-1) * τ 19005 + 0) := hf _ (List.Mem.tail _ (List.Mem.tail _ (List.Mem.tail _ (List.Mem.tail _ (List.Mem.tail _ (List.Mem.tail _ (List.Mem.tail _ (List.Mem.tail _ (List.Mem.tail _ (List.Mem.tail _ (List.Mem.head _)))))))))))
  have f11 : 0 ≤ 0 + (1 * τ 18508 + ((-1) * τ 19004 + ((-1) * τ 19005 + 0))) := hf _ (List.Mem.tail _ (List.Mem.tail _ (List.Mem.tail _ (List.Mem.tail _ (List.Mem.tail _ (List.Mem.tail _ (List.Mem.tail _ (List.Mem.tail _ (List.Mem.tail _ (List.Mem.tail _ (List.Mem.tail _ (List.Mem.head _))))))))))))
  have f12 : 0 ≤ 0 + (1 * τ 18508 + ((-1) * τ 19002 + ((-1) * τ 19005 + 0))) := hf _ (List.Mem.tail _ (List.Mem.tail _ (List.Mem.tail _ (List.Mem.tail _ (List.Mem.tail _ (List.Mem.tail _ (List.Mem.tail _ (List.Mem.tail _ (List.Mem.tail _ (List.Mem.tail _ (List.Mem.tail _ (List.Mem.tail _ (List.Mem.head _)))))))))))))
  clear hf hm
  have ej : a1 = 3 := by omega
  subst ej
  have ek : a3 = 3 := by omega
  subst ek
  simp only [lw_sel0, lw_sel1, lw_sel2, lw_sel3]
  exact Or.inl ⟨by omega, by omega, by omega, by omega, by omega, by omega, by omega, by omega, by omega, by omega, by omega, by omega, by omega⟩
set_option maxHeartbeats 4000000 in
theorem lw_pm {as : List rv_A} {σ σ' : Nat → Int} {o : rv_O} {x : Int32} {a1 a2 a3 a4 a5 : Int} (hx : o.1 = some (.inl x)) (h1 : lw_av as 1 = a1) (h2 : lw_av as 2 = a2) (h3 : lw_av as 3 = a3) (h4 : lw_av as 4 = a4) (h5 : lw_av as 5 = a5) (hb : ∀ s, (sx_sr s).1 ≤ σ s ∧ σ s ≤ (sx_sr s).2) (h : lw_Qc sx_c326 as σ σ' o) : lw_pm_C a1 a2 a3 a4 a5 x.toInt σ σ' := by
  obtain ⟨g, hg, τ, hW⟩ := h
  simp only [sx_c326, List.mem_cons, List.not_mem_nil, or_false] at hg
  rcases hg with rfl | rfl | rfl | rfl | rfl | rfl | rfl | rfl | rfl | rfl | rfl | rfl | rfl | rfl | rfl | rfl | rfl | rfl | rfl | rfl | rfl | rfl | rfl | rfl | rfl | rfl | rfl | rfl | rfl | rfl | rfl | rfl | rfl | rfl | rfl | rfl | rfl | rfl | rfl | rfl | rfl | rfl | rfl | rfl | rfl | rfl | rfl | rfl | rfl | rfl | rfl | rfl | rfl | rfl | rfl | rfl | rfl | rfl | rfl | rfl | rfl | rfl | rfl | rfl | rfl | rfl | rfl | rfl | rfl | rfl | rfl | rfl | rfl | rfl | rfl | rfl | rfl | rfl | rfl | rfl | rfl | rfl | rfl | rfl | rfl | rfl | rfl | rfl | rfl | rfl | rfl | rfl | rfl | rfl | rfl
  · exact lw_pm_0 hx h1 h2 h3 h4 h5 hb hW
  · exact lw_pm_1 hx h1 h2 h3 h4 h5 hb hW
  · exact lw_pm_2 hx h1 h2 h3 h4 h5 hb hW
  · exact lw_pm_3 hx h1 h2 h3 h4 h5 hb hW
  · exact lw_pm_4 hx h1 h2 h3 h4 h5 hb hW
  · exact lw_pm_5 hx h1 h2 h3 h4 h5 hb hW
  · exact lw_pm_6 hx h1 h2 h3 h4 h5 hb hW
  · exact lw_pm_7 hx h1 h2 h3 h4 h5 hb hW
  · exact lw_pm_8 hx h1 h2 h3 h4 h5 hb hW
  · exact lw_pm_9 hx h1 h2 h3 h4 h5 hb hW
  · exact lw_pm_10 hx h1 h2 h3 h4 h5 hb hW
  · exact lw_pm_11 hx h1 h2 h3 h4 h5 hb hW
  · exact lw_pm_12 hx h1 h2 h3 h4 h5 hb hW
  · exact lw_pm_13 hx h1 h2 h3 h4 h5 hb hW
  · exact lw_pm_14 hx h1 h2 h3 h4 h5 hb hW
  · exact lw_pm_15 hx h1 h2 h3 h4 h5 hb hW
  · exact lw_pm_16 hx h1 h2 h3 h4 h5 hb hW
  · exact lw_pm_17 hx h1 h2 h3 h4 h5 hb hW
  · exact lw_pm_18 hx h1 h2 h3 h4 h5 hb hW
  · exact lw_pm_19 hx h1 h2 h3 h4 h5 hb hW
  · exact lw_pm_20 hx h1 h2 h3 h4 h5 hb hW
  · exact lw_pm_21 hx h1 h2 h3 h4 h5 hb hW
  · exact lw_pm_22 hx h1 h2 h3 h4 h5 hb hW
  · exact lw_pm_23 hx h1 h2 h3 h4 h5 hb hW
  · exact lw_pm_24 hx h1 h2 h3 h4 h5 hb hW
  · exact lw_pm_25 hx h1 h2 h3 h4 h5 hb hW
  · exact lw_pm_26 hx h1 h2 h3 h4 h5 hb hW
  · exact lw_pm_27 hx h1 h2 h3 h4 h5 hb hW
  · exact lw_pm_28 hx h1 h2 h3 h4 h5 hb hW
  · exact lw_pm_29 hx h1 h2 h3 h4 h5 hb hW
  · exact lw_pm_30 hx h1 h2 h3 h4 h5 hb hW
  · exact lw_pm_31 hx h1 h2 h3 h4 h5 hb hW
  · exact lw_pm_32 hx h1 h2 h3 h4 h5 hb hW
  · exact lw_pm_33 hx h1 h2 h3 h4 h5 hb hW
  · exact lw_pm_34 hx h1 h2 h3 h4 h5 hb hW
  · exact lw_pm_35 hx h1 h2 h3 h4 h5 hb hW
  · exact lw_pm_36 hx h1 h2 h3 h4 h5 hb hW
  · exact lw_pm_37 hx h1 h2 h3 h4 h5 hb hW
  · exact lw_pm_38 hx h1 h2 h3 h4 h5 hb hW
  · exact lw_pm_39 hx h1 h2 h3 h4 h5 hb hW
  · exact lw_pm_40 hx h1 h2 h3 h4 h5 hb hW
  · exact lw_pm_41 hx h1 h2 h3 h4 h5 hb hW
  · exact lw_pm_42 hx h1 h2 h3 h4 h5 hb hW
  · exact lw_pm_43 hx h1 h2 h3 h4 h5 hb hW
  · exact lw_pm_44 hx h1 h2 h3 h4 h5 hb hW
  · exact lw_pm_45 hx h1 h2 h3 h4 h5 hb hW
  · exact lw_pm_46 hx h1 h2 h3 h4 h5 hb hW
  · exact lw_pm_47 hx h1 h2 h3 h4 h5 hb hW
  · exact lw_pm_48 hx h1 h2 h3 h4 h5 hb hW
  · exact lw_pm_49 hx h1 h2 h3 h4 h5 hb hW
  · exact lw_pm_50 hx h1 h2 h3 h4 h5 hb hW
  · exact lw_pm_51 hx h1 h2 h3 h4 h5 hb hW
  · exact lw_pm_52 hx h1 h2 h3 h4 h5 hb hW
  · exact lw_pm_53 hx h1 h2 h3 h4 h5 hb hW
  · exact lw_pm_54 hx h1 h2 h3 h4 h5 hb hW
  · exact lw_pm_55 hx h1 h2 h3 h4 h5 hb hW
  · exact lw_pm_56 hx h1 h2 h3 h4 h5 hb hW
  · exact lw_pm_57 hx h1 h2 h3 h4 h5 hb hW
  · exact lw_pm_58 hx h1 h2 h3 h4 h5 hb hW
  · exact lw_pm_59 hx h1 h2 h3 h4 h5 hb hW
  · exact lw_pm_60 hx h1 h2 h3 h4 h5 hb hW
  · exact lw_pm_61 hx h1 h2 h3 h4 h5 hb hW
  · exact lw_pm_62 hx h1 h2 h3 h4 h5 hb hW
  · exact lw_pm_63 hx h1 h2 h3 h4 h5 hb hW
  · exact lw_pm_64 hx h1 h2 h3 h4 h5 hb hW
  · exact lw_pm_65 hx h1 h2 h3 h4 h5 hb hW
  · exact lw_pm_66 hx h1 h2 h3 h4 h5 hb hW
  · exact lw_pm_67 hx h1 h2 h3 h4 h5 hb hW
  · exact lw_pm_68 hx h1 h2 h3 h4 h5 hb hW
  · exact lw_pm_69 hx h1 h2 h3 h4 h5 hb hW
  · exact lw_pm_70 hx h1 h2 h3 h4 h5 hb hW
  · exact lw_pm_71 hx h1 h2 h3 h4 h5 hb hW
  · exact lw_pm_72 hx h1 h2 h3 h4 h5 hb hW
  · exact lw_pm_73 hx h1 h2 h3 h4 h5 hb hW
  · exact lw_pm_74 hx h1 h2 h3 h4 h5 hb hW
  · exact lw_pm_75 hx h1 h2 h3 h4 h5 hb hW
  · exact lw_pm_76 hx h1 h2 h3 h4 h5 hb hW
  · exact lw_pm_77 hx h1 h2 h3 h4 h5 hb hW
  · exact lw_pm_78 hx h1 h2 h3 h4 h5 hb hW
  · exact lw_pm_79 hx h1 h2 h3 h4 h5 hb hW
  · exact lw_pm_80 hx h1 h2 h3 h4 h5 hb hW
  · exact lw_pm_81 hx h1 h2 h3 h4 h5 hb hW
  · exact lw_pm_82 hx h1 h2 h3 h4 h5 hb hW
  · exact lw_pm_83 hx h1 h2 h3 h4 h5 hb hW
  · exact lw_pm_84 hx h1 h2 h3 h4 h5 hb hW
  · exact lw_pm_85 hx h1 h2 h3 h4 h5 hb hW
  · exact lw_pm_86 hx h1 h2 h3 h4 h5 hb hW
  · exact lw_pm_87 hx h1 h2 h3 h4 h5 hb hW
  · exact lw_pm_88 hx h1 h2 h3 h4 h5 hb hW
  · exact lw_pm_89 hx h1 h2 h3 h4 h5 hb hW
  · exact lw_pm_90 hx h1 h2 h3 h4 h5 hb hW
  · exact lw_pm_91 hx h1 h2 h3 h4 h5 hb hW
  · exact lw_pm_92 hx h1 h2 h3 h4 h5 hb hW
  · exact lw_pm_93 hx h1 h2 h3 h4 h5 hb hW
  · exact lw_pm_94 hx h1 h2 h3 h4 h5 hb hW
set_option maxHeartbeats 4000000 in
theorem lw_same4 {y1 y2 y3 y4 y5 : Int32} {o1 o2 : rv_O} {h0 : List rv_C} {σ σ1 σ2 : Nat → Int} {z1 z2 : Int32} (hz1 : o1.1 = some (.inl z1)) (hz2 : o2.1 = some (.inl z2)) (h1 : lw_Qc sx_c222 [rv_ref 0, .inl y1, .inl y2, .inl y3, .inl y4, .inl y5] σ σ1 o1) (h2 : lw_Qc sx_c326 [rv_ref 100, .inl y1, .inl y2, .inl y3, .inl y4, .inl y5] σ1 σ2 o2) (hR : lw_R σ) (hJ : lw_Js σ h0) (hJ1 : lw_Js σ1 o1.2) (hJ2 : lw_Js σ2 o2.2) : z1 = z2 := by
  have hk := lw_kp (by decide +kernel) h1
  have k18501 : σ1 18501 = σ 18501 := hk 18501 (by decide)
  have k18502 : σ1 18502 = σ 18502 := hk 18502 (by decide)
  have k18503 : σ1 18503 = σ 18503 := hk 18503 (by decide)
  have k18504 : σ1 18504 = σ 18504 := hk 18504 (by decide)
  have k18505 : σ1 18505 = σ 18505 := hk 18505 (by decide)
  have k18506 : σ1 18506 = σ 18506 := hk 18506 (by decide)
  have k18507 : σ1 18507 = σ 18507 := hk 18507 (by decide)
  have k18508 : σ1 18508 = σ 18508 := hk 18508 (by decide)
  have g1 := lw_px (a1 := y1.toInt) (a2 := y2.toInt) (a3 := y3.toInt) (a4 := y4.toInt) (a5 := y5.toInt) hz1 rfl rfl rfl rfl rfl hJ.2.1 h1
  have g2 := lw_pm (a1 := y1.toInt) (a2 := y2.toInt) (a3 := y3.toInt) (a4 := y4.toInt) (a5 := y5.toInt) hz2 rfl rfl rfl rfl rfl hJ1.2.1 h2
  unfold lw_px_C at g1
  unfold lw_pm_C at g2
  clear h1 h2 hJ hJ1 hJ2 hk hz1 hz2
  obtain ⟨r0, r1, r2, r3⟩ := hR
  rw [k18501, k18502, k18503, k18504, k18505, k18506, k18507, k18508] at g2
  generalize y1.toInt = a1 at g1 g2
  generalize y2.toInt = a2 at g1 g2
  generalize y3.toInt = a3 at g1 g2
  generalize y4.toInt = a4 at g1 g2
  generalize y5.toInt = a5 at g1 g2
  have ra : ∀ a : Int, 0 ≤ a → a ≤ 3 → lw_Rj (lw_sel a (σ 5377) (σ 5633) (σ 5889) (σ 6145)) (lw_sel a (σ 5378) (σ 5634) (σ 5890) (σ 6146)) (lw_sel a (σ 18501) (σ 18502) (σ 18503) (σ 18504)) (lw_sel a (σ 18505) (σ 18506) (σ 18507) (σ 18508)) := by
    intro a l1 l2
    rcases (show a = 0 ∨ a = 1 ∨ a = 2 ∨ a = 3 by omega) with rfl | rfl | rfl | rfl
    · exact r0
    · exact r1
    · exact r2
    · exact r3
  clear r0 r1 r2 r3
  generalize es1 : (lw_sel a1 (σ 5377) (σ 5633) (σ 5889) (σ 6145)) = s1 at g1 g2
  generalize es3 : (lw_sel a3 (σ 5377) (σ 5633) (σ 5889) (σ 6145)) = s3 at g1 g2
  generalize eb1 : (lw_sel a1 (σ 5378) (σ 5634) (σ 5890) (σ 6146)) = b1 at g1 g2
  generalize eb3 : (lw_sel a3 (σ 5378) (σ 5634) (σ 5890) (σ 6146)) = b3 at g1 g2
  generalize eu1 : (lw_sel a1 (σ 18501) (σ 18502) (σ 18503) (σ 18504)) = u1 at g1 g2
  generalize eu3 : (lw_sel a3 (σ 18501) (σ 18502) (σ 18503) (σ 18504)) = u3 at g1 g2
  generalize ev1 : (lw_sel a1 (σ 18505) (σ 18506) (σ 18507) (σ 18508)) = v1 at g1 g2
  generalize ev3 : (lw_sel a3 (σ 18505) (σ 18506) (σ 18507) (σ 18508)) = v3 at g1 g2
  have q1 : 0 ≤ a1 → a1 ≤ 3 → lw_Rj s1 b1 u1 v1 := fun l1 l2 => by rw [← es1, ← eb1, ← eu1, ← ev1]; exact ra a1 l1 l2
  have q3 : 0 ≤ a3 → a3 ≤ 3 → lw_Rj s3 b3 u3 v3 := fun l1 l2 => by rw [← es3, ← eb3, ← eu3, ← ev3]; exact ra a3 l1 l2
  clear ra
  apply Int32.toInt_inj.mp
  rcases g1 with ⟨c1, c2⟩ | ⟨c1, c2⟩
  · rcases g2 with ⟨c3, c4⟩ | ⟨c3, c4⟩
    · omega
    · exfalso
      obtain ⟨t0, t1, t2, t3, t4, t5, t6, t7, t8, t9, t10, t11⟩ := c2
      rcases q1 t0 t1 with ⟨j1, j2⟩ | ⟨j1, j2, j3, j4⟩
      · omega
      · rcases q3 t2 t3 with ⟨l1, l2⟩ | ⟨l1, l2, l3, l4⟩
        · omega
        · exact c4 ⟨by omega, by omega, by omega, by omega, by omega, by omega, by omega, by omega, by omega, by omega, by omega, by omega⟩
  · rcases g2 with ⟨c3, c4⟩ | ⟨c3, c4⟩
    · exfalso
      obtain ⟨t0, t1, t2, t3, t4, t5, t6, t7, t8, t9, t10, t11⟩ := c4
      rcases q1 t0 t1 with ⟨j1, j2⟩ | ⟨j1, j2, j3, j4⟩
      · omega
      · rcases q3 t2 t3 with ⟨l1, l2⟩ | ⟨l1, l2, l3, l4⟩
        · omega
        · exact c2 ⟨by omega, by omega, by omega, by omega, by omega, by omega, by omega, by omega, by omega, by omega, by omega, by omega⟩
    · omega
