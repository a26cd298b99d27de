/-! WHAT BOTH SIDES HAVE ALIKE, call by call -/
def lw_T (a1 a2 a3 : Int) : Prop := 0 ≤ a1 ∧ a1 ≤ 3 ∧ 0 ≤ a2 ∧ a2 ≤ 3 ∧ 0 ≤ a3 ∧ a3 ≤ 60
def lw_U (j a1 a2 a3 s m s' m' : Int) : Prop := (a1 = j ∧ s' = a2 ∧ m' = a3) ∨ (a1 ≠ j ∧ s' = s ∧ m' = m)
def lw_tx_C (a1 a2 a3 z : Int) (σ σ' : Nat → Int) : Prop := ((z = 1 ∧ lw_T a1 a2 a3 ∧ lw_U 0 a1 a2 a3 (σ 5377) (σ 5378) (σ' 5377) (σ' 5378) ∧ lw_U 1 a1 a2 a3 (σ 5633) (σ 5634) (σ' 5633) (σ' 5634) ∧ lw_U 2 a1 a2 a3 (σ 5889) (σ 5890) (σ' 5889) (σ' 5890) ∧ lw_U 3 a1 a2 a3 (σ 6145) (σ 6146) (σ' 6145) (σ' 6146)) ∨ (z = 0 ∧ ¬ lw_T a1 a2 a3 ∧ σ' 5377 = σ 5377 ∧ σ' 5378 = σ 5378 ∧ σ' 5633 = σ 5633 ∧ σ' 5634 = σ 5634 ∧ σ' 5889 = σ 5889 ∧ σ' 5890 = σ 5890 ∧ σ' 6145 = σ 6145 ∧ σ' 6146 = σ 6146)) ∧ σ' 18501 = σ 18501 ∧ σ' 18505 = σ 18505 ∧ σ' 18502 = σ 18502 ∧ σ' 18506 = σ 18506 ∧ σ' 18503 = σ 18503 ∧ σ' 18507 = σ 18507 ∧ σ' 18504 = σ 18504 ∧ σ' 18508 = σ 18508
theorem lw_tx_0 {as : List rv_A} {σ σ' : Nat → Int} {o : rv_O} {x : Int32} {a1 a2 a3 : Int} {τ : Nat → Int} (hx : o.1 = some (.inl x)) (h1 : lw_av as 1 = a1) (h2 : lw_av as 2 = a2) (h3 : lw_av as 3 = a3) (hb : ∀ s, (sx_sr s).1 ≤ σ s ∧ σ s ≤ (sx_sr s).2) (hW : lw_W ([], [((-1), [(19001, (-1))])], [(9, (1, []))], some (false, (0, []))) as σ σ' τ o) : lw_tx_C a1 a2 a3 x.toInt σ σ' := by
  unfold lw_tx_C
  obtain ⟨hs, ht, hf, hr, hm, hw⟩ := hW
  have e1 : τ 19001 = a1 := by rw [ht 19001 (by decide) (by decide)]; exact h1
  have e2 : τ 19002 = a2 := by rw [ht 19002 (by decide) (by decide)]; exact h2
  have e3 : τ 19003 = a3 := by rw [ht 19003 (by decide) (by decide)]; exact h3
  have s5377 : τ 5377 = σ 5377 := hs 5377 (by decide)
  have s5378 : τ 5378 = σ 5378 := hs 5378 (by decide)
  have s5633 : τ 5633 = σ 5633 := hs 5633 (by decide)
  have s5634 : τ 5634 = σ 5634 := hs 5634 (by decide)
  have s5889 : τ 5889 = σ 5889 := hs 5889 (by decide)
  have s5890 : τ 5890 = σ 5890 := hs 5890 (by decide)
  have s6145 : τ 6145 = σ 6145 := hs 6145 (by decide)
  have s6146 : τ 6146 = σ 6146 := hs 6146 (by decide)
  have s18501 : τ 18501 = σ 18501 := hs 18501 (by decide)
  have s18502 : τ 18502 = σ 18502 := hs 18502 (by decide)
  have s18503 : τ 18503 = σ 18503 := hs 18503 (by decide)
  have s18504 : τ 18504 = σ 18504 := hs 18504 (by decide)
  have s18505 : τ 18505 = σ 18505 := hs 18505 (by decide)
  have s18506 : τ 18506 = σ 18506 := hs 18506 (by decide)
  have s18507 : τ 18507 = σ 18507 := hs 18507 (by decide)
  have s18508 : τ 18508 = σ 18508 := hs 18508 (by decide)
  clear hs ht hb
  rw [hx] at hr
  obtain ⟨y, hy, hv⟩ := hr
  cases hy
  replace hv : x.toInt = 0 + 0 := hv
  have f0 : 0 ≤ (-1) + ((-1) * τ 19001 + 0) := hf _ (List.Mem.head _)
  have m5377 : σ' 5377 = 0 + (1 * τ 5377 + 0) := hm 5377 (by decide)
  have m5378 : σ' 5378 = 0 + (1 * τ 5378 + 0) := hm 5378 (by decide)
  have m18501 : σ' 18501 = 0 + (1 * τ 18501 + 0) := hm 18501 (by decide)
  have m18505 : σ' 18505 = 0 + (1 * τ 18505 + 0) := hm 18505 (by decide)
  have m5633 : σ' 5633 = 0 + (1 * τ 5633 + 0) := hm 5633 (by decide)
  have m5634 : σ' 5634 = 0 + (1 * τ 5634 + 0) := hm 5634 (by decide)
  have m18502 : σ' 18502 = 0 + (1 * τ 18502 + 0) := hm 18502 (by decide)
  have m18506 : σ' 18506 = 0 + (1 * τ 18506 + 0) := hm 18506 (by decide)
  have m5889 : σ' 5889 = 0 + (1 * τ 5889 + 0) := hm 5889 (by decide)
  have m5890 : σ' 5890 = 0 + (1 * τ 5890 + 0) := hm 5890 (by decide)
  have m18503 : σ' 18503 = 0 + (1 * τ 18503 + 0) := hm 18503 (by decide)
  have m18507 : σ' 18507 = 0 + (1 * τ 18507 + 0) := hm 18507 (by decide)
  have m6145 : σ' 6145 = 0 + (1 * τ 6145 + 0) := hm 6145 (by decide)
  have m6146 : σ' 6146 = 0 + (1 * τ 6146 + 0) := hm 6146 (by decide)
  have m18504 : σ' 18504 = 0 + (1 * τ 18504 + 0) := hm 18504 (by decide)
  have m18508 : σ' 18508 = 0 + (1 * τ 18508 + 0) := hm 18508 (by decide)
  clear hf hm
  refine ⟨Or.inr ⟨by omega, fun h => ?_, by omega, by omega, by omega, by omega, by omega, by omega, by omega, by omega⟩, by omega, by omega, by omega, by omega, by omega, by omega, by omega, by omega⟩
  obtain ⟨z1, z2, z3, z4, z5, z6⟩ := h
  omega
theorem lw_tx_1 {as : List rv_A} {σ σ' : Nat → Int} {o : rv_O} {x : Int32} {a1 a2 a3 : Int} {τ : Nat → Int} (hx : o.1 = some (.inl x)) (h1 : lw_av as 1 = a1) (h2 : lw_av as 2 = a2) (h3 : lw_av as 3 = a3) (hb : ∀ s, (sx_sr s).1 ≤ σ s ∧ σ s ≤ (sx_sr s).2) (hW : lw_W ([], [(0, [(19001, 1)]), (3, [(19001, (-1))]), ((-1), [(19002, (-1))])], [(9, (1, []))], some (false, (0, []))) as σ σ' τ o) : lw_tx_C a1 a2 a3 x.toInt σ σ' := by
  unfold lw_tx_C
  obtain ⟨hs, ht, hf, hr, hm, hw⟩ := hW
  have e1 : τ 19001 = a1 := by rw [ht 19001 (by decide) (by decide)]; exact h1
  have e2 : τ 19002 = a2 := by rw [ht 19002 (by decide) (by decide)]; exact h2
  have e3 : τ 19003 = a3 := by rw [ht 19003 (by decide) (by decide)]; exact h3
  have s5377 : τ 5377 = σ 5377 := hs 5377 (by decide)
  have s5378 : τ 5378 = σ 5378 := hs 5378 (by decide)
  have s5633 : τ 5633 = σ 5633 := hs 5633 (by decide)
  have s5634 : τ 5634 = σ 5634 := hs 5634 (by decide)
  have s5889 : τ 5889 = σ 5889 := hs 5889 (by decide)
  have s5890 : τ 5890 = σ 5890 := hs 5890 (by decide)
  have s6145 : τ 6145 = σ 6145 := hs 6145 (by decide)
  have s6146 : τ 6146 = σ 6146 := hs 6146 (by decide)
  have s18501 : τ 18501 = σ 18501 := hs 18501 (by decide)
  have s18502 : τ 18502 = σ 18502 := hs 18502 (by decide)
  have s18503 : τ 18503 = σ 18503 := hs 18503 (by decide)
  have s18504 : τ 18504 = σ 18504 := hs 18504 (by decide)
  have s18505 : τ 18505 = σ 18505 := hs 18505 (by decide)
  have s18506 : τ 18506 = σ 18506 := hs 18506 (by decide)
  have s18507 : τ 18507 = σ 18507 := hs 18507 (by decide)
  have s18508 : τ 18508 = σ 18508 := hs 18508 (by decide)
  clear hs ht hb
  rw [hx] at hr
  obtain ⟨y, hy, hv⟩ := hr
  cases hy
  replace hv : x.toInt = 0 + 0 := hv
  have f0 : 0 ≤ 0 + (1 * τ 19001 + 0) := hf _ (List.Mem.head _)
  have f1 : 0 ≤ 3 + ((-1) * τ 19001 + 0) := hf _ (List.Mem.tail _ (List.Mem.head _))
  have f2 : 0 ≤ (-1) + ((-1) * τ 19002 + 0) := hf _ (List.Mem.tail _ (List.Mem.tail _ (List.Mem.head _)))
  have m5377 : σ' 5377 = 0 + (1 * τ 5377 + 0) := hm 5377 (by decide)
  have m5378 : σ' 5378 = 0 + (1 * τ 5378 + 0) := hm 5378 (by decide)
  have m18501 : σ' 18501 = 0 + (1 * τ 18501 + 0) := hm 18501 (by decide)
  have m18505 : σ' 18505 = 0 + (1 * τ 18505 + 0) := hm 18505 (by decide)
  have m5633 : σ' 5633 = 0 + (1 * τ 5633 + 0) := hm 5633 (by decide)
  have m5634 : σ' 5634 = 0 + (1 * τ 5634 + 0) := hm 5634 (by decide)
  have m18502 : σ' 18502 = 0 + (1 * τ 18502 + 0) := hm 18502 (by decide)
  have m18506 : σ' 18506 = 0 + (1 * τ 18506 + 0) := hm 18506 (by decide)
  have m5889 : σ' 5889 = 0 + (1 * τ 5889 + 0) := hm 5889 (by decide)
  have m5890 : σ' 5890 = 0 + (1 * τ 5890 + 0) := hm 5890 (by decide)
  have m18503 : σ' 18503 = 0 + (1 * τ 18503 + 0) := hm 18503 (by decide)
  have m18507 : σ' 18507 = 0 + (1 * τ 18507 + 0) := hm 18507 (by decide)
  have m6145 : σ' 6145 = 0 + (1 * τ 6145 + 0) := hm 6145 (by decide)
  have m6146 : σ' 6146 = 0 + (1 * τ 6146 + 0) := hm 6146 (by decide)
  have m18504 : σ' 18504 = 0 + (1 * τ 18504 + 0) := hm 18504 (by decide)
  have m18508 : σ' 18508 = 0 + (1 * τ 18508 + 0) := hm 18508 (by decide)
  clear hf hm
  refine ⟨Or.inr ⟨by omega, fun h => ?_, by omega, by omega, by omega, by omega, by omega, by omega, by omega, by omega⟩, by omega, by omega, by omega, by omega, by omega, by omega, by omega, by omega⟩
  obtain ⟨z1, z2, z3, z4, z5, z6⟩ := h
  omega
theorem lw_tx_2 {as : List rv_A} {σ σ' : Nat → Int} {o : rv_O} {x : Int32} {a1 a2 a3 : Int} {τ : Nat → Int} (hx : o.1 = some (.inl x)) (h1 : lw_av as 1 = a1) (h2 : lw_av as 2 = a2) (h3 : lw_av as 3 = a3) (hb : ∀ s, (sx_sr s).1 ≤ σ s ∧ σ s ≤ (sx_sr s).2) (hW : lw_W ([], [(0, [(19001, 1)]), (3, [(19001, (-1))]), (0, [(19002, 1)]), (3, [(19002, (-1))]), ((-1), [(19003, (-1))])], [(9, (1, []))], some (false, (0, []))) as σ σ' τ o) : lw_tx_C a1 a2 a3 x.toInt σ σ' := by
  unfold lw_tx_C
  obtain ⟨hs, ht, hf, hr, hm, hw⟩ := hW
  have e1 : τ 19001 = a1 := by rw [ht 19001 (by decide) (by decide)]; exact h1
  have e2 : τ 19002 = a2 := by rw [ht 19002 (by decide) (by decide)]; exact h2
  have e3 : τ 19003 = a3 := by rw [ht 19003 (by decide) (by decide)]; exact h3
  have s5377 : τ 5377 = σ 5377 := hs 5377 (by decide)
  have s5378 : τ 5378 = σ 5378 := hs 5378 (by decide)
  have s5633 : τ 5633 = σ 5633 := hs 5633 (by decide)
  have s5634 : τ 5634 = σ 5634 := hs 5634 (by decide)
  have s5889 : τ 5889 = σ 5889 := hs 5889 (by decide)
  have s5890 : τ 5890 = σ 5890 := hs 5890 (by decide)
  have s6145 : τ 6145 = σ 6145 := hs 6145 (by decide)
  have s6146 : τ 6146 = σ 6146 := hs 6146 (by decide)
  have s18501 : τ 18501 = σ 18501 := hs 18501 (by decide)
  have s18502 : τ 18502 = σ 18502 := hs 18502 (by decide)
  have s18503 : τ 18503 = σ 18503 := hs 18503 (by decide)
  have s18504 : τ 18504 = σ 18504 := hs 18504 (by decide)
  have s18505 : τ 18505 = σ 18505 := hs 18505 (by decide)
  have s18506 : τ 18506 = σ 18506 := hs 18506 (by decide)
  have s18507 : τ 18507 = σ 18507 := hs 18507 (by decide)
  have s18508 : τ 18508 = σ 18508 := hs 18508 (by decide)
  clear hs ht hb
  rw [hx] at hr
  obtain ⟨y, hy, hv⟩ := hr
  cases hy
  replace hv : x.toInt = 0 + 0 := hv
  have f0 : 0 ≤ 0 + (1 * τ 19001 + 0) := hf _ (List.Mem.head _)
  have f1 : 0 ≤ 3 + ((-1) * τ 19001 + 0) := hf _ (List.Mem.tail _ (List.Mem.head _))
  have f2 : 0 ≤ 0 + (1 * τ 19002 + 0) := hf _ (List.Mem.tail _ (List.Mem.tail _ (List.Mem.head _)))
  have f3 : 0 ≤ 3 + ((-1) * τ 19002 + 0) := hf _ (List.Mem.tail _ (List.Mem.tail _ (List.Mem.tail _ (List.Mem.head _))))
  have f4 : 0 ≤ (-1) + ((-1) * τ 19003 + 0) := hf _ (List.Mem.tail _ (List.Mem.tail _ (List.Mem.tail _ (List.Mem.tail _ (List.Mem.head _)))))
  have m5377 : σ' 5377 = 0 + (1 * τ 5377 + 0) := hm 5377 (by decide)
  have m5378 : σ' 5378 = 0 + (1 * τ 5378 + 0) := hm 5378 (by decide)
  have m18501 : σ' 18501 = 0 + (1 * τ 18501 + 0) := hm 18501 (by decide)
  have m18505 : σ' 18505 = 0 + (1 * τ 18505 + 0) := hm 18505 (by decide)
  have m5633 : σ' 5633 = 0 + (1 * τ 5633 + 0) := hm 5633 (by decide)
  have m5634 : σ' 5634 = 0 + (1 * τ 5634 + 0) := hm 5634 (by decide)
  have m18502 : σ' 18502 = 0 + (1 * τ 18502 + 0) := hm 18502 (by decide)
  have m18506 : σ' 18506 = 0 + (1 * τ 18506 + 0) := hm 18506 (by decide)
  have m5889 : σ' 5889 = 0 + (1 * τ 5889 + 0) := hm 5889 (by decide)
  have m5890 : σ' 5890 = 0 + (1 * τ 5890 + 0) := hm 5890 (by decide)
  have m18503 : σ' 18503 = 0 + (1 * τ 18503 + 0) := hm 18503 (by decide)
  have m18507 : σ' 18507 = 0 + (1 * τ 18507 + 0) := hm 18507 (by decide)
  have m6145 : σ' 6145 = 0 + (1 * τ 6145 + 0) := hm 6145 (by decide)
  have m6146 : σ' 6146 = 0 + (1 * τ 6146 + 0) := hm 6146 (by decide)
  have m18504 : σ' 18504 = 0 + (1 * τ 18504 + 0) := hm 18504 (by decide)
  have m18508 : σ' 18508 = 0 + (1 * τ 18508 + 0) := hm 18508 (by decide)
  clear hf hm
  refine ⟨Or.inr ⟨by omega, fun h => ?_, by omega, by omega, by omega, by omega, by omega, by omega, by omega, by omega⟩, by omega, by omega, by omega, by omega, by omega, by omega, by omega, by omega⟩
  obtain ⟨z1, z2, z3, z4, z5, z6⟩ := h
  omega
theorem lw_tx_3 {as : List rv_A} {σ σ' : Nat → Int} {o : rv_O} {x : Int32} {a1 a2 a3 : Int} {τ : Nat → Int} (hx : o.1 = some (.inl x)) (h1 : lw_av as 1 = a1) (h2 : lw_av as 2 = a2) (h3 : lw_av as 3 = a3) (hb : ∀ s, (sx_sr s).1 ≤ σ s ∧ σ s ≤ (sx_sr s).2) (hW : lw_W ([], [(0, [(19001, 1)]), (3, [(19001, (-1))]), (0, [(19002, 1)]), (3, [(19002, (-1))]), ((-61), [(19003, 1)])], [(9, (1, []))], some (false, (0, []))) as σ σ' τ o) : lw_tx_C a1 a2 a3 x.toInt σ σ' := by
  unfold lw_tx_C
  obtain ⟨hs, ht, hf, hr, hm, hw⟩ := hW
  have e1 : τ 19001 = a1 := by rw [ht 19001 (by decide) (by decide)]; exact h1
  have e2 : τ 19002 = a2 := by rw [ht 19002 (by decide) (by decide)]; exact h2
  have e3 : τ 19003 = a3 := by rw [ht 19003 (by decide) (by decide)]; exact h3
  have s5377 : τ 5377 = σ 5377 := hs 5377 (by decide)
  have s5378 : τ 5378 = σ 5378 := hs 5378 (by decide)
  have s5633 : τ 5633 = σ 5633 := hs 5633 (by decide)
  have s5634 : τ 5634 = σ 5634 := hs 5634 (by decide)
  have s5889 : τ 5889 = σ 5889 := hs 5889 (by decide)
  have s5890 : τ 5890 = σ 5890 := hs 5890 (by decide)
  have s6145 : τ 6145 = σ 6145 := hs 6145 (by decide)
  have s6146 : τ 6146 = σ 6146 := hs 6146 (by decide)
  have s18501 : τ 18501 = σ 18501 := hs 18501 (by decide)
  have s18502 : τ 18502 = σ 18502 := hs 18502 (by decide)
  have s18503 : τ 18503 = σ 18503 := hs 18503 (by decide)
  have s18504 : τ 18504 = σ 18504 := hs 18504 (by decide)
  have s18505 : τ 18505 = σ 18505 := hs 18505 (by decide)
  have s18506 : τ 18506 = σ 18506 := hs 18506 (by decide)
  have s18507 : τ 18507 = σ 18507 := hs 18507 (by decide)
  have s18508 : τ 18508 = σ 18508 := hs 18508 (by decide)
  clear hs ht hb
  rw [hx] at hr
  obtain ⟨y, hy, hv⟩ := hr
  cases hy
  replace hv : x.toInt = 0 + 0 := hv
  have f0 : 0 ≤ 0 + (1 * τ 19001 + 0) := hf _ (List.Mem.head _)
  have f1 : 0 ≤ 3 + ((-1) * τ 19001 + 0) := hf _ (List.Mem.tail _ (List.Mem.head _))
  have f2 : 0 ≤ 0 + (1 * τ 19002 + 0) := hf _ (List.Mem.tail _ (List.Mem.tail _ (List.Mem.head _)))
  have f3 : 0 ≤ 3 + ((-1) * τ 19002 + 0) := hf _ (List.Mem.tail _ (List.Mem.tail _ (List.Mem.tail _ (List.Mem.head _))))
  have f4 : 0 ≤ (-61) + (1 * τ 19003 + 0) := hf _ (List.Mem.tail _ (List.Mem.tail _ (List.Mem.tail _ (List.Mem.tail _ (List.Mem.head _)))))
  have m5377 : σ' 5377 = 0 + (1 * τ 5377 + 0) := hm 5377 (by decide)
  have m5378 : σ' 5378 = 0 + (1 * τ 5378 + 0) := hm 5378 (by decide)
  have m18501 : σ' 18501 = 0 + (1 * τ 18501 + 0) := hm 18501 (by decide)
  have m18505 : σ' 18505 = 0 + (1 * τ 18505 + 0) := hm 18505 (by decide)
  have m5633 : σ' 5633 = 0 + (1 * τ 5633 + 0) := hm 5633 (by decide)
  have m5634 : σ' 5634 = 0 + (1 * τ 5634 + 0) := hm 5634 (by decide)
  have m18502 : σ' 18502 = 0 + (1 * τ 18502 + 0) := hm 18502 (by decide)
  have m18506 : σ' 18506 = 0 + (1 * τ 18506 + 0) := hm 18506 (by decide)
  have m5889 : σ' 5889 = 0 + (1 * τ 5889 + 0) := hm 5889 (by decide)
  have m5890 : σ' 5890 = 0 + (1 * τ 5890 + 0) := hm 5890 (by decide)
  have m18503 : σ' 18503 = 0 + (1 * τ 18503 + 0) := hm 18503 (by decide)
  have m18507 : σ' 18507 = 0 + (1 * τ 18507 + 0) := hm 18507 (by decide)
  have m6145 : σ' 6145 = 0 + (1 * τ 6145 + 0) := hm 6145 (by decide)
  have m6146 : σ' 6146 = 0 + (1 * τ 6146 + 0) := hm 6146 (by decide)
  have m18504 : σ' 18504 = 0 + (1 * τ 18504 + 0) := hm 18504 (by decide)
  have m18508 : σ' 18508 = 0 + (1 * τ 18508 + 0) := hm 18508 (by decide)
  clear hf hm
  refine ⟨Or.inr ⟨by omega, fun h => ?_, by omega, by omega, by omega, by omega, by omega, by omega, by omega, by omega⟩, by omega, by omega, by omega, by omega, by omega, by omega, by omega, by omega⟩
  obtain ⟨z1, z2, z3, z4, z5, z6⟩ := h
  omega
theorem lw_tx_4 {as : List rv_A} {σ σ' : Nat → Int} {o : rv_O} {x : Int32} {a1 a2 a3 : Int} {τ : Nat → Int} (hx : o.1 = some (.inl x)) (h1 : lw_av as 1 = a1) (h2 : lw_av as 2 = a2) (h3 : lw_av as 3 = a3) (hb : ∀ s, (sx_sr s).1 ≤ σ s ∧ σ s ≤ (sx_sr s).2) (hW : lw_W ([], [(0, [(19001, 1)]), (3, [(19001, (-1))]), ((-4), [(19002, 1)])], [(9, (1, []))], some (false, (0, []))) as σ σ' τ o) : lw_tx_C a1 a2 a3 x.toInt σ σ' := by
  unfold lw_tx_C
  obtain ⟨hs, ht, hf, hr, hm, hw⟩ := hW
  have e1 : τ 19001 = a1 := by rw [ht 19001 (by decide) (by decide)]; exact h1
  have e2 : τ 19002 = a2 := by rw [ht 19002 (by decide) (by decide)]; exact h2
  have e3 : τ 19003 = a3 := by rw [ht 19003 (by decide) (by decide)]; exact h3
  have s5377 : τ 5377 = σ 5377 := hs 5377 (by decide)
  have s5378 : τ 5378 = σ 5378 := hs 5378 (by decide)
  have s5633 : τ 5633 = σ 5633 := hs 5633 (by decide)
  have s5634 : τ 5634 = σ 5634 := hs 5634 (by decide)
  have s5889 : τ 5889 = σ 5889 := hs 5889 (by decide)
  have s5890 : τ 5890 = σ 5890 := hs 5890 (by decide)
  have s6145 : τ 6145 = σ 6145 := hs 6145 (by decide)
  have s6146 : τ 6146 = σ 6146 := hs 6146 (by decide)
  have s18501 : τ 18501 = σ 18501 := hs 18501 (by decide)
  have s18502 : τ 18502 = σ 18502 := hs 18502 (by decide)
  have s18503 : τ 18503 = σ 18503 := hs 18503 (by decide)
  have s18504 : τ 18504 = σ 18504 := hs 18504 (by decide)
  have s18505 : τ 18505 = σ 18505 := hs 18505 (by decide)
  have s18506 : τ 18506 = σ 18506 := hs 18506 (by decide)
  have s18507 : τ 18507 = σ 18507 := hs 18507 (by decide)
  have s18508 : τ 18508 = σ 18508 := hs 18508 (by decide)
  clear hs ht hb
  rw [hx] at hr
  obtain ⟨y, hy, hv⟩ := hr
  cases hy
  replace hv : x.toInt = 0 + 0 := hv
  have f0 : 0 ≤ 0 + (1 * τ 19001 + 0) := hf _ (List.Mem.head _)
  have f1 : 0 ≤ 3 + ((-1) * τ 19001 + 0) := hf _ (List.Mem.tail _ (List.Mem.head _))
  have f2 : 0 ≤ (-4) + (1 * τ 19002 + 0) := hf _ (List.Mem.tail _ (List.Mem.tail _ (List.Mem.head _)))
  have m5377 : σ' 5377 = 0 + (1 * τ 5377 + 0) := hm 5377 (by decide)
  have m5378 : σ' 5378 = 0 + (1 * τ 5378 + 0) := hm 5378 (by decide)
  have m18501 : σ' 18501 = 0 + (1 * τ 18501 + 0) := hm 18501 (by decide)
  have m18505 : σ' 18505 = 0 + (1 * τ 18505 + 0) := hm 18505 (by decide)
  have m5633 : σ' 5633 = 0 + (1 * τ 5633 + 0) := hm 5633 (by decide)
  have m5634 : σ' 5634 = 0 + (1 * τ 5634 + 0) := hm 5634 (by decide)
  have m18502 : σ' 18502 = 0 + (1 * τ 18502 + 0) := hm 18502 (by decide)
  have m18506 : σ' 18506 = 0 + (1 * τ 18506 + 0) := hm 18506 (by decide)
  have m5889 : σ' 5889 = 0 + (1 * τ 5889 + 0) := hm 5889 (by decide)
  have m5890 : σ' 5890 = 0 + (1 * τ 5890 + 0) := hm 5890 (by decide)
  have m18503 : σ' 18503 = 0 + (1 * τ 18503 + 0) := hm 18503 (by decide)
  have m18507 : σ' 18507 = 0 + (1 * τ 18507 + 0) := hm 18507 (by decide)
  have m6145 : σ' 6145 = 0 + (1 * τ 6145 + 0) := hm 6145 (by decide)
  have m6146 : σ' 6146 = 0 + (1 * τ 6146 + 0) := hm 6146 (by decide)
  have m18504 : σ' 18504 = 0 + (1 * τ 18504 + 0) := hm 18504 (by decide)
  have m18508 : σ' 18508 = 0 + (1 * τ 18508 + 0) := hm 18508 (by decide)
  clear hf hm
  refine ⟨Or.inr ⟨by omega, fun h => ?_, by omega, by omega, by omega, by omega, by omega, by omega, by omega, by omega⟩, by omega, by omega, by omega, by omega, by omega, by omega, by omega, by omega⟩
  obtain ⟨z1, z2, z3, z4, z5, z6⟩ := h
  omega
theorem lw_tx_5 {as : List rv_A} {σ σ' : Nat → Int} {o : rv_O} {x : Int32} {a1 a2 a3 : Int} {τ : Nat → Int} (hx : o.1 = some (.inl x)) (h1 : lw_av as 1 = a1) (h2 : lw_av as 2 = a2) (h3 : lw_av as 3 = a3) (hb : ∀ s, (sx_sr s).1 ≤ σ s ∧ σ s ≤ (sx_sr s).2) (hW : lw_W ([], [((-4), [(19001, 1)])], [(9, (1, []))], some (false, (0, []))) as σ σ' τ o) : lw_tx_C a1 a2 a3 x.toInt σ σ' := by
  unfold lw_tx_C
  obtain ⟨hs, ht, hf, hr, hm, hw⟩ := hW
  have e1 : τ 19001 = a1 := by rw [ht 19001 (by decide) (by decide)]; exact h1
  have e2 : τ 19002 = a2 := by rw [ht 19002 (by decide) (by decide)]; exact h2
  have e3 : τ 19003 = a3 := by rw [ht 19003 (by decide) (by decide)]; exact h3
  have s5377 : τ 5377 = σ 5377 := hs 5377 (by decide)
  have s5378 : τ 5378 = σ 5378 := hs 5378 (by decide)
  have s5633 : τ 5633 = σ 5633 := hs 5633 (by decide)
  have s5634 : τ 5634 = σ 5634 := hs 5634 (by decide)
  have s5889 : τ 5889 = σ 5889 := hs 5889 (by decide)
  have s5890 : τ 5890 = σ 5890 := hs 5890 (by decide)
  have s6145 : τ 6145 = σ 6145 := hs 6145 (by decide)
  have s6146 : τ 6146 = σ 6146 := hs 6146 (by decide)
  have s18501 : τ 18501 = σ 18501 := hs 18501 (by decide)
  have s18502 : τ 18502 = σ 18502 := hs 18502 (by decide)
  have s18503 : τ 18503 = σ 18503 := hs 18503 (by decide)
  have s18504 : τ 18504 = σ 18504 := hs 18504 (by decide)
  have s18505 : τ 18505 = σ 18505 := hs 18505 (by decide)
  have s18506 : τ 18506 = σ 18506 := hs 18506 (by decide)
  have s18507 : τ 18507 = σ 18507 := hs 18507 (by decide)
  have s18508 : τ 18508 = σ 18508 := hs 18508 (by decide)
  clear hs ht hb
  rw [hx] at hr
  obtain ⟨y, hy, hv⟩ := hr
  cases hy
  replace hv : x.toInt = 0 + 0 := hv
  have f0 : 0 ≤ (-4) + (1 * τ 19001 + 0) := hf _ (List.Mem.head _)
  have m5377 : σ' 5377 = 0 + (1 * τ 5377 + 0) := hm 5377 (by decide)
  have m5378 : σ' 5378 = 0 + (1 * τ 5378 + 0) := hm 5378 (by decide)
  have m18501 : σ' 18501 = 0 + (1 * τ 18501 + 0) := hm 18501 (by decide)
  have m18505 : σ' 18505 = 0 + (1 * τ 18505 + 0) := hm 18505 (by decide)
  have m5633 : σ' 5633 = 0 + (1 * τ 5633 + 0) := hm 5633 (by decide)
  have m5634 : σ' 5634 = 0 + (1 * τ 5634 + 0) := hm 5634 (by decide)
  have m18502 : σ' 18502 = 0 + (1 * τ 18502 + 0) := hm 18502 (by decide)
  have m18506 : σ' 18506 = 0 + (1 * τ 18506 + 0) := hm 18506 (by decide)
  have m5889 : σ' 5889 = 0 + (1 * τ 5889 + 0) := hm 5889 (by decide)
  have m5890 : σ' 5890 = 0 + (1 * τ 5890 + 0) := hm 5890 (by decide)
  have m18503 : σ' 18503 = 0 + (1 * τ 18503 + 0) := hm 18503 (by decide)
  have m18507 : σ' 18507 = 0 + (1 * τ 18507 + 0) := hm 18507 (by decide)
  have m6145 : σ' 6145 = 0 + (1 * τ 6145 + 0) := hm 6145 (by decide)
  have m6146 : σ' 6146 = 0 + (1 * τ 6146 + 0) := hm 6146 (by decide)
  have m18504 : σ' 18504 = 0 + (1 * τ 18504 + 0) := hm 18504 (by decide)
  have m18508 : σ' 18508 = 0 + (1 * τ 18508 + 0) := hm 18508 (by decide)
  clear hf hm
  refine ⟨Or.inr ⟨by omega, fun h => ?_, by omega, by omega, by omega, by omega, by omega, by omega, by omega, by omega⟩, by omega, by omega, by omega, by omega, by omega, by omega, by omega, by omega⟩
  obtain ⟨z1, z2, z3, z4, z5, z6⟩ := h
  omega
theorem lw_tx_6 {as : List rv_A} {σ σ' : Nat → Int} {o : rv_O} {x : Int32} {a1 a2 a3 : Int} {τ : Nat → Int} (hx : o.1 = some (.inl x)) (h1 : lw_av as 1 = a1) (h2 : lw_av as 2 = a2) (h3 : lw_av as 3 = a3) (hb : ∀ s, (sx_sr s).1 ≤ σ s ∧ σ s ≤ (sx_sr s).2) (hW : lw_W ([], [(0, [(19001, 1)]), (0, [(19001, (-1))]), (0, [(19002, 1)]), (3, [(19002, (-1))]), (0, [(19003, 1)]), (60, [(19003, (-1))])], [(9, (0, [])), (5377, (0, [(19002, 1)])), (5378, (0, [(19003, 1)]))], some (false, (1, []))) as σ σ' τ o) : lw_tx_C a1 a2 a3 x.toInt σ σ' := by
  unfold lw_tx_C
  obtain ⟨hs, ht, hf, hr, hm, hw⟩ := hW
  have e1 : τ 19001 = a1 := by rw [ht 19001 (by decide) (by decide)]; exact h1
  have e2 : τ 19002 = a2 := by rw [ht 19002 (by decide) (by decide)]; exact h2
  have e3 : τ 19003 = a3 := by rw [ht 19003 (by decide) (by decide)]; exact h3
  have s5377 : τ 5377 = σ 5377 := hs 5377 (by decide)
  have s5378 : τ 5378 = σ 5378 := hs 5378 (by decide)
  have s5633 : τ 5633 = σ 5633 := hs 5633 (by decide)
  have s5634 : τ 5634 = σ 5634 := hs 5634 (by decide)
  have s5889 : τ 5889 = σ 5889 := hs 5889 (by decide)
  have s5890 : τ 5890 = σ 5890 := hs 5890 (by decide)
  have s6145 : τ 6145 = σ 6145 := hs 6145 (by decide)
  have s6146 : τ 6146 = σ 6146 := hs 6146 (by decide)
  have s18501 : τ 18501 = σ 18501 := hs 18501 (by decide)
  have s18502 : τ 18502 = σ 18502 := hs 18502 (by decide)
  have s18503 : τ 18503 = σ 18503 := hs 18503 (by decide)
  have s18504 : τ 18504 = σ 18504 := hs 18504 (by decide)
  have s18505 : τ 18505 = σ 18505 := hs 18505 (by decide)
  have s18506 : τ 18506 = σ 18506 := hs 18506 (by decide)
  have s18507 : τ 18507 = σ 18507 := hs 18507 (by decide)
  have s18508 : τ 18508 = σ 18508 := hs 18508 (by decide)
  clear hs ht hb
  rw [hx] at hr
  obtain ⟨y, hy, hv⟩ := hr
  cases hy
  replace hv : x.toInt = 1 + 0 := hv
  have f0 : 0 ≤ 0 + (1 * τ 19001 + 0) := hf _ (List.Mem.head _)
  have f1 : 0 ≤ 0 + ((-1) * τ 19001 + 0) := hf _ (List.Mem.tail _ (List.Mem.head _))
  have f2 : 0 ≤ 0 + (1 * τ 19002 + 0) := hf _ (List.Mem.tail _ (List.Mem.tail _ (List.Mem.head _)))
  have f3 : 0 ≤ 3 + ((-1) * τ 19002 + 0) := hf _ (List.Mem.tail _ (List.Mem.tail _ (List.Mem.tail _ (List.Mem.head _))))
  have f4 : 0 ≤ 0 + (1 * τ 19003 + 0) := hf _ (List.Mem.tail _ (List.Mem.tail _ (List.Mem.tail _ (List.Mem.tail _ (List.Mem.head _)))))
  have f5 : 0 ≤ 60 + ((-1) * τ 19003 + 0) := hf _ (List.Mem.tail _ (List.Mem.tail _ (List.Mem.tail _ (List.Mem.tail _ (List.Mem.tail _ (List.Mem.head _))))))
  have m5377 : σ' 5377 = 0 + (1 * τ 19002 + 0) := hm 5377 (by decide)
  have m5378 : σ' 5378 = 0 + (1 * τ 19003 + 0) := hm 5378 (by decide)
  have m18501 : σ' 18501 = 0 + (1 * τ 18501 + 0) := hm 18501 (by decide)
  have m18505 : σ' 18505 = 0 + (1 * τ 18505 + 0) := hm 18505 (by decide)
  have m5633 : σ' 5633 = 0 + (1 * τ 5633 + 0) := hm 5633 (by decide)
  have m5634 : σ' 5634 = 0 + (1 * τ 5634 + 0) := hm 5634 (by decide)
  have m18502 : σ' 18502 = 0 + (1 * τ 18502 + 0) := hm 18502 (by decide)
  have m18506 : σ' 18506 = 0 + (1 * τ 18506 + 0) := hm 18506 (by decide)
  have m5889 : σ' 5889 = 0 + (1 * τ 5889 + 0) := hm 5889 (by decide)
  have m5890 : σ' 5890 = 0 + (1 * τ 5890 + 0) := hm 5890 (by decide)
  have m18503 : σ' 18503 = 0 + (1 * τ 18503 + 0) := hm 18503 (by decide)
  have m18507 : σ' 18507 = 0 + (1 * τ 18507 + 0) := hm 18507 (by decide)
  have m6145 : σ' 6145 = 0 + (1 * τ 6145 + 0) := hm 6145 (by decide)
  have m6146 : σ' 6146 = 0 + (1 * τ 6146 + 0) := hm 6146 (by decide)
  have m18504 : σ' 18504 = 0 + (1 * τ 18504 + 0) := hm 18504 (by decide)
  have m18508 : σ' 18508 = 0 + (1 * τ 18508 + 0) := hm 18508 (by decide)
  clear hf hm
  exact ⟨Or.inl ⟨by omega, ⟨by omega, by omega, by omega, by omega, by omega, by omega⟩, Or.inl ⟨by omega, by omega, by omega⟩, Or.inr ⟨by omega, by omega, by omega⟩, Or.inr ⟨by omega, by omega, by omega⟩, Or.inr ⟨by omega, by omega, by omega⟩⟩, by omega, by omega, by omega, by omega, by omega, by omega, by omega, by omega⟩
theorem lw_tx_7 {as : List rv_A} {σ σ' : Nat → Int} {o : rv_O} {x : Int32} {a1 a2 a3 : Int} {τ : Nat → Int} (hx : o.1 = some (.inl x)) (h1 : lw_av as 1 = a1) (h2 : lw_av as 2 = a2) (h3 : lw_av as 3 = a3) (hb : ∀ s, (sx_sr s).1 ≤ σ s ∧ σ s ≤ (sx_sr s).2) (hW : lw_W ([], [((-1), [(19001, 1)]), (1, [(19001, (-1))]), (0, [(19002, 1)]), (3, [(19002, (-1))]), (0, [(19003, 1)]), (60, [(19003, (-1))])], [(9, (0, [])), (5633, (0, [(19002, 1)])), (5634, (0, [(19003, 1)]))], some (false, (1, []))) as σ σ' τ o) : lw_tx_C a1 a2 a3 x.toInt σ σ' := by
  unfold lw_tx_C
  obtain ⟨hs, ht, hf, hr, hm, hw⟩ := hW
  have e1 : τ 19001 = a1 := by rw [ht 19001 (by decide) (by decide)]; exact h1
  have e2 : τ 19002 = a2 := by rw [ht 19002 (by decide) (by decide)]; exact h2
  have e3 : τ 19003 = a3 := by rw [ht 19003 (by decide) (by decide)]; exact h3
  have s5377 : τ 5377 = σ 5377 := hs 5377 (by decide)
  have s5378 : τ 5378 = σ 5378 := hs 5378 (by decide)
  have s5633 : τ 5633 = σ 5633 := hs 5633 (by decide)
  have s5634 : τ 5634 = σ 5634 := hs 5634 (by decide)
  have s5889 : τ 5889 = σ 5889 := hs 5889 (by decide)
  have s5890 : τ 5890 = σ 5890 := hs 5890 (by decide)
  have s6145 : τ 6145 = σ 6145 := hs 6145 (by decide)
  have s6146 : τ 6146 = σ 6146 := hs 6146 (by decide)
  have s18501 : τ 18501 = σ 18501 := hs 18501 (by decide)
  have s18502 : τ 18502 = σ 18502 := hs 18502 (by decide)
  have s18503 : τ 18503 = σ 18503 := hs 18503 (by decide)
  have s18504 : τ 18504 = σ 18504 := hs 18504 (by decide)
  have s18505 : τ 18505 = σ 18505 := hs 18505 (by decide)
  have s18506 : τ 18506 = σ 18506 := hs 18506 (by decide)
  have s18507 : τ 18507 = σ 18507 := hs 18507 (by decide)
  have s18508 : τ 18508 = σ 18508 := hs 18508 (by decide)
  clear hs ht hb
  rw [hx] at hr
  obtain ⟨y, hy, hv⟩ := hr
  cases hy
  replace hv : x.toInt = 1 + 0 := hv
  have f0 : 0 ≤ (-1) + (1 * τ 19001 + 0) := hf _ (List.Mem.head _)
  have f1 : 0 ≤ 1 + ((-1) * τ 19001 + 0) := hf _ (List.Mem.tail _ (List.Mem.head _))
  have f2 : 0 ≤ 0 + (1 * τ 19002 + 0) := hf _ (List.Mem.tail _ (List.Mem.tail _ (List.Mem.head _)))
  have f3 : 0 ≤ 3 + ((-1) * τ 19002 + 0) := hf _ (List.Mem.tail _ (List.Mem.tail _ (List.Mem.tail _ (List.Mem.head _))))
  have f4 : 0 ≤ 0 + (1 * τ 19003 + 0) := hf _ (List.Mem.tail _ (List.Mem.tail _ (List.Mem.tail _ (List.Mem.tail _ (List.Mem.head _)))))
  have f5 : 0 ≤ 60 + ((-1) * τ 19003 + 0) := hf _ (List.Mem.tail _ (List.Mem.tail _ (List.Mem.tail _ (List.Mem.tail _ (List.Mem.tail _ (List.Mem.head _))))))
  have m5377 : σ' 5377 = 0 + (1 * τ 5377 + 0) := hm 5377 (by decide)
  have m5378 : σ' 5378 = 0 + (1 * τ 5378 + 0) := hm 5378 (by decide)
  have m18501 : σ' 18501 = 0 + (1 * τ 18501 + 0) := hm 18501 (by decide)
  have m18505 : σ' 18505 = 0 + (1 * τ 18505 + 0) := hm 18505 (by decide)
  have m5633 : σ' 5633 = 0 + (1 * τ 19002 + 0) := hm 5633 (by decide)
  have m5634 : σ' 5634 = 0 + (1 * τ 19003 + 0) := hm 5634 (by decide)
  have m18502 : σ' 18502 = 0 + (1 * τ 18502 + 0) := hm 18502 (by decide)
  have m18506 : σ' 18506 = 0 + (1 * τ 18506 + 0) := hm 18506 (by decide)
  have m5889 : σ' 5889 = 0 + (1 * τ 5889 + 0) := hm 5889 (by decide)
  have m5890 : σ' 5890 = 0 + (1 * τ 5890 + 0) := hm 5890 (by decide)
  have m18503 : σ' 18503 = 0 + (1 * τ 18503 + 0) := hm 18503 (by decide)
  have m18507 : σ' 18507 = 0 + (1 * τ 18507 + 0) := hm 18507 (by decide)
  have m6145 : σ' 6145 = 0 + (1 * τ 6145 + 0) := hm 6145 (by decide)
  have m6146 : σ' 6146 = 0 + (1 * τ 6146 + 0) := hm 6146 (by decide)
  have m18504 : σ' 18504 = 0 + (1 * τ 18504 + 0) := hm 18504 (by decide)
  have m18508 : σ' 18508 = 0 + (1 * τ 18508 + 0) := hm 18508 (by decide)
  clear hf hm
  exact ⟨Or.inl ⟨by omega, ⟨by omega, by omega, by omega, by omega, by omega, by omega⟩, Or.inr ⟨by omega, by omega, by omega⟩, Or.inl ⟨by omega, by omega, by omega⟩, Or.inr ⟨by omega, by omega, by omega⟩, Or.inr ⟨by omega, by omega, by omega⟩⟩, by omega, by omega, by omega, by omega, by omega, by omega, by omega, by omega⟩
theorem lw_tx_8 {as : List rv_A} {σ σ' : Nat → Int} {o : rv_O} {x : Int32} {a1 a2 a3 : Int} {τ : Nat → Int} (hx : o.1 = some (.inl x)) (h1 : lw_av as 1 = a1) (h2 : lw_av as 2 = a2) (h3 : lw_av as 3 = a3) (hb : ∀ s, (sx_sr s).1 ≤ σ s ∧ σ s ≤ (sx_sr s).2) (hW : lw_W ([], [((-2), [(19001, 1)]), (2, [(19001, (-1))]), (0, [(19002, 1)]), (3, [(19002, (-1))]), (0, [(19003, 1)]), (60, [(19003, (-1))])], [(9, (0, [])), (5889, (0, [(19002, 1)])), (5890, (0, [(19003, 1)]))], some (false, (1, []))) as σ σ' τ o) : lw_tx_C a1 a2 a3 x.toInt σ σ' := by
  unfold lw_tx_C
  obtain ⟨hs, ht, hf, hr, hm, hw⟩ := hW
  have e1 : τ 19001 = a1 := by rw [ht 19001 (by decide) (by decide)]; exact h1
  have e2 : τ 19002 = a2 := by rw [ht 19002 (by decide) (by decide)]; exact h2
  have e3 : τ 19003 = a3 := by rw [ht 19003 (by decide) (by decide)]; exact h3
  have s5377 : τ 5377 = σ 5377 := hs 5377 (by decide)
  have s5378 : τ 5378 = σ 5378 := hs 5378 (by decide)
  have s5633 : τ 5633 = σ 5633 := hs 5633 (by decide)
  have s5634 : τ 5634 = σ 5634 := hs 5634 (by decide)
  have s5889 : τ 5889 = σ 5889 := hs 5889 (by decide)
  have s5890 : τ 5890 = σ 5890 := hs 5890 (by decide)
  have s6145 : τ 6145 = σ 6145 := hs 6145 (by decide)
  have s6146 : τ 6146 = σ 6146 := hs 6146 (by decide)
  have s18501 : τ 18501 = σ 18501 := hs 18501 (by decide)
  have s18502 : τ 18502 = σ 18502 := hs 18502 (by decide)
  have s18503 : τ 18503 = σ 18503 := hs 18503 (by decide)
  have s18504 : τ 18504 = σ 18504 := hs 18504 (by decide)
  have s18505 : τ 18505 = σ 18505 := hs 18505 (by decide)
  have s18506 : τ 18506 = σ 18506 := hs 18506 (by decide)
  have s18507 : τ 18507 = σ 18507 := hs 18507 (by decide)
  have s18508 : τ 18508 = σ 18508 := hs 18508 (by decide)
  clear hs ht hb
  rw [hx] at hr
  obtain ⟨y, hy, hv⟩ := hr
  cases hy
  replace hv : x.toInt = 1 + 0 := hv
  have f0 : 0 ≤ (-2) + (1 * τ 19001 + 0) := hf _ (List.Mem.head _)
  have f1 : 0 ≤ 2 + ((-1) * τ 19001 + 0) := hf _ (List.Mem.tail _ (List.Mem.head _))
  have f2 : 0 ≤ 0 + (1 * τ 19002 + 0) := hf _ (List.Mem.tail _ (List.Mem.tail _ (List.Mem.head _)))
  have f3 : 0 ≤ 3 + ((-1) * τ 19002 + 0) := hf _ (List.Mem.tail _ (List.Mem.tail _ (List.Mem.tail _ (List.Mem.head _))))
  have f4 : 0 ≤ 0 + (1 * τ 19003 + 0) := hf _ (List.Mem.tail _ (List.Mem.tail _ (List.Mem.tail _ (List.Mem.tail _ (List.Mem.head _)))))
  have f5 : 0 ≤ 60 + ((-1) * τ 19003 + 0) := hf _ (List.Mem.tail _ (List.Mem.tail _ (List.Mem.tail _ (List.Mem.tail _ (List.Mem.tail _ (List.Mem.head _))))))
  have m5377 : σ' 5377 = 0 + (1 * τ 5377 + 0) := hm 5377 (by decide)
  have m5378 : σ' 5378 = 0 + (1 * τ 5378 + 0) := hm 5378 (by decide)
  have m18501 : σ' 18501 = 0 + (1 * τ 18501 + 0) := hm 18501 (by decide)
  have m18505 : σ' 18505 = 0 + (1 * τ 18505 + 0) := hm 18505 (by decide)
  have m5633 : σ' 5633 = 0 + (1 * τ 5633 + 0) := hm 5633 (by decide)
  have m5634 : σ' 5634 = 0 + (1 * τ 5634 + 0) := hm 5634 (by decide)
  have m18502 : σ' 18502 = 0 + (1 * τ 18502 + 0) := hm 18502 (by decide)
  have m18506 : σ' 18506 = 0 + (1 * τ 18506 + 0) := hm 18506 (by decide)
  have m5889 : σ' 5889 = 0 + (1 * τ 19002 + 0) := hm 5889 (by decide)
  have m5890 : σ' 5890 = 0 + (1 * τ 19003 + 0) := hm 5890 (by decide)
  have m18503 : σ' 18503 = 0 + (1 * τ 18503 + 0) := hm 18503 (by decide)
  have m18507 : σ' 18507 = 0 + (1 * τ 18507 + 0) := hm 18507 (by decide)
  have m6145 : σ' 6145 = 0 + (1 * τ 6145 + 0) := hm 6145 (by decide)
  have m6146 : σ' 6146 = 0 + (1 * τ 6146 + 0) := hm 6146 (by decide)
  have m18504 : σ' 18504 = 0 + (1 * τ 18504 + 0) := hm 18504 (by decide)
  have m18508 : σ' 18508 = 0 + (1 * τ 18508 + 0) := hm 18508 (by decide)
  clear hf hm
  exact ⟨Or.inl ⟨by omega, ⟨by omega, by omega, by omega, by omega, by omega, by omega⟩, Or.inr ⟨by omega, by omega, by omega⟩, Or.inr ⟨by omega, by omega, by omega⟩, Or.inl ⟨by omega, by omega, by omega⟩, Or.inr ⟨by omega, by omega, by omega⟩⟩, by omega, by omega, by omega, by omega, by omega, by omega, by omega, by omega⟩
theorem lw_tx_9 {as : List rv_A} {σ σ' : Nat → Int} {o : rv_O} {x : Int32} {a1 a2 a3 : Int} {τ : Nat → Int} (hx : o.1 = some (.inl x)) (h1 : lw_av as 1 = a1) (h2 : lw_av as 2 = a2) (h3 : lw_av as 3 = a3) (hb : ∀ s, (sx_sr s).1 ≤ σ s ∧ σ s ≤ (sx_sr s).2) (hW : lw_W ([], [((-3), [(19001, 1)]), (3, [(19001, (-1))]), (0, [(19002, 1)]), (3, [(19002, (-1))]), (0, [(19003, 1)]), (60, [(19003, (-1))])], [(9, (0, [])), (6145, (0, [(19002, 1)])), (6146, (0, [(19003, 1)]))], some (false, (1, []))) as σ σ' τ o) : lw_tx_C a1 a2 a3 x.toInt σ σ' := by
  unfold lw_tx_C
  obtain ⟨hs, ht, hf, hr, hm, hw⟩ := hW
  have e1 : τ 19001 = a1 := by rw [ht 19001 (by decide) (by decide)]; exact h1
  have e2 : τ 19002 = a2 := by rw [ht 19002 (by decide) (by decide)]; exact h2
  have e3 : τ 19003 = a3 := by rw [ht 19003 (by decide) (by decide)]; exact h3
  have s5377 : τ 5377 = σ 5377 := hs 5377 (by decide)
  have s5378 : τ 5378 = σ 5378 := hs 5378 (by decide)
  have s5633 : τ 5633 = σ 5633 := hs 5633 (by decide)
  have s5634 : τ 5634 = σ 5634 := hs 5634 (by decide)
  have s5889 : τ 5889 = σ 5889 := hs 5889 (by decide)
  have s5890 : τ 5890 = σ 5890 := hs 5890 (by decide)
  have s6145 : τ 6145 = σ 6145 := hs 6145 (by decide)
  have s6146 : τ 6146 = σ 6146 := hs 6146 (by decide)
  have s18501 : τ 18501 = σ 18501 := hs 18501 (by decide)
  have s18502 : τ 18502 = σ 18502 := hs 18502 (by decide)
  have s18503 : τ 18503 = σ 18503 := hs 18503 (by decide)
  have s18504 : τ 18504 = σ 18504 := hs 18504 (by decide)
  have s18505 : τ 18505 = σ 18505 := hs 18505 (by decide)
  have s18506 : τ 18506 = σ 18506 := hs 18506 (by decide)
  have s18507 : τ 18507 = σ 18507 := hs 18507 (by decide)
  have s18508 : τ 18508 = σ 18508 := hs 18508 (by decide)
  clear hs ht hb
  rw [hx] at hr
  obtain ⟨y, hy, hv⟩ := hr
  cases hy
  replace hv : x.toInt = 1 + 0 := hv
  have f0 : 0 ≤ (-3) + (1 * τ 19001 + 0) := hf _ (List.Mem.head _)
  have f1 : 0 ≤ 3 + ((-1) * τ 19001 + 0) := hf _ (List.Mem.tail _ (List.Mem.head _))
  have f2 : 0 ≤ 0 + (1 * τ 19002 + 0) := hf _ (List.Mem.tail _ (List.Mem.tail _ (List.Mem.head _)))
  have f3 : 0 ≤ 3 + ((-1) * τ 19002 + 0) := hf _ (List.Mem.tail _ (List.Mem.tail _ (List.Mem.tail _ (List.Mem.head _))))
  have f4 : 0 ≤ 0 + (1 * τ 19003 + 0) := hf _ (List.Mem.tail _ (List.Mem.tail _ (List.Mem.tail _ (List.Mem.tail _ (List.Mem.head _)))))
  have f5 : 0 ≤ 60 + ((-1) * τ 19003 + 0) := hf _ (List.Mem.tail _ (List.Mem.tail _ (List.Mem.tail _ (List.Mem.tail _ (List.Mem.tail _ (List.Mem.head _))))))
  have m5377 : σ' 5377 = 0 + (1 * τ 5377 + 0) := hm 5377 (by decide)
  have m5378 : σ' 5378 = 0 + (1 * τ 5378 + 0) := hm 5378 (by decide)
  have m18501 : σ' 18501 = 0 + (1 * τ 18501 + 0) := hm 18501 (by decide)
  have m18505 : σ' 18505 = 0 + (1 * τ 18505 + 0) := hm 18505 (by decide)
  have m5633 : σ' 5633 = 0 + (1 * τ 5633 + 0) := hm 5633 (by decide)
  have m5634 : σ' 5634 = 0 + (1 * τ 5634 + 0) := hm 5634 (by decide)
  have m18502 : σ' 18502 = 0 + (1 * τ 18502 + 0) := hm 18502 (by decide)
  have m18506 : σ' 18506 = 0 + (1 * τ 18506 + 0) := hm 18506 (by decide)
  have m5889 : σ' 5889 = 0 + (1 * τ 5889 + 0) := hm 5889 (by decide)
  have m5890 : σ' 5890 = 0 + (1 * τ 5890 + 0) := hm 5890 (by decide)
  have m18503 : σ' 18503 = 0 + (1 * τ 18503 + 0) := hm 18503 (by decide)
  have m18507 : σ' 18507 = 0 + (1 * τ 18507 + 0) := hm 18507 (by decide)
  have m6145 : σ' 6145 = 0 + (1 * τ 19002 + 0) := hm 6145 (by decide)
  have m6146 : σ' 6146 = 0 + (1 * τ 19003 + 0) := hm 6146 (by decide)
  have m18504 : σ' 18504 = 0 + (1 * τ 18504 + 0) := hm 18504 (by decide)
  have m18508 : σ' 18508 = 0 + (1 * τ 18508 + 0) := hm 18508 (by decide)
  clear hf hm
  exact ⟨Or.inl ⟨by omega, ⟨by omega, by omega, by omega, by omega, by omega, by omega⟩, Or.inr ⟨by omega, by omega, by omega⟩, Or.inr ⟨by omega, by omega, by omega⟩, Or.inr ⟨by omega, by omega, by omega⟩, Or.inl ⟨by omega, by omega, by omega⟩⟩, by omega, by omega, by omega, by omega, by omega, by omega, by omega, by omega⟩
set_option maxHeartbeats 4000000 in
theorem lw_tx {as : List rv_A} {σ σ' : Nat → Int} {o : rv_O} {x : Int32} {a1 a2 a3 : Int} (hx : o.1 = some (.inl x)) (h1 : lw_av as 1 = a1) (h2 : lw_av as 2 = a2) (h3 : lw_av as 3 = a3) (hb : ∀ s, (sx_sr s).1 ≤ σ s ∧ σ s ≤ (sx_sr s).2) (h : lw_Qc sx_c241 as σ σ' o) : lw_tx_C a1 a2 a3 x.toInt σ σ' := by
  obtain ⟨g, hg, τ, hW⟩ := h
  simp only [sx_c241, List.mem_cons, List.not_mem_nil, or_false] at hg
  rcases hg with rfl | rfl | rfl | rfl | rfl | rfl | rfl | rfl | rfl | rfl
  · exact lw_tx_0 hx h1 h2 h3 hb hW
  · exact lw_tx_1 hx h1 h2 h3 hb hW
  · exact lw_tx_2 hx h1 h2 h3 hb hW
  · exact lw_tx_3 hx h1 h2 h3 hb hW
  · exact lw_tx_4 hx h1 h2 h3 hb hW
  · exact lw_tx_5 hx h1 h2 h3 hb hW
  · exact lw_tx_6 hx h1 h2 h3 hb hW
  · exact lw_tx_7 hx h1 h2 h3 hb hW
  · exact lw_tx_8 hx h1 h2 h3 hb hW
  · exact lw_tx_9 hx h1 h2 h3 hb hW
def lw_tm_C (a1 a2 a3 z : Int) (σ σ' : Nat → Int) : Prop := ((z = 1 ∧ lw_T a1 a2 a3 ∧ lw_U 0 a1 a2 a3 (σ 18501) (σ 18505) (σ' 18501) (σ' 18505) ∧ lw_U 1 a1 a2 a3 (σ 18502) (σ 18506) (σ' 18502) (σ' 18506) ∧ lw_U 2 a1 a2 a3 (σ 18503) (σ 18507) (σ' 18503) (σ' 18507) ∧ lw_U 3 a1 a2 a3 (σ 18504) (σ 18508) (σ' 18504) (σ' 18508)) ∨ (z = 0 ∧ ¬ lw_T a1 a2 a3 ∧ σ' 18501 = σ 18501 ∧ σ' 18505 = σ 18505 ∧ σ' 18502 = σ 18502 ∧ σ' 18506 = σ 18506 ∧ σ' 18503 = σ 18503 ∧ σ' 18507 = σ 18507 ∧ σ' 18504 = σ 18504 ∧ σ' 18508 = σ 18508)) ∧ σ' 5377 = σ 5377 ∧ σ' 5378 = σ 5378 ∧ σ' 5633 = σ 5633 ∧ σ' 5634 = σ 5634 ∧ σ' 5889 = σ 5889 ∧ σ' 5890 = σ 5890 ∧ σ' 6145 = σ 6145 ∧ σ' 6146 = σ 6146
theorem lw_tm_0 {as : List rv_A} {σ σ' : Nat → Int} {o : rv_O} {x : Int32} {a1 a2 a3 : Int} {τ : Nat → Int} (hx : o.1 = some (.inl x)) (h1 : lw_av as 1 = a1) (h2 : lw_av as 2 = a2) (h3 : lw_av as 3 = a3) (hb : ∀ s, (sx_sr s).1 ≤ σ s ∧ σ s ≤ (sx_sr s).2) (hW : lw_W ([], [((-1), [(19001, (-1))])], [(12800, (1, []))], some (false, (0, []))) as σ σ' τ o) : lw_tm_C a1 a2 a3 x.toInt σ σ' := by
  unfold lw_tm_C
  obtain ⟨hs, ht, hf, hr, hm, hw⟩ := hW
  have e1 : τ 19001 = a1 := by rw [ht 19001 (by decide) (by decide)]; exact h1
  have e2 : τ 19002 = a2 := by rw [ht 19002 (by decide) (by decide)]; exact h2
  have e3 : τ 19003 = a3 := by rw [ht 19003 (by decide) (by decide)]; exact h3
  have s5377 : τ 5377 = σ 5377 := hs 5377 (by decide)
  have s5378 : τ 5378 = σ 5378 := hs 5378 (by decide)
  have s5633 : τ 5633 = σ 5633 := hs 5633 (by decide)
  have s5634 : τ 5634 = σ 5634 := hs 5634 (by decide)
  have s5889 : τ 5889 = σ 5889 := hs 5889 (by decide)
  have s5890 : τ 5890 = σ 5890 := hs 5890 (by decide)
  have s6145 : τ 6145 = σ 6145 := hs 6145 (by decide)
  have s6146 : τ 6146 = σ 6146 := hs 6146 (by decide)
  have s18501 : τ 18501 = σ 18501 := hs 18501 (by decide)
  have s18502 : τ 18502 = σ 18502 := hs 18502 (by decide)
  have s18503 : τ 18503 = σ 18503 := hs 18503 (by decide)
  have s18504 : τ 18504 = σ 18504 := hs 18504 (by decide)
  have s18505 : τ 18505 = σ 18505 := hs 18505 (by decide)
  have s18506 : τ 18506 = σ 18506 := hs 18506 (by decide)
  have s18507 : τ 18507 = σ 18507 := hs 18507 (by decide)
  have s18508 : τ 18508 = σ 18508 := hs 18508 (by decide)
  clear hs ht hb
  rw [hx] at hr
  obtain ⟨y, hy, hv⟩ := hr
  cases hy
  replace hv : x.toInt = 0 + 0 := hv
  have f0 : 0 ≤ (-1) + ((-1) * τ 19001 + 0) := hf _ (List.Mem.head _)
  have m5377 : σ' 5377 = 0 + (1 * τ 5377 + 0) := hm 5377 (by decide)
  have m5378 : σ' 5378 = 0 + (1 * τ 5378 + 0) := hm 5378 (by decide)
  have m18501 : σ' 18501 = 0 + (1 * τ 18501 + 0) := hm 18501 (by decide)
  have m18505 : σ' 18505 = 0 + (1 * τ 18505 + 0) := hm 18505 (by decide)
  have m5633 : σ' 5633 = 0 + (1 * τ 5633 + 0) := hm 5633 (by decide)
  have m5634 : σ' 5634 = 0 + (1 * τ 5634 + 0) := hm 5634 (by decide)
  have m18502 : σ' 18502 = 0 + (1 * τ 18502 + 0) := hm 18502 (by decide)
  have m18506 : σ' 18506 = 0 + (1 * τ 18506 + 0) := hm 18506 (by decide)
  have m5889 : σ' 5889 = 0 + (1 * τ 5889 + 0) := hm 5889 (by decide)
  have m5890 : σ' 5890 = 0 + (1 * τ 5890 + 0) := hm 5890 (by decide)
  have m18503 : σ' 18503 = 0 + (1 * τ 18503 + 0) := hm 18503 (by decide)
  have m18507 : σ' 18507 = 0 + (1 * τ 18507 + 0) := hm 18507 (by decide)
  have m6145 : σ' 6145 = 0 + (1 * τ 6145 + 0) := hm 6145 (by decide)
  have m6146 : σ' 6146 = 0 + (1 * τ 6146 + 0) := hm 6146 (by decide)
  have m18504 : σ' 18504 = 0 + (1 * τ 18504 + 0) := hm 18504 (by decide)
  have m18508 : σ' 18508 = 0 + (1 * τ 18508 + 0) := hm 18508 (by decide)
  clear hf hm
  refine ⟨Or.inr ⟨by omega, fun h => ?_, by omega, by omega, by omega, by omega, by omega, by omega, by omega, by omega⟩, by omega, by omega, by omega, by omega, by omega, by omega, by omega, by omega⟩
  obtain ⟨z1, z2, z3, z4, z5, z6⟩ := h
  omega
theorem lw_tm_1 {as : List rv_A} {σ σ' : Nat → Int} {o : rv_O} {x : Int32} {a1 a2 a3 : Int} {τ : Nat → Int} (hx : o.1 = some (.inl x)) (h1 : lw_av as 1 = a1) (h2 : lw_av as 2 = a2) (h3 : lw_av as 3 = a3) (hb : ∀ s, (sx_sr s).1 ≤ σ s ∧ σ s ≤ (sx_sr s).2) (hW : lw_W ([], [(0, [(19001, 1)]), (3, [(19001, (-1))]), ((-1), [(19002, (-1))])], [(12800, (1, []))], some (false, (0, []))) as σ σ' τ o) : lw_tm_C a1 a2 a3 x.toInt σ σ' := by
  unfold lw_tm_C
  obtain ⟨hs, ht, hf, hr, hm, hw⟩ := hW
  have e1 : τ 19001 = a1 := by rw [ht 19001 (by decide) (by decide)]; exact h1
  have e2 : τ 19002 = a2 := by rw [ht 19002 (by decide) (by decide)]; exact h2
  have e3 : τ 19003 = a3 := by rw [ht 19003 (by decide) (by decide)]; exact h3
  have s5377 : τ 5377 = σ 5377 := hs 5377 (by decide)
  have s5378 : τ 5378 = σ 5378 := hs 5378 (by decide)
  have s5633 : τ 5633 = σ 5633 := hs 5633 (by decide)
  have s5634 : τ 5634 = σ 5634 := hs 5634 (by decide)
  have s5889 : τ 5889 = σ 5889 := hs 5889 (by decide)
  have s5890 : τ 5890 = σ 5890 := hs 5890 (by decide)
  have s6145 : τ 6145 = σ 6145 := hs 6145 (by decide)
  have s6146 : τ 6146 = σ 6146 := hs 6146 (by decide)
  have s18501 : τ 18501 = σ 18501 := hs 18501 (by decide)
  have s18502 : τ 18502 = σ 18502 := hs 18502 (by decide)
  have s18503 : τ 18503 = σ 18503 := hs 18503 (by decide)
  have s18504 : τ 18504 = σ 18504 := hs 18504 (by decide)
  have s18505 : τ 18505 = σ 18505 := hs 18505 (by decide)
  have s18506 : τ 18506 = σ 18506 := hs 18506 (by decide)
  have s18507 : τ 18507 = σ 18507 := hs 18507 (by decide)
  have s18508 : τ 18508 = σ 18508 := hs 18508 (by decide)
  clear hs ht hb
  rw [hx] at hr
  obtain ⟨y, hy, hv⟩ := hr
  cases hy
  replace hv : x.toInt = 0 + 0 := hv
  have f0 : 0 ≤ 0 + (1 * τ 19001 + 0) := hf _ (List.Mem.head _)
  have f1 : 0 ≤ 3 + ((-1) * τ 19001 + 0) := hf _ (List.Mem.tail _ (List.Mem.head _))
  have f2 : 0 ≤ (-1) + ((-1) * τ 19002 + 0) := hf _ (List.Mem.tail _ (List.Mem.tail _ (List.Mem.head _)))
  have m5377 : σ' 5377 = 0 + (1 * τ 5377 + 0) := hm 5377 (by decide)
  have m5378 : σ' 5378 = 0 + (1 * τ 5378 + 0) := hm 5378 (by decide)
  have m18501 : σ' 18501 = 0 + (1 * τ 18501 + 0) := hm 18501 (by decide)
  have m18505 : σ' 18505 = 0 + (1 * τ 18505 + 0) := hm 18505 (by decide)
  have m5633 : σ' 5633 = 0 + (1 * τ 5633 + 0) := hm 5633 (by decide)
  have m5634 : σ' 5634 = 0 + (1 * τ 5634 + 0) := hm 5634 (by decide)
  have m18502 : σ' 18502 = 0 + (1 * τ 18502 + 0) := hm 18502 (by decide)
  have m18506 : σ' 18506 = 0 + (1 * τ 18506 + 0) := hm 18506 (by decide)
  have m5889 : σ' 5889 = 0 + (1 * τ 5889 + 0) := hm 5889 (by decide)
  have m5890 : σ' 5890 = 0 + (1 * τ 5890 + 0) := hm 5890 (by decide)
  have m18503 : σ' 18503 = 0 + (1 * τ 18503 + 0) := hm 18503 (by decide)
  have m18507 : σ' 18507 = 0 + (1 * τ 18507 + 0) := hm 18507 (by decide)
  have m6145 : σ' 6145 = 0 + (1 * τ 6145 + 0) := hm 6145 (by decide)
  have m6146 : σ' 6146 = 0 + (1 * τ 6146 + 0) := hm 6146 (by decide)
  have m18504 : σ' 18504 = 0 + (1 * τ 18504 + 0) := hm 18504 (by decide)
  have m18508 : σ' 18508 = 0 + (1 * τ 18508 + 0) := hm 18508 (by decide)
  clear hf hm
  refine ⟨Or.inr ⟨by omega, fun h => ?_, by omega, by omega, by omega, by omega, by omega, by omega, by omega, by omega⟩, by omega, by omega, by omega, by omega, by omega, by omega, by omega, by omega⟩
  obtain ⟨z1, z2, z3, z4, z5, z6⟩ := h
  omega
theorem lw_tm_2 {as : List rv_A} {σ σ' : Nat → Int} {o : rv_O} {x : Int32} {a1 a2 a3 : Int} {τ : Nat → Int} (hx : o.1 = some (.inl x)) (h1 : lw_av as 1 = a1) (h2 : lw_av as 2 = a2) (h3 : lw_av as 3 = a3) (hb : ∀ s, (sx_sr s).1 ≤ σ s ∧ σ s ≤ (sx_sr s).2) (hW : lw_W ([], [(0, [(19001, 1)]), (3, [(19001, (-1))]), (0, [(19002, 1)]), (3, [(19002, (-1))]), ((-1), [(19003, (-1))])], [(12800, (1, []))], some (false, (0, []))) as σ σ' τ o) : lw_tm_C a1 a2 a3 x.toInt σ σ' := by
  unfold lw_tm_C
  obtain ⟨hs, ht, hf, hr, hm, hw⟩ := hW
  have e1 : τ 19001 = a1 := by rw [ht 19001 (by decide) (by decide)]; exact h1
  have e2 : τ 19002 = a2 := by rw [ht 19002 (by decide) (by decide)]; exact h2
  have e3 : τ 19003 = a3 := by rw [ht 19003 (by decide) (by decide)]; exact h3
  have s5377 : τ 5377 = σ 5377 := hs 5377 (by decide)
  have s5378 : τ 5378 = σ 5378 := hs 5378 (by decide)
  have s5633 : τ 5633 = σ 5633 := hs 5633 (by decide)
  have s5634 : τ 5634 = σ 5634 := hs 5634 (by decide)
  have s5889 : τ 5889 = σ 5889 := hs 5889 (by decide)
  have s5890 : τ 5890 = σ 5890 := hs 5890 (by decide)
  have s6145 : τ 6145 = σ 6145 := hs 6145 (by decide)
  have s6146 : τ 6146 = σ 6146 := hs 6146 (by decide)
  have s18501 : τ 18501 = σ 18501 := hs 18501 (by decide)
  have s18502 : τ 18502 = σ 18502 := hs 18502 (by decide)
  have s18503 : τ 18503 = σ 18503 := hs 18503 (by decide)
  have s18504 : τ 18504 = σ 18504 := hs 18504 (by decide)
  have s18505 : τ 18505 = σ 18505 := hs 18505 (by decide)
  have s18506 : τ 18506 = σ 18506 := hs 18506 (by decide)
  have s18507 : τ 18507 = σ 18507 := hs 18507 (by decide)
  have s18508 : τ 18508 = σ 18508 := hs 18508 (by decide)
  clear hs ht hb
  rw [hx] at hr
  obtain ⟨y, hy, hv⟩ := hr
  cases hy
  replace hv : x.toInt = 0 + 0 := hv
  have f0 : 0 ≤ 0 + (1 * τ 19001 + 0) := hf _ (List.Mem.head _)
  have f1 : 0 ≤ 3 + ((-1) * τ 19001 + 0) := hf _ (List.Mem.tail _ (List.Mem.head _))
  have f2 : 0 ≤ 0 + (1 * τ 19002 + 0) := hf _ (List.Mem.tail _ (List.Mem.tail _ (List.Mem.head _)))
  have f3 : 0 ≤ 3 + ((-1) * τ 19002 + 0) := hf _ (List.Mem.tail _ (List.Mem.tail _ (List.Mem.tail _ (List.Mem.head _))))
  have f4 : 0 ≤ (-1) + ((-1) * τ 19003 + 0) := hf _ (List.Mem.tail _ (List.Mem.tail _ (List.Mem.tail _ (List.Mem.tail _ (List.Mem.head _)))))
  have m5377 : σ' 5377 = 0 + (1 * τ 5377 + 0) := hm 5377 (by decide)
  have m5378 : σ' 5378 = 0 + (1 * τ 5378 + 0) := hm 5378 (by decide)
  have m18501 : σ' 18501 = 0 + (1 * τ 18501 + 0) := hm 18501 (by decide)
  have m18505 : σ' 18505 = 0 + (1 * τ 18505 + 0) := hm 18505 (by decide)
  have m5633 : σ' 5633 = 0 + (1 * τ 5633 + 0) := hm 5633 (by decide)
  have m5634 : σ' 5634 = 0 + (1 * τ 5634 + 0) := hm 5634 (by decide)
  have m18502 : σ' 18502 = 0 + (1 * τ 18502 + 0) := hm 18502 (by decide)
  have m18506 : σ' 18506 = 0 + (1 * τ 18506 + 0) := hm 18506 (by decide)
  have m5889 : σ' 5889 = 0 + (1 * τ 5889 + 0) := hm 5889 (by decide)
  have m5890 : σ' 5890 = 0 + (1 * τ 5890 + 0) := hm 5890 (by decide)
  have m18503 : σ' 18503 = 0 + (1 * τ 18503 + 0) := hm 18503 (by decide)
  have m18507 : σ' 18507 = 0 + (1 * τ 18507 + 0) := hm 18507 (by decide)
  have m6145 : σ' 6145 = 0 + (1 * τ 6145 + 0) := hm 6145 (by decide)
  have m6146 : σ' 6146 = 0 + (1 * τ 6146 + 0) := hm 6146 (by decide)
  have m18504 : σ' 18504 = 0 + (1 * τ 18504 + 0) := hm 18504 (by decide)
  have m18508 : σ' 18508 = 0 + (1 * τ 18508 + 0) := hm 18508 (by decide)
  clear hf hm
  refine ⟨Or.inr ⟨by omega, fun h => ?_, by omega, by omega, by omega, by omega, by omega, by omega, by omega, by omega⟩, by omega, by omega, by omega, by omega, by omega, by omega, by omega, by omega⟩
  obtain ⟨z1, z2, z3, z4, z5, z6⟩ := h
  omega
theorem lw_tm_3 {as : List rv_A} {σ σ' : Nat → Int} {o : rv_O} {x : Int32} {a1 a2 a3 : Int} {τ : Nat → Int} (hx : o.1 = some (.inl x)) (h1 : lw_av as 1 = a1) (h2 : lw_av as 2 = a2) (h3 : lw_av as 3 = a3) (hb : ∀ s, (sx_sr s).1 ≤ σ s ∧ σ s ≤ (sx_sr s).2) (hW : lw_W ([], [(0, [(19001, 1)]), (3, [(19001, (-1))]), (0, [(19002, 1)]), (3, [(19002, (-1))]), ((-61), [(19003, 1)])], [(12800, (1, []))], some (false, (0, []))) as σ σ' τ o) : lw_tm_C a1 a2 a3 x.toInt σ σ' := by
  unfold lw_tm_C
  obtain ⟨hs, ht, hf, hr, hm, hw⟩ := hW
  have e1 : τ 19001 = a1 := by rw [ht 19001 (by decide) (by decide)]; exact h1
  have e2 : τ 19002 = a2 := by rw [ht 19002 (by decide) (by decide)]; exact h2
  have e3 : τ 19003 = a3 := by rw [ht 19003 (by decide) (by decide)]; exact h3
  have s5377 : τ 5377 = σ 5377 := hs 5377 (by decide)
  have s5378 : τ 5378 = σ 5378 := hs 5378 (by decide)
  have s5633 : τ 5633 = σ 5633 := hs 5633 (by decide)
  have s5634 : τ 5634 = σ 5634 := hs 5634 (by decide)
  have s5889 : τ 5889 = σ 5889 := hs 5889 (by decide)
  have s5890 : τ 5890 = σ 5890 := hs 5890 (by decide)
  have s6145 : τ 6145 = σ 6145 := hs 6145 (by decide)
  have s6146 : τ 6146 = σ 6146 := hs 6146 (by decide)
  have s18501 : τ 18501 = σ 18501 := hs 18501 (by decide)
  have s18502 : τ 18502 = σ 18502 := hs 18502 (by decide)
  have s18503 : τ 18503 = σ 18503 := hs 18503 (by decide)
  have s18504 : τ 18504 = σ 18504 := hs 18504 (by decide)
  have s18505 : τ 18505 = σ 18505 := hs 18505 (by decide)
  have s18506 : τ 18506 = σ 18506 := hs 18506 (by decide)
  have s18507 : τ 18507 = σ 18507 := hs 18507 (by decide)
  have s18508 : τ 18508 = σ 18508 := hs 18508 (by decide)
  clear hs ht hb
  rw [hx] at hr
  obtain ⟨y, hy, hv⟩ := hr
  cases hy
  replace hv : x.toInt = 0 + 0 := hv
  have f0 : 0 ≤ 0 + (1 * τ 19001 + 0) := hf _ (List.Mem.head _)
  have f1 : 0 ≤ 3 + ((-1) * τ 19001 + 0) := hf _ (List.Mem.tail _ (List.Mem.head _))
  have f2 : 0 ≤ 0 + (1 * τ 19002 + 0) := hf _ (List.Mem.tail _ (List.Mem.tail _ (List.Mem.head _)))
  have f3 : 0 ≤ 3 + ((-1) * τ 19002 + 0) := hf _ (List.Mem.tail _ (List.Mem.tail _ (List.Mem.tail _ (List.Mem.head _))))
  have f4 : 0 ≤ (-61) + (1 * τ 19003 + 0) := hf _ (List.Mem.tail _ (List.Mem.tail _ (List.Mem.tail _ (List.Mem.tail _ (List.Mem.head _)))))
  have m5377 : σ' 5377 = 0 + (1 * τ 5377 + 0) := hm 5377 (by decide)
  have m5378 : σ' 5378 = 0 + (1 * τ 5378 + 0) := hm 5378 (by decide)
  have m18501 : σ' 18501 = 0 + (1 * τ 18501 + 0) := hm 18501 (by decide)
  have m18505 : σ' 18505 = 0 + (1 * τ 18505 + 0) := hm 18505 (by decide)
  have m5633 : σ' 5633 = 0 + (1 * τ 5633 + 0) := hm 5633 (by decide)
  have m5634 : σ' 5634 = 0 + (1 * τ 5634 + 0) := hm 5634 (by decide)
  have m18502 : σ' 18502 = 0 + (1 * τ 18502 + 0) := hm 18502 (by decide)
  have m18506 : σ' 18506 = 0 + (1 * τ 18506 + 0) := hm 18506 (by decide)
  have m5889 : σ' 5889 = 0 + (1 * τ 5889 + 0) := hm 5889 (by decide)
  have m5890 : σ' 5890 = 0 + (1 * τ 5890 + 0) := hm 5890 (by decide)
  have m18503 : σ' 18503 = 0 + (1 * τ 18503 + 0) := hm 18503 (by decide)
  have m18507 : σ' 18507 = 0 + (1 * τ 18507 + 0) := hm 18507 (by decide)
  have m6145 : σ' 6145 = 0 + (1 * τ 6145 + 0) := hm 6145 (by decide)
  have m6146 : σ' 6146 = 0 + (1 * τ 6146 + 0) := hm 6146 (by decide)
  have m18504 : σ' 18504 = 0 + (1 * τ 18504 + 0) := hm 18504 (by decide)
  have m18508 : σ' 18508 = 0 + (1 * τ 18508 + 0) := hm 18508 (by decide)
  clear hf hm
  refine ⟨Or.inr ⟨by omega, fun h => ?_, by omega, by omega, by omega, by omega, by omega, by omega, by omega, by omega⟩, by omega, by omega, by omega, by omega, by omega, by omega, by omega, by omega⟩
  obtain ⟨z1, z2, z3, z4, z5, z6⟩ := h
  omega
theorem lw_tm_4 {as : List rv_A} {σ σ' : Nat → Int} {o : rv_O} {x : Int32} {a1 a2 a3 : Int} {τ : Nat → Int} (hx : o.1 = some (.inl x)) (h1 : lw_av as 1 = a1) (h2 : lw_av as 2 = a2) (h3 : lw_av as 3 = a3) (hb : ∀ s, (sx_sr s).1 ≤ σ s ∧ σ s ≤ (sx_sr s).2) (hW : lw_W ([], [(0, [(19001, 1)]), (3, [(19001, (-1))]), ((-4), [(19002, 1)])], [(12800, (1, []))], some (false, (0, []))) as σ σ' τ o) : lw_tm_C a1 a2 a3 x.toInt σ σ' := by
  unfold lw_tm_C
  obtain ⟨hs, ht, hf, hr, hm, hw⟩ := hW
  have e1 : τ 19001 = a1 := by rw [ht 19001 (by decide) (by decide)]; exact h1
  have e2 : τ 19002 = a2 := by rw [ht 19002 (by decide) (by decide)]; exact h2
  have e3 : τ 19003 = a3 := by rw [ht 19003 (by decide) (by decide)]; exact h3
  have s5377 : τ 5377 = σ 5377 := hs 5377 (by decide)
  have s5378 : τ 5378 = σ 5378 := hs 5378 (by decide)
  have s5633 : τ 5633 = σ 5633 := hs 5633 (by decide)
  have s5634 : τ 5634 = σ 5634 := hs 5634 (by decide)
  have s5889 : τ 5889 = σ 5889 := hs 5889 (by decide)
  have s5890 : τ 5890 = σ 5890 := hs 5890 (by decide)
  have s6145 : τ 6145 = σ 6145 := hs 6145 (by decide)
  have s6146 : τ 6146 = σ 6146 := hs 6146 (by decide)
  have s18501 : τ 18501 = σ 18501 := hs 18501 (by decide)
  have s18502 : τ 18502 = σ 18502 := hs 18502 (by decide)
  have s18503 : τ 18503 = σ 18503 := hs 18503 (by decide)
  have s18504 : τ 18504 = σ 18504 := hs 18504 (by decide)
  have s18505 : τ 18505 = σ 18505 := hs 18505 (by decide)
  have s18506 : τ 18506 = σ 18506 := hs 18506 (by decide)
  have s18507 : τ 18507 = σ 18507 := hs 18507 (by decide)
  have s18508 : τ 18508 = σ 18508 := hs 18508 (by decide)
  clear hs ht hb
  rw [hx] at hr
  obtain ⟨y, hy, hv⟩ := hr
  cases hy
  replace hv : x.toInt = 0 + 0 := hv
  have f0 : 0 ≤ 0 + (1 * τ 19001 + 0) := hf _ (List.Mem.head _)
  have f1 : 0 ≤ 3 + ((-1) * τ 19001 + 0) := hf _ (List.Mem.tail _ (List.Mem.head _))
  have f2 : 0 ≤ (-4) + (1 * τ 19002 + 0) := hf _ (List.Mem.tail _ (List.Mem.tail _ (List.Mem.head _)))
  have m5377 : σ' 5377 = 0 + (1 * τ 5377 + 0) := hm 5377 (by decide)
  have m5378 : σ' 5378 = 0 + (1 * τ 5378 + 0) := hm 5378 (by decide)
  have m18501 : σ' 18501 = 0 + (1 * τ 18501 + 0) := hm 18501 (by decide)
  have m18505 : σ' 18505 = 0 + (1 * τ 18505 + 0) := hm 18505 (by decide)
  have m5633 : σ' 5633 = 0 + (1 * τ 5633 + 0) := hm 5633 (by decide)
  have m5634 : σ' 5634 = 0 + (1 * τ 5634 + 0) := hm 5634 (by decide)
  have m18502 : σ' 18502 = 0 + (1 * τ 18502 + 0) := hm 18502 (by decide)
  have m18506 : σ' 18506 = 0 + (1 * τ 18506 + 0) := hm 18506 (by decide)
  have m5889 : σ' 5889 = 0 + (1 * τ 5889 + 0) := hm 5889 (by decide)
  have m5890 : σ' 5890 = 0 + (1 * τ 5890 + 0) := hm 5890 (by decide)
  have m18503 : σ' 18503 = 0 + (1 * τ 18503 + 0) := hm 18503 (by decide)
  have m18507 : σ' 18507 = 0 + (1 * τ 18507 + 0) := hm 18507 (by decide)
  have m6145 : σ' 6145 = 0 + (1 * τ 6145 + 0) := hm 6145 (by decide)
  have m6146 : σ' 6146 = 0 + (1 * τ 6146 + 0) := hm 6146 (by decide)
  have m18504 : σ' 18504 = 0 + (1 * τ 18504 + 0) := hm 18504 (by decide)
  have m18508 : σ' 18508 = 0 + (1 * τ 18508 + 0) := hm 18508 (by decide)
  clear hf hm
  refine ⟨Or.inr ⟨by omega, fun h => ?_, by omega, by omega, by omega, by omega, by omega, by omega, by omega, by omega⟩, by omega, by omega, by omega, by omega, by omega, by omega, by omega, by omega⟩
  obtain ⟨z1, z2, z3, z4, z5, z6⟩ := h
  omega
theorem lw_tm_5 {as : List rv_A} {σ σ' : Nat → Int} {o : rv_O} {x : Int32} {a1 a2 a3 : Int} {τ : Nat → Int} (hx : o.1 = some (.inl x)) (h1 : lw_av as 1 = a1) (h2 : lw_av as 2 = a2) (h3 : lw_av as 3 = a3) (hb : ∀ s, (sx_sr s).1 ≤ σ s ∧ σ s ≤ (sx_sr s).2) (hW : lw_W ([], [((-4), [(19001, 1)])], [(12800, (1, []))], some (false, (0, []))) as σ σ' τ o) : lw_tm_C a1 a2 a3 x.toInt σ σ' := by
  unfold lw_tm_C
  obtain ⟨hs, ht, hf, hr, hm, hw⟩ := hW
  have e1 : τ 19001 = a1 := by rw [ht 19001 (by decide) (by decide)]; exact h1
  have e2 : τ 19002 = a2 := by rw [ht 19002 (by decide) (by decide)]; exact h2
  have e3 : τ 19003 = a3 := by rw [ht 19003 (by decide) (by decide)]; exact h3
  have s5377 : τ 5377 = σ 5377 := hs 5377 (by decide)
  have s5378 : τ 5378 = σ 5378 := hs 5378 (by decide)
  have s5633 : τ 5633 = σ 5633 := hs 5633 (by decide)
  have s5634 : τ 5634 = σ 5634 := hs 5634 (by decide)
  have s5889 : τ 5889 = σ 5889 := hs 5889 (by decide)
  have s5890 : τ 5890 = σ 5890 := hs 5890 (by decide)
  have s6145 : τ 6145 = σ 6145 := hs 6145 (by decide)
  have s6146 : τ 6146 = σ 6146 := hs 6146 (by decide)
  have s18501 : τ 18501 = σ 18501 := hs 18501 (by decide)
  have s18502 : τ 18502 = σ 18502 := hs 18502 (by decide)
  have s18503 : τ 18503 = σ 18503 := hs 18503 (by decide)
  have s18504 : τ 18504 = σ 18504 := hs 18504 (by decide)
  have s18505 : τ 18505 = σ 18505 := hs 18505 (by decide)
  have s18506 : τ 18506 = σ 18506 := hs 18506 (by decide)
  have s18507 : τ 18507 = σ 18507 := hs 18507 (by decide)
  have s18508 : τ 18508 = σ 18508 := hs 18508 (by decide)
  clear hs ht hb
  rw [hx] at hr
  obtain ⟨y, hy, hv⟩ := hr
  cases hy
  replace hv : x.toInt = 0 + 0 := hv
  have f0 : 0 ≤ (-4) + (1 * τ 19001 + 0) := hf _ (List.Mem.head _)
  have m5377 : σ' 5377 = 0 + (1 * τ 5377 + 0) := hm 5377 (by decide)
  have m5378 : σ' 5378 = 0 + (1 * τ 5378 + 0) := hm 5378 (by decide)
  have m18501 : σ' 18501 = 0 + (1 * τ 18501 + 0) := hm 18501 (by decide)
  have m18505 : σ' 18505 = 0 + (1 * τ 18505 + 0) := hm 18505 (by decide)
  have m5633 : σ' 5633 = 0 + (1 * τ 5633 + 0) := hm 5633 (by decide)
  have m5634 : σ' 5634 = 0 + (1 * τ 5634 + 0) := hm 5634 (by decide)
  have m18502 : σ' 18502 = 0 + (1 * τ 18502 + 0) := hm 18502 (by decide)
  have m18506 : σ' 18506 = 0 + (1 * τ 18506 + 0) := hm 18506 (by decide)
  have m5889 : σ' 5889 = 0 + (1 * τ 5889 + 0) := hm 5889 (by decide)
  have m5890 : σ' 5890 = 0 + (1 * τ 5890 + 0) := hm 5890 (by decide)
  have m18503 : σ' 18503 = 0 + (1 * τ 18503 + 0) := hm 18503 (by decide)
  have m18507 : σ' 18507 = 0 + (1 * τ 18507 + 0) := hm 18507 (by decide)
  have m6145 : σ' 6145 = 0 + (1 * τ 6145 + 0) := hm 6145 (by decide)
  have m6146 : σ' 6146 = 0 + (1 * τ 6146 + 0) := hm 6146 (by decide)
  have m18504 : σ' 18504 = 0 + (1 * τ 18504 + 0) := hm 18504 (by decide)
  have m18508 : σ' 18508 = 0 + (1 * τ 18508 + 0) := hm 18508 (by decide)
  clear hf hm
  refine ⟨Or.inr ⟨by omega, fun h => ?_, by omega, by omega, by omega, by omega, by omega, by omega, by omega, by omega⟩, by omega, by omega, by omega, by omega, by omega, by omega, by omega, by omega⟩
  obtain ⟨z1, z2, z3, z4, z5, z6⟩ := h
  omega
theorem lw_tm_6 {as : List rv_A} {σ σ' : Nat → Int} {o : rv_O} {x : Int32} {a1 a2 a3 : Int} {τ : Nat → Int} (hx : o.1 = some (.inl x)) (h1 : lw_av as 1 = a1) (h2 : lw_av as 2 = a2) (h3 : lw_av as 3 = a3) (hb : ∀ s, (sx_sr s).1 ≤ σ s ∧ σ s ≤ (sx_sr s).2) (hW : lw_W ([], [(0, [(19001, 1)]), (0, [(19001, (-1))]), (0, [(19002, 1)]), (3, [(19002, (-1))]), (0, [(19003, 1)]), (60, [(19003, (-1))])], [(12800, (0, [])), (18501, (0, [(19002, 1)])), (18505, (0, [(19003, 1)]))], some (false, (1, []))) as σ σ' τ o) : lw_tm_C a1 a2 a3 x.toInt σ σ' := by
  unfold lw_tm_C
  obtain ⟨hs, ht, hf, hr, hm, hw⟩ := hW
  have e1 : τ 19001 = a1 := by rw [ht 19001 (by decide) (by decide)]; exact h1
  have e2 : τ 19002 = a2 := by rw [ht 19002 (by decide) (by decide)]; exact h2
  have e3 : τ 19003 = a3 := by rw [ht 19003 (by decide) (by decide)]; exact h3
  have s5377 : τ 5377 = σ 5377 := hs 5377 (by decide)
  have s5378 : τ 5378 = σ 5378 := hs 5378 (by decide)
  have s5633 : τ 5633 = σ 5633 := hs 5633 (by decide)
  have s5634 : τ 5634 = σ 5634 := hs 5634 (by decide)
  have s5889 : τ 5889 = σ 5889 := hs 5889 (by decide)
  have s5890 : τ 5890 = σ 5890 := hs 5890 (by decide)
  have s6145 : τ 6145 = σ 6145 := hs 6145 (by decide)
  have s6146 : τ 6146 = σ 6146 := hs 6146 (by decide)
  have s18501 : τ 18501 = σ 18501 := hs 18501 (by decide)
  have s18502 : τ 18502 = σ 18502 := hs 18502 (by decide)
  have s18503 : τ 18503 = σ 18503 := hs 18503 (by decide)
  have s18504 : τ 18504 = σ 18504 := hs 18504 (by decide)
  have s18505 : τ 18505 = σ 18505 := hs 18505 (by decide)
  have s18506 : τ 18506 = σ 18506 := hs 18506 (by decide)
  have s18507 : τ 18507 = σ 18507 := hs 18507 (by decide)
  have s18508 : τ 18508 = σ 18508 := hs 18508 (by decide)
  clear hs ht hb
  rw [hx] at hr
  obtain ⟨y, hy, hv⟩ := hr
  cases hy
  replace hv : x.toInt = 1 + 0 := hv
  have f0 : 0 ≤ 0 + (1 * τ 19001 + 0) := hf _ (List.Mem.head _)
  have f1 : 0 ≤ 0 + ((-1) * τ 19001 + 0) := hf _ (List.Mem.tail _ (List.Mem.head _))
  have f2 : 0 ≤ 0 + (1 * τ 19002 + 0) := hf _ (List.Mem.tail _ (List.Mem.tail _ (List.Mem.head _)))
  have f3 : 0 ≤ 3 + ((-1) * τ 19002 + 0) := hf _ (List.Mem.tail _ (List.Mem.tail _ (List.Mem.tail _ (List.Mem.head _))))
  have f4 : 0 ≤ 0 + (1 * τ 19003 + 0) := hf _ (List.Mem.tail _ (List.Mem.tail _ (List.Mem.tail _ (List.Mem.tail _ (List.Mem.head _)))))
  have f5 : 0 ≤ 60 + ((-1) * τ 19003 + 0) := hf _ (List.Mem.tail _ (List.Mem.tail _ (List.Mem.tail _ (List.Mem.tail _ (List.Mem.tail _ (List.Mem.head _))))))
  have m5377 : σ' 5377 = 0 + (1 * τ 5377 + 0) := hm 5377 (by decide)
  have m5378 : σ' 5378 = 0 + (1 * τ 5378 + 0) := hm 5378 (by decide)
  have m18501 : σ' 18501 = 0 + (1 * τ 19002 + 0) := hm 18501 (by decide)
  have m18505 : σ' 18505 = 0 + (1 * τ 19003 + 0) := hm 18505 (by decide)
  have m5633 : σ' 5633 = 0 + (1 * τ 5633 + 0) := hm 5633 (by decide)
  have m5634 : σ' 5634 = 0 + (1 * τ 5634 + 0) := hm 5634 (by decide)
  have m18502 : σ' 18502 = 0 + (1 * τ 18502 + 0) := hm 18502 (by decide)
  have m18506 : σ' 18506 = 0 + (1 * τ 18506 + 0) := hm 18506 (by decide)
  have m5889 : σ' 5889 = 0 + (1 * τ 5889 + 0) := hm 5889 (by decide)
  have m5890 : σ' 5890 = 0 + (1 * τ 5890 + 0) := hm 5890 (by decide)
  have m18503 : σ' 18503 = 0 + (1 * τ 18503 + 0) := hm 18503 (by decide)
  have m18507 : σ' 18507 = 0 + (1 * τ 18507 + 0) := hm 18507 (by decide)
  have m6145 : σ' 6145 = 0 + (1 * τ 6145 + 0) := hm 6145 (by decide)
  have m6146 : σ' 6146 = 0 + (1 * τ 6146 + 0) := hm 6146 (by decide)
  have m18504 : σ' 18504 = 0 + (1 * τ 18504 + 0) := hm 18504 (by decide)
  have m18508 : σ' 18508 = 0 + (1 * τ 18508 + 0) := hm 18508 (by decide)
  clear hf hm
  exact ⟨Or.inl ⟨by omega, ⟨by omega, by omega, by omega, by omega, by omega, by omega⟩, Or.inl ⟨by omega, by omega, by omega⟩, Or.inr ⟨by omega, by omega, by omega⟩, Or.inr ⟨by omega, by omega, by omega⟩, Or.inr ⟨by omega, by omega, by omega⟩⟩, by omega, by omega, by omega, by omega, by omega, by omega, by omega, by omega⟩
theorem lw_tm_7 {as : List rv_A} {σ σ' : Nat → Int} {o : rv_O} {x : Int32} {a1 a2 a3 : Int} {τ : Nat → Int} (hx : o.1 = some (.inl x)) (h1 : lw_av as 1 = a1) (h2 : lw_av as 2 = a2) (h3 : lw_av as 3 = a3) (hb : ∀ s, (sx_sr s).1 ≤ σ s ∧ σ s ≤ (sx_sr s).2) (hW : lw_W ([], [((-1), [(19001, 1)]), (1, [(19001, (-1))]), (0, [(19002, 1)]), (3, [(19002, (-1))]), (0, [(19003, 1)]), (60, [(19003, (-1))])], [(12800, (0, [])), (18502, (0, [(19002, 1)])), (18506, (0, [(19003, 1)]))], some (false, (1, []))) as σ σ' τ o) : lw_tm_C a1 a2 a3 x.toInt σ σ' := by
  unfold lw_tm_C
  obtain ⟨hs, ht, hf, hr, hm, hw⟩ := hW
  have e1 : τ 19001 = a1 := by rw [ht 19001 (by decide) (by decide)]; exact h1
  have e2 : τ 19002 = a2 := by rw [ht 19002 (by decide) (by decide)]; exact h2
  have e3 : τ 19003 = a3 := by rw [ht 19003 (by decide) (by decide)]; exact h3
  have s5377 : τ 5377 = σ 5377 := hs 5377 (by decide)
  have s5378 : τ 5378 = σ 5378 := hs 5378 (by decide)
  have s5633 : τ 5633 = σ 5633 := hs 5633 (by decide)
  have s5634 : τ 5634 = σ 5634 := hs 5634 (by decide)
  have s5889 : τ 5889 = σ 5889 := hs 5889 (by decide)
  have s5890 : τ 5890 = σ 5890 := hs 5890 (by decide)
  have s6145 : τ 6145 = σ 6145 := hs 6145 (by decide)
  have s6146 : τ 6146 = σ 6146 := hs 6146 (by decide)
  have s18501 : τ 18501 = σ 18501 := hs 18501 (by decide)
  have s18502 : τ 18502 = σ 18502 := hs 18502 (by decide)
  have s18503 : τ 18503 = σ 18503 := hs 18503 (by decide)
  have s18504 : τ 18504 = σ 18504 := hs 18504 (by decide)
  have s18505 : τ 18505 = σ 18505 := hs 18505 (by decide)
  have s18506 : τ 18506 = σ 18506 := hs 18506 (by decide)
  have s18507 : τ 18507 = σ 18507 := hs 18507 (by decide)
  have s18508 : τ 18508 = σ 18508 := hs 18508 (by decide)
  clear hs ht hb
  rw [hx] at hr
  obtain ⟨y, hy, hv⟩ := hr
  cases hy
  replace hv : x.toInt = 1 + 0 := hv
  have f0 : 0 ≤ (-1) + (1 * τ 19001 + 0) := hf _ (List.Mem.head _)
  have f1 : 0 ≤ 1 + ((-1) * τ 19001 + 0) := hf _ (List.Mem.tail _ (List.Mem.head _))
  have f2 : 0 ≤ 0 + (1 * τ 19002 + 0) := hf _ (List.Mem.tail _ (List.Mem.tail _ (List.Mem.head _)))
  have f3 : 0 ≤ 3 + ((-1) * τ 19002 + 0) := hf _ (List.Mem.tail _ (List.Mem.tail _ (List.Mem.tail _ (List.Mem.head _))))
  have f4 : 0 ≤ 0 + (1 * τ 19003 + 0) := hf _ (List.Mem.tail _ (List.Mem.tail _ (List.Mem.tail _ (List.Mem.tail _ (List.Mem.head _)))))
  have f5 : 0 ≤ 60 + ((-1) * τ 19003 + 0) := hf _ (List.Mem.tail _ (List.Mem.tail _ (List.Mem.tail _ (List.Mem.tail _ (List.Mem.tail _ (List.Mem.head _))))))
  have m5377 : σ' 5377 = 0 + (1 * τ 5377 + 0) := hm 5377 (by decide)
  have m5378 : σ' 5378 = 0 + (1 * τ 5378 + 0) := hm 5378 (by decide)
  have m18501 : σ' 18501 = 0 + (1 * τ 18501 + 0) := hm 18501 (by decide)
  have m18505 : σ' 18505 = 0 + (1 * τ 18505 + 0) := hm 18505 (by decide)
  have m5633 : σ' 5633 = 0 + (1 * τ 5633 + 0) := hm 5633 (by decide)
  have m5634 : σ' 5634 = 0 + (1 * τ 5634 + 0) := hm 5634 (by decide)
  have m18502 : σ' 18502 = 0 + (1 * τ 19002 + 0) := hm 18502 (by decide)
  have m18506 : σ' 18506 = 0 + (1 * τ 19003 + 0) := hm 18506 (by decide)
  have m5889 : σ' 5889 = 0 + (1 * τ 5889 + 0) := hm 5889 (by decide)
  have m5890 : σ' 5890 = 0 + (1 * τ 5890 + 0) := hm 5890 (by decide)
  have m18503 : σ' 18503 = 0 + (1 * τ 18503 + 0) := hm 18503 (by decide)
  have m18507 : σ' 18507 = 0 + (1 * τ 18507 + 0) := hm 18507 (by decide)
  have m6145 : σ' 6145 = 0 + (1 * τ 6145 + 0) := hm 6145 (by decide)
  have m6146 : σ' 6146 = 0 + (1 * τ 6146 + 0) := hm 6146 (by decide)
  have m18504 : σ' 18504 = 0 + (1 * τ 18504 + 0) := hm 18504 (by decide)
  have m18508 : σ' 18508 = 0 + (1 * τ 18508 + 0) := hm 18508 (by decide)
  clear hf hm
  exact ⟨Or.inl ⟨by omega, ⟨by omega, by omega, by omega, by omega, by omega, by omega⟩, Or.inr ⟨by omega, by omega, by omega⟩, Or.inl ⟨by omega, by omega, by omega⟩, Or.inr ⟨by omega, by omega, by omega⟩, Or.inr ⟨by omega, by omega, by omega⟩⟩, by omega, by omega, by omega, by omega, by omega, by omega, by omega, by omega⟩
theorem lw_tm_8 {as : List rv_A} {σ σ' : Nat → Int} {o : rv_O} {x : Int32} {a1 a2 a3 : Int} {τ : Nat → Int} (hx : o.1 = some (.inl x)) (h1 : lw_av as 1 = a1) (h2 : lw_av as 2 = a2) (h3 : lw_av as 3 = a3) (hb : ∀ s, (sx_sr s).1 ≤ σ s ∧ σ s ≤ (sx_sr s).2) (hW : lw_W ([], [((-2), [(19001, 1)]), (2, [(19001, (-1))]), (0, [(19002, 1)]), (3, [(19002, (-1))]), (0, [(19003, 1)]), (60, [(19003, (-1))])], [(12800, (0, [])), (18503, (0, [(19002, 1)])), (18507, (0, [(19003, 1)]))], some (false, (1, []))) as σ σ' τ o) : lw_tm_C a1 a2 a3 x.toInt σ σ' := by
  unfold lw_tm_C
  obtain ⟨hs, ht, hf, hr, hm, hw⟩ := hW
  have e1 : τ 19001 = a1 := by rw [ht 19001 (by decide) (by decide)]; exact h1
  have e2 : τ 19002 = a2 := by rw [ht 19002 (by decide) (by decide)]; exact h2
  have e3 : τ 19003 = a3 := by rw [ht 19003 (by decide) (by decide)]; exact h3
  have s5377 : τ 5377 = σ 5377 := hs 5377 (by decide)
  have s5378 : τ 5378 = σ 5378 := hs 5378 (by decide)
  have s5633 : τ 5633 = σ 5633 := hs 5633 (by decide)
  have s5634 : τ 5634 = σ 5634 := hs 5634 (by decide)
  have s5889 : τ 5889 = σ 5889 := hs 5889 (by decide)
  have s5890 : τ 5890 = σ 5890 := hs 5890 (by decide)
  have s6145 : τ 6145 = σ 6145 := hs 6145 (by decide)
  have s6146 : τ 6146 = σ 6146 := hs 6146 (by decide)
  have s18501 : τ 18501 = σ 18501 := hs 18501 (by decide)
  have s18502 : τ 18502 = σ 18502 := hs 18502 (by decide)
  have s18503 : τ 18503 = σ 18503 := hs 18503 (by decide)
  have s18504 : τ 18504 = σ 18504 := hs 18504 (by decide)
  have s18505 : τ 18505 = σ 18505 := hs 18505 (by decide)
  have s18506 : τ 18506 = σ 18506 := hs 18506 (by decide)
  have s18507 : τ 18507 = σ 18507 := hs 18507 (by decide)
  have s18508 : τ 18508 = σ 18508 := hs 18508 (by decide)
  clear hs ht hb
  rw [hx] at hr
  obtain ⟨y, hy, hv⟩ := hr
  cases hy
  replace hv : x.toInt = 1 + 0 := hv
  have f0 : 0 ≤ (-2) + (1 * τ 19001 + 0) := hf _ (List.Mem.head _)
  have f1 : 0 ≤ 2 + ((-1) * τ 19001 + 0) := hf _ (List.Mem.tail _ (List.Mem.head _))
  have f2 : 0 ≤ 0 + (1 * τ 19002 + 0) := hf _ (List.Mem.tail _ (List.Mem.tail _ (List.Mem.head _)))
  have f3 : 0 ≤ 3 + ((-1) * τ 19002 + 0) := hf _ (List.Mem.tail _ (List.Mem.tail _ (List.Mem.tail _ (List.Mem.head _))))
  have f4 : 0 ≤ 0 + (1 * τ 19003 + 0) := hf _ (List.Mem.tail _ (List.Mem.tail _ (List.Mem.tail _ (List.Mem.tail _ (List.Mem.head _)))))
  have f5 : 0 ≤ 60 + ((-1) * τ 19003 + 0) := hf _ (List.Mem.tail _ (List.Mem.tail _ (List.Mem.tail _ (List.Mem.tail _ (List.Mem.tail _ (List.Mem.head _))))))
  have m5377 : σ' 5377 = 0 + (1 * τ 5377 + 0) := hm 5377 (by decide)
  have m5378 : σ' 5378 = 0 + (1 * τ 5378 + 0) := hm 5378 (by decide)
  have m18501 : σ' 18501 = 0 + (1 * τ 18501 + 0) := hm 18501 (by decide)
  have m18505 : σ' 18505 = 0 + (1 * τ 18505 + 0) := hm 18505 (by decide)
  have m5633 : σ' 5633 = 0 + (1 * τ 5633 + 0) := hm 5633 (by decide)
  have m5634 : σ' 5634 = 0 + (1 * τ 5634 + 0) := hm 5634 (by decide)
  have m18502 : σ' 18502 = 0 + (1 * τ 18502 + 0) := hm 18502 (by decide)
  have m18506 : σ' 18506 = 0 + (1 * τ 18506 + 0) := hm 18506 (by decide)
  have m5889 : σ' 5889 = 0 + (1 * τ 5889 + 0) := hm 5889 (by decide)
  have m5890 : σ' 5890 = 0 + (1 * τ 5890 + 0) := hm 5890 (by decide)
  have m18503 : σ' 18503 = 0 + (1 * τ 19002 + 0) := hm 18503 (by decide)
  have m18507 : σ' 18507 = 0 + (1 * τ 19003 + 0) := hm 18507 (by decide)
  have m6145 : σ' 6145 = 0 + (1 * τ 6145 + 0) := hm 6145 (by decide)
  have m6146 : σ' 6146 = 0 + (1 * τ 6146 + 0) := hm 6146 (by decide)
  have m18504 : σ' 18504 = 0 + (1 * τ 18504 + 0) := hm 18504 (by decide)
  have m18508 : σ' 18508 = 0 + (1 * τ 18508 + 0) := hm 18508 (by decide)
  clear hf hm
  exact ⟨Or.inl ⟨by omega, ⟨by omega, by omega, by omega, by omega, by omega, by omega⟩, Or.inr ⟨by omega, by omega, by omega⟩, Or.inr ⟨by omega, by omega, by omega⟩, Or.inl ⟨by omega, by omega, by omega⟩, Or.inr ⟨by omega, by omega, by omega⟩⟩, by omega, by omega, by omega, by omega, by omega, by omega, by omega, by omega⟩
theorem lw_tm_9 {as : List rv_A} {σ σ' : Nat → Int} {o : rv_O} {x : Int32} {a1 a2 a3 : Int} {τ : Nat → Int} (hx : o.1 = some (.inl x)) (h1 : lw_av as 1 = a1) (h2 : lw_av as 2 = a2) (h3 : lw_av as 3 = a3) (hb : ∀ s, (sx_sr s).1 ≤ σ s ∧ σ s ≤ (sx_sr s).2) (hW : lw_W ([], [((-3), [(19001, 1)]), (3, [(19001, (-1))]), (0, [(19002, 1)]), (3, [(19002, (-1))]), (0, [(19003, 1)]), (60, [(19003, (-1))])], [(12800, (0, [])), (18504, (0, [(19002, 1)])), (18508, (0, [(19003, 1)]))], some (false, (1, []))) as σ σ' τ o) : lw_tm_C a1 a2 a3 x.toInt σ σ' := by
  unfold lw_tm_C
  obtain ⟨hs, ht, hf, hr, hm, hw⟩ := hW
  have e1 : τ 19001 = a1 := by rw [ht 19001 (by decide) (by decide)]; exact h1
  have e2 : τ 19002 = a2 := by rw [ht 19002 (by decide) (by decide)]; exact h2
  have e3 : τ 19003 = a3 := by rw [ht 19003 (by decide) (by decide)]; exact h3
  have s5377 : τ 5377 = σ 5377 := hs 5377 (by decide)
  have s5378 : τ 5378 = σ 5378 := hs 5378 (by decide)
  have s5633 : τ 5633 = σ 5633 := hs 5633 (by decide)
  have s5634 : τ 5634 = σ 5634 := hs 5634 (by decide)
  have s5889 : τ 5889 = σ 5889 := hs 5889 (by decide)
  have s5890 : τ 5890 = σ 5890 := hs 5890 (by decide)
  have s6145 : τ 6145 = σ 6145 := hs 6145 (by decide)
  have s6146 : τ 6146 = σ 6146 := hs 6146 (by decide)
  have s18501 : τ 18501 = σ 18501 := hs 18501 (by decide)
  have s18502 : τ 18502 = σ 18502 := hs 18502 (by decide)
  have s18503 : τ 18503 = σ 18503 := hs 18503 (by decide)
  have s18504 : τ 18504 = σ 18504 := hs 18504 (by decide)
  have s18505 : τ 18505 = σ 18505 := hs 18505 (by decide)
  have s18506 : τ 18506 = σ 18506 := hs 18506 (by decide)
  have s18507 : τ 18507 = σ 18507 := hs 18507 (by decide)
  have s18508 : τ 18508 = σ 18508 := hs 18508 (by decide)
  clear hs ht hb
  rw [hx] at hr
  obtain ⟨y, hy, hv⟩ := hr
  cases hy
  replace hv : x.toInt = 1 + 0 := hv
  have f0 : 0 ≤ (-3) + (1 * τ 19001 + 0) := hf _ (List.Mem.head _)
  have f1 : 0 ≤ 3 + ((-1) * τ 19001 + 0) := hf _ (List.Mem.tail _ (List.Mem.head _))
  have f2 : 0 ≤ 0 + (1 * τ 19002 + 0) := hf _ (List.Mem.tail _ (List.Mem.tail _ (List.Mem.head _)))
  have f3 : 0 ≤ 3 + ((-1) * τ 19002 + 0) := hf _ (List.Mem.tail _ (List.Mem.tail _ (List.Mem.tail _ (List.Mem.head _))))
  have f4 : 0 ≤ 0 + (1 * τ 19003 + 0) := hf _ (List.Mem.tail _ (List.Mem.tail _ (List.Mem.tail _ (List.Mem.tail _ (List.Mem.head _)))))
  have f5 : 0 ≤ 60 + ((-1) * τ 19003 + 0) := hf _ (List.Mem.tail _ (List.Mem.tail _ (List.Mem.tail _ (List.Mem.tail _ (List.Mem.tail _ (List.Mem.head _))))))
  have m5377 : σ' 5377 = 0 + (1 * τ 5377 + 0) := hm 5377 (by decide)
  have m5378 : σ' 5378 = 0 + (1 * τ 5378 + 0) := hm 5378 (by decide)
  have m18501 : σ' 18501 = 0 + (1 * τ 18501 + 0) := hm 18501 (by decide)
  have m18505 : σ' 18505 = 0 + (1 * τ 18505 + 0) := hm 18505 (by decide)
  have m5633 : σ' 5633 = 0 + (1 * τ 5633 + 0) := hm 5633 (by decide)
  have m5634 : σ' 5634 = 0 + (1 * τ 5634 + 0) := hm 5634 (by decide)
  have m18502 : σ' 18502 = 0 + (1 * τ 18502 + 0) := hm 18502 (by decide)
  have m18506 : σ' 18506 = 0 + (1 * τ 18506 + 0) := hm 18506 (by decide)
  have m5889 : σ' 5889 = 0 + (1 * τ 5889 + 0) := hm 5889 (by decide)
  have m5890 : σ' 5890 = 0 + (1 * τ 5890 + 0) := hm 5890 (by decide)
  have m18503 : σ' 18503 = 0 + (1 * τ 18503 + 0) := hm 18503 (by decide)
  have m18507 : σ' 18507 = 0 + (1 * τ 18507 + 0) := hm 18507 (by decide)
  have m6145 : σ' 6145 = 0 + (1 * τ 6145 + 0) := hm 6145 (by decide)
  have m6146 : σ' 6146 = 0 + (1 * τ 6146 + 0) := hm 6146 (by decide)
  have m18504 : σ' 18504 = 0 + (1 * τ 19002 + 0) := hm 18504 (by decide)
  have m18508 : σ' 18508 = 0 + (1 * τ 19003 + 0) := hm 18508 (by decide)
  clear hf hm
  exact ⟨Or.inl ⟨by omega, ⟨by omega, by omega, by omega, by omega, by omega, by omega⟩, Or.inr ⟨by omega, by omega, by omega⟩, Or.inr ⟨by omega, by omega, by omega⟩, Or.inr ⟨by omega, by omega, by omega⟩, Or.inl ⟨by omega, by omega, by omega⟩⟩, by omega, by omega, by omega, by omega, by omega, by omega, by omega, by omega⟩
set_option maxHeartbeats 4000000 in
theorem lw_tm {as : List rv_A} {σ σ' : Nat → Int} {o : rv_O} {x : Int32} {a1 a2 a3 : Int} (hx : o.1 = some (.inl x)) (h1 : lw_av as 1 = a1) (h2 : lw_av as 2 = a2) (h3 : lw_av as 3 = a3) (hb : ∀ s, (sx_sr s).1 ≤ σ s ∧ σ s ≤ (sx_sr s).2) (h : lw_Qc sx_c342 as σ σ' o) : lw_tm_C a1 a2 a3 x.toInt σ σ' := by
  obtain ⟨g, hg, τ, hW⟩ := h
  simp only [sx_c342, List.mem_cons, List.not_mem_nil, or_false] at hg
  rcases hg with rfl | rfl | rfl | rfl | rfl | rfl | rfl | rfl | rfl | rfl
  · exact lw_tm_0 hx h1 h2 h3 hb hW
  · exact lw_tm_1 hx h1 h2 h3 hb hW
  · exact lw_tm_2 hx h1 h2 h3 hb hW
  · exact lw_tm_3 hx h1 h2 h3 hb hW
  · exact lw_tm_4 hx h1 h2 h3 hb hW
  · exact lw_tm_5 hx h1 h2 h3 hb hW
  · exact lw_tm_6 hx h1 h2 h3 hb hW
  · exact lw_tm_7 hx h1 h2 h3 hb hW
  · exact lw_tm_8 hx h1 h2 h3 hb hW
  · exact lw_tm_9 hx h1 h2 h3 hb hW
theorem lw_same1 {y1 y2 y3 : Int32} {o1 o2 : rv_O} {h0 : List rv_C} {σ σ1 σ2 : Nat → Int} {z1 z2 : Int32} (hz1 : o1.1 = some (.inl z1)) (hz2 : o2.1 = some (.inl z2)) (h1 : lw_Qc sx_c241 [rv_ref 0, .inl y1, .inl y2, .inl y3] σ σ1 o1) (h2 : lw_Qc sx_c342 [rv_ref 100, .inl y1, .inl y2, .inl y3] σ1 σ2 o2) (hR : lw_R σ) (hJ : lw_Js σ h0) (hJ1 : lw_Js σ1 o1.2) (hJ2 : lw_Js σ2 o2.2) : z1 = z2 := by
  obtain ⟨g1, q⟩ := lw_tx (a1 := y1.toInt) (a2 := y2.toInt) (a3 := y3.toInt) hz1 rfl rfl rfl hJ.2.1 h1
  obtain ⟨o0, o1, o2, o3, o4, o5, o6, o7⟩ := q
  obtain ⟨g2, q⟩ := lw_tm (a1 := y1.toInt) (a2 := y2.toInt) (a3 := y3.toInt) hz2 rfl rfl rfl hJ1.2.1 h2
  obtain ⟨p0, p1, p2, p3, p4, p5, p6, p7⟩ := q
  apply Int32.toInt_inj.mp
  rcases g1 with ⟨b1, b2, -⟩ | ⟨b1, b2, -⟩
  · rcases g2 with ⟨b3, b4, -⟩ | ⟨b3, b4, -⟩
    · omega
    · exact absurd b2 b4
  · rcases g2 with ⟨b3, b4, -⟩ | ⟨b3, b4, -⟩
    · exact absurd b4 b2
    · omega
set_option maxHeartbeats 4000000 in
theorem lw_sp1 {y1 y2 y3 : Int32} {o1 o2 : rv_O} {h0 : List rv_C} {σ σ1 σ2 : Nat → Int} {z1 z2 : Int32} (hz1 : o1.1 = some (.inl z1)) (hz2 : o2.1 = some (.inl z2)) (h1 : lw_Qc sx_c241 [rv_ref 0, .inl y1, .inl y2, .inl y3] σ σ1 o1) (h2 : lw_Qc sx_c342 [rv_ref 100, .inl y1, .inl y2, .inl y3] σ1 σ2 o2) (hR : lw_R σ) (hJ : lw_Js σ h0) (hJ1 : lw_Js σ1 o1.2) (hJ2 : lw_Js σ2 o2.2) : lw_R σ2 := by
  obtain ⟨g1, q⟩ := lw_tx (a1 := y1.toInt) (a2 := y2.toInt) (a3 := y3.toInt) hz1 rfl rfl rfl hJ.2.1 h1
  obtain ⟨o0, o1, o2, o3, o4, o5, o6, o7⟩ := q
  obtain ⟨g2, q⟩ := lw_tm (a1 := y1.toInt) (a2 := y2.toInt) (a3 := y3.toInt) hz2 rfl rfl rfl hJ1.2.1 h2
  obtain ⟨p0, p1, p2, p3, p4, p5, p6, p7⟩ := q
  obtain ⟨r0, r1, r2, r3⟩ := hR
  rcases g1 with ⟨b1, b2, u0, u1, u2, u3⟩ | ⟨b1, b2, w0, w1, w2, w3, w4, w5, w6, w7⟩
  · rcases g2 with ⟨b3, b4, v0, v1, v2, v3⟩ | ⟨b3, b4, -⟩
    · obtain ⟨b5, b6, b7, b8, b9, b10⟩ := b2
      clear b1 b3 b4 h1 h2 hJ hJ1 hJ2 hz1 hz2
      refine ⟨?_, ?_, ?_, ?_⟩
      · rcases u0 with ⟨c1, c2, c3⟩ | ⟨c1, c2, c3⟩
        · rcases v0 with ⟨d1, d2, d3⟩ | ⟨d1, d2, d3⟩
          · exact Or.inr ⟨by omega, by omega, by omega, by omega⟩
          · omega
        · rcases v0 with ⟨d1, d2, d3⟩ | ⟨d1, d2, d3⟩
          · omega
          · rcases r0 with ⟨k1, k2⟩ | ⟨k1, k2, k3, k4⟩
            · exact Or.inl ⟨by omega, by omega⟩
            · exact Or.inr ⟨by omega, by omega, by omega, by omega⟩
      · rcases u1 with ⟨c1, c2, c3⟩ | ⟨c1, c2, c3⟩
        · rcases v1 with ⟨d1, d2, d3⟩ | ⟨d1, d2, d3⟩
          · exact Or.inr ⟨by omega, by omega, by omega, by omega⟩
          · omega
        · rcases v1 with ⟨d1, d2, d3⟩ | ⟨d1, d2, d3⟩
          · omega
          · rcases r1 with ⟨k1, k2⟩ | ⟨k1, k2, k3, k4⟩
            · exact Or.inl ⟨by omega, by omega⟩
            · exact Or.inr ⟨by omega, by omega, by omega, by omega⟩
      · rcases u2 with ⟨c1, c2, c3⟩ | ⟨c1, c2, c3⟩
        · rcases v2 with ⟨d1, d2, d3⟩ | ⟨d1, d2, d3⟩
          · exact Or.inr ⟨by omega, by omega, by omega, by omega⟩
          · omega
        · rcases v2 with ⟨d1, d2, d3⟩ | ⟨d1, d2, d3⟩
          · omega
          · rcases r2 with ⟨k1, k2⟩ | ⟨k1, k2, k3, k4⟩
            · exact Or.inl ⟨by omega, by omega⟩
            · exact Or.inr ⟨by omega, by omega, by omega, by omega⟩
      · rcases u3 with ⟨c1, c2, c3⟩ | ⟨c1, c2, c3⟩
        · rcases v3 with ⟨d1, d2, d3⟩ | ⟨d1, d2, d3⟩
          · exact Or.inr ⟨by omega, by omega, by omega, by omega⟩
          · omega
        · rcases v3 with ⟨d1, d2, d3⟩ | ⟨d1, d2, d3⟩
          · omega
          · rcases r3 with ⟨k1, k2⟩ | ⟨k1, k2, k3, k4⟩
            · exact Or.inl ⟨by omega, by omega⟩
            · exact Or.inr ⟨by omega, by omega, by omega, by omega⟩
    · exact absurd b2 b4
  · rcases g2 with ⟨b3, b4, -⟩ | ⟨b3, b4, x0, x1, x2, x3, x4, x5, x6, x7⟩
    · exact absurd b4 b2
    · clear b1 b2 b3 b4 h1 h2 hJ hJ1 hJ2 hz1 hz2
      refine ⟨?_, ?_, ?_, ?_⟩
      · rcases r0 with ⟨k1, k2⟩ | ⟨k1, k2, k3, k4⟩
        · exact Or.inl ⟨by omega, by omega⟩
        · exact Or.inr ⟨by omega, by omega, by omega, by omega⟩
      · rcases r1 with ⟨k1, k2⟩ | ⟨k1, k2, k3, k4⟩
        · exact Or.inl ⟨by omega, by omega⟩
        · exact Or.inr ⟨by omega, by omega, by omega, by omega⟩
      · rcases r2 with ⟨k1, k2⟩ | ⟨k1, k2, k3, k4⟩
        · exact Or.inl ⟨by omega, by omega⟩
        · exact Or.inr ⟨by omega, by omega, by omega, by omega⟩
      · rcases r3 with ⟨k1, k2⟩ | ⟨k1, k2, k3, k4⟩
        · exact Or.inl ⟨by omega, by omega⟩
        · exact Or.inr ⟨by omega, by omega, by omega, by omega⟩
def lw_sel (a v0 v1 v2 v3 : Int) : Int := if a = 0 then v0 else if a = 1 then v1 else if a = 2 then v2 else v3
theorem lw_sel0 {a b c d : Int} : lw_sel 0 a b c d = a := rfl
theorem lw_sel1 {a b c d : Int} : lw_sel 1 a b c d = b := rfl
theorem lw_sel2 {a b c d : Int} : lw_sel 2 a b c d = c := rfl
theorem lw_sel3 {a b c d : Int} : lw_sel 3 a b c d = d := rfl
def lw_PO (a1 a2 a3 a4 a5 ka sa ma kb sb mb : Int) : Prop := 0 ≤ a1 ∧ a1 ≤ 3 ∧ 0 ≤ a3 ∧ a3 ≤ 3 ∧ 0 ≤ a2 ∧ 0 ≤ a4 ∧ 0 ≤ a5 ∧ 0 ≤ ka ∧ 0 ≤ kb ∧ sa = sb ∧ a2 + a5 ≤ ma ∧ a4 + a5 ≤ mb
def lw_px_C (a1 a2 a3 a4 a5 z : Int) (σ σ' : Nat → Int) : Prop := (z = 1 ∧ (lw_PO a1 a2 a3 a4 a5 (lw_sel a1 (σ 5377) (σ 5633) (σ 5889) (σ 6145)) (lw_sel a1 (σ 5377) (σ 5633) (σ 5889) (σ 6145)) (lw_sel a1 (σ 5378) (σ 5634) (σ 5890) (σ 6146)) (lw_sel a3 (σ 5377) (σ 5633) (σ 5889) (σ 6145)) (lw_sel a3 (σ 5377) (σ 5633) (σ 5889) (σ 6145)) (lw_sel a3 (σ 5378) (σ 5634) (σ 5890) (σ 6146)))) ∨ (z = 0 ∧ ¬ (lw_PO a1 a2 a3 a4 a5 (lw_sel a1 (σ 5377) (σ 5633) (σ 5889) (σ 6145)) (lw_sel a1 (σ 5377) (σ 5633) (σ 5889) (σ 6145)) (lw_sel a1 (σ 5378) (σ 5634) (σ 5890) (σ 6146)) (lw_sel a3 (σ 5377) (σ 5633) (σ 5889) (σ 6145)) (lw_sel a3 (σ 5377) (σ 5633) (σ 5889) (σ 6145)) (lw_sel a3 (σ 5378) (σ 5634) (σ 5890) (σ 6146))))
theorem lw_px_0 {as : List rv_A} {σ σ' : Nat → Int} {o : rv_O} {x : Int32} {a1 a2 a3 a4 a5 : Int} {τ : Nat → Int} (hx : o.1 = some (.inl x)) (h1 : lw_av as 1 = a1) (h2 : lw_av as 2 = a2) (h3 : lw_av as 3 = a3) (h4 : lw_av as 4 = a4) (h5 : lw_av as 5 = a5) (hb : ∀ s, (sx_sr s).1 ≤ σ s ∧ σ s ≤ (sx_sr s).2) (hW : lw_W ([], [((-1), [(19001, (-1))])], [(9, (1, []))], some (false, (0, []))) as σ σ' τ o) : lw_px_C a1 a2 a3 a4 a5 x.toInt σ σ' := by
  unfold lw_px_C
  have b5377 : (-1) ≤ σ 5377 ∧ σ 5377 ≤ 3 := by
    have h0 := hb 5377
    rw [show sx_sr 5377 = ((-1), 3) from by decide +kernel] at h0
    exact h0
  have b5633 : (-1) ≤ σ 5633 ∧ σ 5633 ≤ 3 := by
    have h0 := hb 5633
    rw [show sx_sr 5633 = ((-1), 3) from by decide +kernel] at h0
    exact h0
  have b5889 : (-1) ≤ σ 5889 ∧ σ 5889 ≤ 3 := by
    have h0 := hb 5889
    rw [show sx_sr 5889 = ((-1), 3) from by decide +kernel] at h0
    exact h0
  have b6145 : (-1) ≤ σ 6145 ∧ σ 6145 ≤ 3 := by
    have h0 := hb 6145
    rw [show sx_sr 6145 = ((-1), 3) from by decide +kernel] at h0
    exact h0
  have b5378 : 0 ≤ σ 5378 ∧ σ 5378 ≤ 60 := by
    have h0 := hb 5378
    rw [show sx_sr 5378 = (0, 60) from by decide +kernel] at h0
    exact h0
  have b5634 : 0 ≤ σ 5634 ∧ σ 5634 ≤ 60 := by
    have h0 := hb 5634
    rw [show sx_sr 5634 = (0, 60) from by decide +kernel] at h0
    exact h0
  have b5890 : 0 ≤ σ 5890 ∧ σ 5890 ≤ 60 := by
    have h0 := hb 5890
    rw [show sx_sr 5890 = (0, 60) from by decide +kernel] at h0
    exact h0
  have b6146 : 0 ≤ σ 6146 ∧ σ 6146 ≤ 60 := by
    have h0 := hb 6146
    rw [show sx_sr 6146 = (0, 60) from by decide +kernel] at h0
    exact h0
  obtain ⟨hs, ht, hf, hr, hm, hw⟩ := hW
  have e1 : τ 19001 = a1 := by rw [ht 19001 (by decide) (by decide)]; exact h1
  have e2 : τ 19002 = a2 := by rw [ht 19002 (by decide) (by decide)]; exact h2
  have e3 : τ 19003 = a3 := by rw [ht 19003 (by decide) (by decide)]; exact h3
  have e4 : τ 19004 = a4 := by rw [ht 19004 (by decide) (by decide)]; exact h4
  have e5 : τ 19005 = a5 := by rw [ht 19005 (by decide) (by decide)]; exact h5
  have s5377 : τ 5377 = σ 5377 := hs 5377 (by decide)
  have s5378 : τ 5378 = σ 5378 := hs 5378 (by decide)
  have s5633 : τ 5633 = σ 5633 := hs 5633 (by decide)
  have s5634 : τ 5634 = σ 5634 := hs 5634 (by decide)
  have s5889 : τ 5889 = σ 5889 := hs 5889 (by decide)
  have s5890 : τ 5890 = σ 5890 := hs 5890 (by decide)
  have s6145 : τ 6145 = σ 6145 := hs 6145 (by decide)
  have s6146 : τ 6146 = σ 6146 := hs 6146 (by decide)
  clear hs ht hb
  rw [hx] at hr
  obtain ⟨y, hy, hv⟩ := hr
  cases hy
  replace hv : x.toInt = 0 + 0 := hv
  have f0 : 0 ≤ (-1) + ((-1) * τ 19001 + 0) := hf _ (List.Mem.head _)
  clear hf hm
  refine Or.inr ⟨by omega, fun h => ?_⟩
  obtain ⟨z0, z1, z2, z3, z4, z5, z6, z7, z8, z9, z10, z11⟩ := h
  omega
theorem lw_px_1 {as : List rv_A} {σ σ' : Nat → Int} {o : rv_O} {x : Int32} {a1 a2 a3 a4 a5 : Int} {τ : Nat → Int} (hx : o.1 = some (.inl x)) (h1 : lw_av as 1 = a1) (h2 : lw_av as 2 = a2) (h3 : lw_av as 3 = a3) (h4 : lw_av as 4 = a4) (h5 : lw_av as 5 = a5) (hb : ∀ s, (sx_sr s).1 ≤ σ s ∧ σ s ≤ (sx_sr s).2) (hW : lw_W ([], [(0, [(19001, 1)]), (3, [(19001, (-1))]), ((-1), [(19002, (-1))]), (0, [(19003, 1)]), (3, [(19003, (-1))])], [(9, (1, []))], some (false, (0, []))) as σ σ' τ o) : lw_px_C a1 a2 a3 a4 a5 x.toInt σ σ' := by
  unfold lw_px_C
  have b5377 : (-1) ≤ σ 5377 ∧ σ 5377 ≤ 3 := by
    have h0 := hb 5377
    rw [show sx_sr 5377 = ((-1), 3) from by decide +kernel] at h0
    exact h0
  have b5633 : (-1) ≤ σ 5633 ∧ σ 5633 ≤ 3 := by
    have h0 := hb 5633
    rw [show sx_sr 5633 = ((-1), 3) from by decide +kernel] at h0
    exact h0
  have b5889 : (-1) ≤ σ 5889 ∧ σ 5889 ≤ 3 := by
    have h0 := hb 5889
    rw [show sx_sr 5889 = ((-1), 3) from by decide +kernel] at h0
    exact h0
  have b6145 : (-1) ≤ σ 6145 ∧ σ 6145 ≤ 3 := by
    have h0 := hb 6145
    rw [show sx_sr 6145 = ((-1), 3) from by decide +kernel] at h0
    exact h0
  have b5378 : 0 ≤ σ 5378 ∧ σ 5378 ≤ 60 := by
    have h0 := hb 5378
    rw [show sx_sr 5378 = (0, 60) from by decide +kernel] at h0
    exact h0
  have b5634 : 0 ≤ σ 5634 ∧ σ 5634 ≤ 60 := by
    have h0 := hb 5634
    rw [show sx_sr 5634 = (0, 60) from by decide +kernel] at h0
    exact h0
  have b5890 : 0 ≤ σ 5890 ∧ σ 5890 ≤ 60 := by
    have h0 := hb 5890
    rw [show sx_sr 5890 = (0, 60) from by decide +kernel] at h0
    exact h0
  have b6146 : 0 ≤ σ 6146 ∧ σ 6146 ≤ 60 := by
    have h0 := hb 6146
    rw [show sx_sr 6146 = (0, 60) from by decide +kernel] at h0
    exact h0
  obtain ⟨hs, ht, hf, hr, hm, hw⟩ := hW
  have e1 : τ 19001 = a1 := by rw [ht 19001 (by decide) (by decide)]; exact h1
  have e2 : τ 19002 = a2 := by rw [ht 19002 (by decide) (by decide)]; exact h2
  have e3 : τ 19003 = a3 := by rw [ht 19003 (by decide) (by decide)]; exact h3
  have e4 : τ 19004 = a4 := by rw [ht 19004 (by decide) (by decide)]; exact h4
  have e5 : τ 19005 = a5 := by rw [ht 19005 (by decide) (by decide)]; exact h5
  have s5377 : τ 5377 = σ 5377 := hs 5377 (by decide)
  have s5378 : τ 5378 = σ 5378 := hs 5378 (by decide)
  have s5633 : τ 5633 = σ 5633 := hs 5633 (by decide)
  have s5634 : τ 5634 = σ 5634 := hs 5634 (by decide)
  have s5889 : τ 5889 = σ 5889 := hs 5889 (by decide)
  have s5890 : τ 5890 = σ 5890 := hs 5890 (by decide)
  have s6145 : τ 6145 = σ 6145 := hs 6145 (by decide)
  have s6146 : τ 6146 = σ 6146 := hs 6146 (by decide)
  clear hs ht hb
  rw [hx] at hr
  obtain ⟨y, hy, hv⟩ := hr
  cases hy
  replace hv : x.toInt = 0 + 0 := hv
  have f0 : 0 ≤ 0 + (1 * τ 19001 + 0) := hf _ (List.Mem.head _)
  have f1 : 0 ≤ 3 + ((-1) * τ 19001 + 0) := hf _ (List.Mem.tail _ (List.Mem.head _))
  have f2 : 0 ≤ (-1) + ((-1) * τ 19002 + 0) := hf _ (List.Mem.tail _ (List.Mem.tail _ (List.Mem.head _)))
  have f3 : 0 ≤ 0 + (1 * τ 19003 + 0) := hf _ (List.Mem.tail _ (List.Mem.tail _ (List.Mem.tail _ (List.Mem.head _))))
  have f4 : 0 ≤ 3 + ((-1) * τ 19003 + 0) := hf _ (List.Mem.tail _ (List.Mem.tail _ (List.Mem.tail _ (List.Mem.tail _ (List.Mem.head _)))))
  clear hf hm
  refine Or.inr ⟨by omega, fun h => ?_⟩
  obtain ⟨z0, z1, z2, z3, z4, z5, z6, z7, z8, z9, z10, z11⟩ := h
  omega
theorem lw_px_2 {as : List rv_A} {σ σ' : Nat → Int} {o : rv_O} {x : Int32} {a1 a2 a3 a4 a5 : Int} {τ : Nat → Int} (hx : o.1 = some (.inl x)) (h1 : lw_av as 1 = a1) (h2 : lw_av as 2 = a2) (h3 : lw_av as 3 = a3) (h4 : lw_av as 4 = a4) (h5 : lw_av as 5 = a5) (hb : ∀ s, (sx_sr s).1 ≤ σ s ∧ σ s ≤ (sx_sr s).2) (hW : lw_W ([], [(0, [(19001, 1)]), (3, [(19001, (-1))]), ((-1), [(19003, (-1))])], [(9, (1, []))], some (false, (0, []))) as σ σ' τ o) : lw_px_C a1 a2 a3 a4 a5 x.toInt σ σ' := by
  unfold lw_px_C
  have b5377 : (-1) ≤ σ 5377 ∧ σ 5377 ≤ 3 := by
    have h0 := hb 5377
    rw [show sx_sr 5377 = ((-1), 3) from by decide +kernel] at h0
    exact h0
  have b5633 : (-1) ≤ σ 5633 ∧ σ 5633 ≤ 3 := by
    have h0 := hb 5633
    rw [show sx_sr 5633 = ((-1), 3) from by decide +kernel] at h0
    exact h0
  have b5889 : (-1) ≤ σ 5889 ∧ σ 5889 ≤ 3 := by
    have h0 := hb 5889
    rw [show sx_sr 5889 = ((-1), 3) from by decide +kernel] at h0
    exact h0
  have b6145 : (-1) ≤ σ 6145 ∧ σ 6145 ≤ 3 := by
    have h0 := hb 6145
    rw [show sx_sr 6145 = ((-1), 3) from by decide +kernel] at h0
    exact h0
  have b5378 : 0 ≤ σ 5378 ∧ σ 5378 ≤ 60 := by
    have h0 := hb 5378
    rw [show sx_sr 5378 = (0, 60) from by decide +kernel] at h0
    exact h0
  have b5634 : 0 ≤ σ 5634 ∧ σ 5634 ≤ 60 := by
    have h0 := hb 5634
    rw [show sx_sr 5634 = (0, 60) from by decide +kernel] at h0
    exact h0
  have b5890 : 0 ≤ σ 5890 ∧ σ 5890 ≤ 60 := by
    have h0 := hb 5890
    rw [show sx_sr 5890 = (0, 60) from by decide +kernel] at h0
    exact h0
  have b6146 : 0 ≤ σ 6146 ∧ σ 6146 ≤ 60 := by
    have h0 := hb 6146
    rw [show sx_sr 6146 = (0, 60) from by decide +kernel] at h0
    exact h0
  obtain ⟨hs, ht, hf, hr, hm, hw⟩ := hW
  have e1 : τ 19001 = a1 := by rw [ht 19001 (by decide) (by decide)]; exact h1
  have e2 : τ 19002 = a2 := by rw [ht 19002 (by decide) (by decide)]; exact h2
  have e3 : τ 19003 = a3 := by rw [ht 19003 (by decide) (by decide)]; exact h3
  have e4 : τ 19004 = a4 := by rw [ht 19004 (by decide) (by decide)]; exact h4
  have e5 : τ 19005 = a5 := by rw [ht 19005 (by decide) (by decide)]; exact h5
  have s5377 : τ 5377 = σ 5377 := hs 5377 (by decide)
  have s5378 : τ 5378 = σ 5378 := hs 5378 (by decide)
  have s5633 : τ 5633 = σ 5633 := hs 5633 (by decide)
  have s5634 : τ 5634 = σ 5634 := hs 5634 (by decide)
  have s5889 : τ 5889 = σ 5889 := hs 5889 (by decide)
  have s5890 : τ 5890 = σ 5890 := hs 5890 (by decide)
  have s6145 : τ 6145 = σ 6145 := hs 6145 (by decide)
  have s6146 : τ 6146 = σ 6146 := hs 6146 (by decide)
  clear hs ht hb
  rw [hx] at hr
  obtain ⟨y, hy, hv⟩ := hr
  cases hy
  replace hv : x.toInt = 0 + 0 := hv
  have f0 : 0 ≤ 0 + (1 * τ 19001 + 0) := hf _ (List.Mem.head _)
  have f1 : 0 ≤ 3 + ((-1) * τ 19001 + 0) := hf _ (List.Mem.tail _ (List.Mem.head _))
  have f2 : 0 ≤ (-1) + ((-1) * τ 19003 + 0) := hf _ (List.Mem.tail _ (List.Mem.tail _ (List.Mem.head _)))
  clear hf hm
  refine Or.inr ⟨by omega, fun h => ?_⟩
  obtain ⟨z0, z1, z2, z3, z4, z5, z6, z7, z8, z9, z10, z11⟩ := h
  omega
theorem lw_px_3 {as : List rv_A} {σ σ' : Nat → Int} {o : rv_O} {x : Int32} {a1 a2 a3 a4 a5 : Int} {τ : Nat → Int} (hx : o.1 = some (.inl x)) (h1 : lw_av as 1 = a1) (h2 : lw_av as 2 = a2) (h3 : lw_av as 3 = a3) (h4 : lw_av as 4 = a4) (h5 : lw_av as 5 = a5) (hb : ∀ s, (sx_sr s).1 ≤ σ s ∧ σ s ≤ (sx_sr s).2) (hW : lw_W ([], [(0, [(19001, 1)]), (3, [(19001, (-1))]), ((-4), [(19003, 1)])], [(9, (1, []))], some (false, (0, []))) as σ σ' τ o) : lw_px_C a1 a2 a3 a4 a5 x.toInt σ σ' := by
  unfold lw_px_C
  have b5377 : (-1) ≤ σ 5377 ∧ σ 5377 ≤ 3 := by
    have h0 := hb 5377
    rw [show sx_sr 5377 = ((-1), 3) from by decide +kernel] at h0
    exact h0
  have b5633 : (-1) ≤ σ 5633 ∧ σ 5633 ≤ 3 := by
    have h0 := hb 5633
    rw [show sx_sr 5633 = ((-1), 3) from by decide +kernel] at h0
    exact h0
  have b5889 : (-1) ≤ σ 5889 ∧ σ 5889 ≤ 3 := by
    have h0 := hb 5889
    rw [show sx_sr 5889 = ((-1), 3) from by decide +kernel] at h0
    exact h0
  have b6145 : (-1) ≤ σ 6145 ∧ σ 6145 ≤ 3 := by
    have h0 := hb 6145
    rw [show sx_sr 6145 = ((-1), 3) from by decide +kernel] at h0
    exact h0
  have b5378 : 0 ≤ σ 5378 ∧ σ 5378 ≤ 60 := by
    have h0 := hb 5378
    rw [show sx_sr 5378 = (0, 60) from by decide +kernel] at h0
    exact h0
  have b5634 : 0 ≤ σ 5634 ∧ σ 5634 ≤ 60 := by
    have h0 := hb 5634
    rw [show sx_sr 5634 = (0, 60) from by decide +kernel] at h0
    exact h0
  have b5890 : 0 ≤ σ 5890 ∧ σ 5890 ≤ 60 := by
    have h0 := hb 5890
    rw [show sx_sr 5890 = (0, 60) from by decide +kernel] at h0
    exact h0
  have b6146 : 0 ≤ σ 6146 ∧ σ 6146 ≤ 60 := by
    have h0 := hb 6146
    rw [show sx_sr 6146 = (0, 60) from by decide +kernel] at h0
    exact h0
  obtain ⟨hs, ht, hf, hr, hm, hw⟩ := hW
  have e1 : τ 19001 = a1 := by rw [ht 19001 (by decide) (by decide)]; exact h1
  have e2 : τ 19002 = a2 := by rw [ht 19002 (by decide) (by decide)]; exact h2
  have e3 : τ 19003 = a3 := by rw [ht 19003 (by decide) (by decide)]; exact h3
  have e4 : τ 19004 = a4 := by rw [ht 19004 (by decide) (by decide)]; exact h4
  have e5 : τ 19005 = a5 := by rw [ht 19005 (by decide) (by decide)]; exact h5
  have s5377 : τ 5377 = σ 5377 := hs 5377 (by decide)
  have s5378 : τ 5378 = σ 5378 := hs 5378 (by decide)
  have s5633 : τ 5633 = σ 5633 := hs 5633 (by decide)
  have s5634 : τ 5634 = σ 5634 := hs 5634 (by decide)
  have s5889 : τ 5889 = σ 5889 := hs 5889 (by decide)
  have s5890 : τ 5890 = σ 5890 := hs 5890 (by decide)
  have s6145 : τ 6145 = σ 6145 := hs 6145 (by decide)
  have s6146 : τ 6146 = σ 6146 := hs 6146 (by decide)
  clear hs ht hb
  rw [hx] at hr
  obtain ⟨y, hy, hv⟩ := hr
  cases hy
  replace hv : x.toInt = 0 + 0 := hv
  have f0 : 0 ≤ 0 + (1 * τ 19001 + 0) := hf _ (List.Mem.head _)
  have f1 : 0 ≤ 3 + ((-1) * τ 19001 + 0) := hf _ (List.Mem.tail _ (List.Mem.head _))
  have f2 : 0 ≤ (-4) + (1 * τ 19003 + 0) := hf _ (List.Mem.tail _ (List.Mem.tail _ (List.Mem.head _)))
  clear hf hm
  refine Or.inr ⟨by omega, fun h => ?_⟩
  obtain ⟨z0, z1, z2, z3, z4, z5, z6, z7, z8, z9, z10, z11⟩ := h
  omega
theorem lw_px_4 {as : List rv_A} {σ σ' : Nat → Int} {o : rv_O} {x : Int32} {a1 a2 a3 a4 a5 : Int} {τ : Nat → Int} (hx : o.1 = some (.inl x)) (h1 : lw_av as 1 = a1) (h2 : lw_av as 2 = a2) (h3 : lw_av as 3 = a3) (h4 : lw_av as 4 = a4) (h5 : lw_av as 5 = a5) (hb : ∀ s, (sx_sr s).1 ≤ σ s ∧ σ s ≤ (sx_sr s).2) (hW : lw_W ([], [(0, [(19001, 1)]), (3, [(19001, (-1))]), (0, [(19002, 1)]), (0, [(19003, 1)]), (3, [(19003, (-1))]), ((-1), [(19004, (-1))])], [(9, (1, []))], some (false, (0, []))) as σ σ' τ o) : lw_px_C a1 a2 a3 a4 a5 x.toInt σ σ' := by
  unfold lw_px_C
  have b5377 : (-1) ≤ σ 5377 ∧ σ 5377 ≤ 3 := by
    have h0 := hb 5377
    rw [show sx_sr 5377 = ((-1), 3) from by decide +kernel] at h0
    exact h0
  have b5633 : (-1) ≤ σ 5633 ∧ σ 5633 ≤ 3 := by
    have h0 := hb 5633
    rw [show sx_sr 5633 = ((-1), 3) from by decide +kernel] at h0
    exact h0
  have b5889 : (-1) ≤ σ 5889 ∧ σ 5889 ≤ 3 := by
    have h0 := hb 5889
    rw [show sx_sr 5889 = ((-1), 3) from by decide +kernel] at h0
    exact h0
  have b6145 : (-1) ≤ σ 6145 ∧ σ 6145 ≤ 3 := by
    have h0 := hb 6145
    rw [show sx_sr 6145 = ((-1), 3) from by decide +kernel] at h0
    exact h0
  have b5378 : 0 ≤ σ 5378 ∧ σ 5378 ≤ 60 := by
    have h0 := hb 5378
    rw [show sx_sr 5378 = (0, 60) from by decide +kernel] at h0
    exact h0
  have b5634 : 0 ≤ σ 5634 ∧ σ 5634 ≤ 60 := by
    have h0 := hb 5634
    rw [show sx_sr 5634 = (0, 60) from by decide +kernel] at h0
    exact h0
  have b5890 : 0 ≤ σ 5890 ∧ σ 5890 ≤ 60 := by
    have h0 := hb 5890
    rw [show sx_sr 5890 = (0, 60) from by decide +kernel] at h0
    exact h0
  have b6146 : 0 ≤ σ 6146 ∧ σ 6146 ≤ 60 := by
    have h0 := hb 6146
    rw [show sx_sr 6146 = (0, 60) from by decide +kernel] at h0
    exact h0
  obtain ⟨hs, ht, hf, hr, hm, hw⟩ := hW
  have e1 : τ 19001 = a1 := by rw [ht 19001 (by decide) (by decide)]; exact h1
  have e2 : τ 19002 = a2 := by rw [ht 19002 (by decide) (by decide)]; exact h2
  have e3 : τ 19003 = a3 := by rw [ht 19003 (by decide) (by decide)]; exact h3
  have e4 : τ 19004 = a4 := by rw [ht 19004 (by decide) (by decide)]; exact h4
  have e5 : τ 19005 = a5 := by rw [ht 19005 (by decide) (by decide)]; exact h5
  have s5377 : τ 5377 = σ 5377 := hs 5377 (by decide)
  have s5378 : τ 5378 = σ 5378 := hs 5378 (by decide)
  have s5633 : τ 5633 = σ 5633 := hs 5633 (by decide)
  have s5634 : τ 5634 = σ 5634 := hs 5634 (by decide)
  have s5889 : τ 5889 = σ 5889 := hs 5889 (by decide)
  have s5890 : τ 5890 = σ 5890 := hs 5890 (by decide)
  have s6145 : τ 6145 = σ 6145 := hs 6145 (by decide)
  have s6146 : τ 6146 = σ 6146 := hs 6146 (by decide)
  clear hs ht hb
  rw [hx] at hr
  obtain ⟨y, hy, hv⟩ := hr
  cases hy
  replace hv : x.toInt = 0 + 0 := hv
  have f0 : 0 ≤ 0 + (1 * τ 19001 + 0) := hf _ (List.Mem.head _)
  have f1 : 0 ≤ 3 + ((-1) * τ 19001 + 0) := hf _ (List.Mem.tail _ (List.Mem.head _))
  have f2 : 0 ≤ 0 + (1 * τ 19002 + 0) := hf _ (List.Mem.tail _ (List.Mem.tail _ (List.Mem.head _)))
  have f3 : 0 ≤ 0 + (1 * τ 19003 + 0) := hf _ (List.Mem.tail _ (List.Mem.tail _ (List.Mem.tail _ (List.Mem.head _))))
  have f4 : 0 ≤ 3 + ((-1) * τ 19003 + 0) := hf _ (List.Mem.tail _ (List.Mem.tail _ (List.Mem.tail _ (List.Mem.tail _ (List.Mem.head _)))))
  have f5 : 0 ≤ (-1) + ((-1) * τ 19004 + 0) := hf _ (List.Mem.tail _ (List.Mem.tail _ (List.Mem.tail _ (List.Mem.tail _ (List.Mem.tail _ (List.Mem.head _))))))
  clear hf hm
  refine Or.inr ⟨by omega, fun h => ?_⟩
  obtain ⟨z0, z1, z2, z3, z4, z5, z6, z7, z8, z9, z10, z11⟩ := h
  omega
theorem lw_px_5 {as : List rv_A} {σ σ' : Nat → Int} {o : rv_O} {x : Int32} {a1 a2 a3 a4 a5 : Int} {τ : Nat → Int} (hx : o.1 = some (.inl x)) (h1 : lw_av as 1 = a1) (h2 : lw_av as 2 = a2) (h3 : lw_av as 3 = a3) (h4 : lw_av as 4 = a4) (h5 : lw_av as 5 = a5) (hb : ∀ s, (sx_sr s).1 ≤ σ s ∧ σ s ≤ (sx_sr s).2) (hW : lw_W ([], [(0, [(19001, 1)]), (3, [(19001, (-1))]), (0, [(19002, 1)]), (0, [(19003, 1)]), (3, [(19003, (-1))]), (0, [(19004, 1)]), ((-1), [(19005, (-1))])], [(9, (1, []))], some (false, (0, []))) as σ σ' τ o) : lw_px_C a1 a2 a3 a4 a5 x.toInt σ σ' := by
  unfold lw_px_C
  have b5377 : (-1) ≤ σ 5377 ∧ σ 5377 ≤ 3 := by
    have h0 := hb 5377
    rw [show sx_sr 5377 = ((-1), 3) from by decide +kernel] at h0
    exact h0
  have b5633 : (-1) ≤ σ 5633 ∧ σ 5633 ≤ 3 := by
    have h0 := hb 5633
    rw [show sx_sr 5633 = ((-1), 3) from by decide +kernel] at h0
    exact h0
  have b5889 : (-1) ≤ σ 5889 ∧ σ 5889 ≤ 3 := by
    have h0 := hb 5889
    rw [show sx_sr 5889 = ((-1), 3) from by decide +kernel] at h0
    exact h0
  have b6145 : (-1) ≤ σ 6145 ∧ σ 6145 ≤ 3 := by
    have h0 := hb 6145
    rw [show sx_sr 6145 = ((-1), 3) from by decide +kernel] at h0
    exact h0
  have b5378 : 0 ≤ σ 5378 ∧ σ 5378 ≤ 60 := by
    have h0 := hb 5378
    rw [show sx_sr 5378 = (0, 60) from by decide +kernel] at h0
    exact h0
  have b5634 : 0 ≤ σ 5634 ∧ σ 5634 ≤ 60 := by
    have h0 := hb 5634
    rw [show sx_sr 5634 = (0, 60) from by decide +kernel] at h0
    exact h0
  have b5890 : 0 ≤ σ 5890 ∧ σ 5890 ≤ 60 := by
    have h0 := hb 5890
    rw [show sx_sr 5890 = (0, 60) from by decide +kernel] at h0
    exact h0
  have b6146 : 0 ≤ σ 6146 ∧ σ 6146 ≤ 60 := by
    have h0 := hb 6146
    rw [show sx_sr 6146 = (0, 60) from by decide +kernel] at h0
    exact h0
  obtain ⟨hs, ht, hf, hr, hm, hw⟩ := hW
  have e1 : τ 19001 = a1 := by rw [ht 19001 (by decide) (by decide)]; exact h1
  have e2 : τ 19002 = a2 := by rw [ht 19002 (by decide) (by decide)]; exact h2
  have e3 : τ 19003 = a3 := by rw [ht 19003 (by decide) (by decide)]; exact h3
  have e4 : τ 19004 = a4 := by rw [ht 19004 (by decide) (by decide)]; exact h4
  have e5 : τ 19005 = a5 := by rw [ht 19005 (by decide) (by decide)]; exact h5
  have s5377 : τ 5377 = σ 5377 := hs 5377 (by decide)
  have s5378 : τ 5378 = σ 5378 := hs 5378 (by decide)
  have s5633 : τ 5633 = σ 5633 := hs 5633 (by decide)
  have s5634 : τ 5634 = σ 5634 := hs 5634 (by decide)
  have s5889 : τ 5889 = σ 5889 := hs 5889 (by decide)
  have s5890 : τ 5890 = σ 5890 := hs 5890 (by decide)
  have s6145 : τ 6145 = σ 6145 := hs 6145 (by decide)
  have s6146 : τ 6146 = σ 6146 := hs 6146 (by decide)
  clear hs ht hb
  rw [hx] at hr
  obtain ⟨y, hy, hv⟩ := hr
  cases hy
  replace hv : x.toInt = 0 + 0 := hv
  have f0 : 0 ≤ 0 + (1 * τ 19001 + 0) := hf _ (List.Mem.head _)
  have f1 : 0 ≤ 3 + ((-1) * τ 19001 + 0) := hf _ (List.Mem.tail _ (List.Mem.head _))
  have f2 : 0 ≤ 0 + (1 * τ 19002 + 0) := hf _ (List.Mem.tail _ (List.Mem.tail _ (List.Mem.head _)))
  have f3 : 0 ≤ 0 + (1 * τ 19003 + 0) := hf _ (List.Mem.tail _ (List.Mem.tail _ (List.Mem.tail _ (List.Mem.head _))))
  have f4 : 0 ≤ 3 + ((-1) * τ 19003 + 0) := hf _ (List.Mem.tail _ (List.Mem.tail _ (List.Mem.tail _ (List.Mem.tail _ (List.Mem.head _)))))
  have f5 : 0 ≤ 0 + (1 * τ 19004 + 0) := hf _ (List.Mem.tail _ (List.Mem.tail _ (List.Mem.tail _ (List.Mem.tail _ (List.Mem.tail _ (List.Mem.head _))))))
  have f6 : 0 ≤ (-1) + ((-1) * τ 19005 + 0) := hf _ (List.Mem.tail _ (List.Mem.tail _ (List.Mem.tail _ (List.Mem.tail _ (List.Mem.tail _ (List.Mem.tail _ (List.Mem.head _)))))))
  clear hf hm
  refine Or.inr ⟨by omega, fun h => ?_⟩
  obtain ⟨z0, z1, z2, z3, z4, z5, z6, z7, z8, z9, z10, z11⟩ := h
  omega
theorem lw_px_6 {as : List rv_A} {σ σ' : Nat → Int} {o : rv_O} {x : Int32} {a1 a2 a3 a4 a5 : Int} {τ : Nat → Int} (hx : o.1 = some (.inl x)) (h1 : lw_av as 1 = a1) (h2 : lw_av as 2 = a2) (h3 : lw_av as 3 = a3) (h4 : lw_av as 4 = a4) (h5 : lw_av as 5 = a5) (hb : ∀ s, (sx_sr s).1 ≤ σ s ∧ σ s ≤ (sx_sr s).2) (hW : lw_W ([], [((-4), [(19001, 1)])], [(9, (1, []))], some (false, (0, []))) as σ σ' τ o) : lw_px_C a1 a2 a3 a4 a5 x.toInt σ σ' := by
  unfold lw_px_C
  have b5377 : (-1) ≤ σ 5377 ∧ σ 5377 ≤ 3 := by
    have h0 := hb 5377
    rw [show sx_sr 5377 = ((-1), 3) from by decide +kernel] at h0
    exact h0
  have b5633 : (-1) ≤ σ 5633 ∧ σ 5633 ≤ 3 := by
    have h0 := hb 5633
    rw [show sx_sr 5633 = ((-1), 3) from by decide +kernel] at h0
    exact h0
  have b5889 : (-1) ≤ σ 5889 ∧ σ 5889 ≤ 3 := by
    have h0 := hb 5889
    rw [show sx_sr 5889 = ((-1), 3) from by decide +kernel] at h0
    exact h0
  have b6145 : (-1) ≤ σ 6145 ∧ σ 6145 ≤ 3 := by
    have h0 := hb 6145
    rw [show sx_sr 6145 = ((-1), 3) from by decide +kernel] at h0
    exact h0
  have b5378 : 0 ≤ σ 5378 ∧ σ 5378 ≤ 60 := by
    have h0 := hb 5378
    rw [show sx_sr 5378 = (0, 60) from by decide +kernel] at h0
    exact h0
  have b5634 : 0 ≤ σ 5634 ∧ σ 5634 ≤ 60 := by
    have h0 := hb 5634
    rw [show sx_sr 5634 = (0, 60) from by decide +kernel] at h0
    exact h0
  have b5890 : 0 ≤ σ 5890 ∧ σ 5890 ≤ 60 := by
    have h0 := hb 5890
    rw [show sx_sr 5890 = (0, 60) from by decide +kernel] at h0
    exact h0
  have b6146 : 0 ≤ σ 6146 ∧ σ 6146 ≤ 60 := by
    have h0 := hb 6146
    rw [show sx_sr 6146 = (0, 60) from by decide +kernel] at h0
    exact h0
  obtain ⟨hs, ht, hf, hr, hm, hw⟩ := hW
  have e1 : τ 19001 = a1 := by rw [ht 19001 (by decide) (by decide)]; exact h1
  have e2 : τ 19002 = a2 := by rw [ht 19002 (by decide) (by decide)]; exact h2
  have e3 : τ 19003 = a3 := by rw [ht 19003 (by decide) (by decide)]; exact h3
  have e4 : τ 19004 = a4 := by rw [ht 19004 (by decide) (by decide)]; exact h4
  have e5 : τ 19005 = a5 := by rw [ht 19005 (by decide) (by decide)]; exact h5
  have s5377 : τ 5377 = σ 5377 := hs 5377 (by decide)
  have s5378 : τ 5378 = σ 5378 := hs 5378 (by decide)
  have s5633 : τ 5633 = σ 5633 := hs 5633 (by decide)
  have s5634 : τ 5634 = σ 5634 := hs 5634 (by decide)
  have s5889 : τ 5889 = σ 5889 := hs 5889 (by decide)
  have s5890 : τ 5890 = σ 5890 := hs 5890 (by decide)
  have s6145 : τ 6145 = σ 6145 := hs 6145 (by decide)
  have s6146 : τ 6146 = σ 6146 := hs 6146 (by decide)
  clear hs ht hb
  rw [hx] at hr
  obtain ⟨y, hy, hv⟩ := hr
  cases hy
  replace hv : x.toInt = 0 + 0 := hv
  have f0 : 0 ≤ (-4) + (1 * τ 19001 + 0) := hf _ (List.Mem.head _)
  clear hf hm
  refine Or.inr ⟨by omega, fun h => ?_⟩
  obtain ⟨z0, z1, z2, z3, z4, z5, z6, z7, z8, z9, z10, z11⟩ := h
  omega
theorem lw_px_7 {as : List rv_A} {σ σ' : Nat → Int} {o : rv_O} {x : Int32} {a1 a2 a3 a4 a5 : Int} {τ : Nat → Int} (hx : o.1 = some (.inl x)) (h1 : lw_av as 1 = a1) (h2 : lw_av as 2 = a2) (h3 : lw_av as 3 = a3) (h4 : lw_av as 4 = a4) (h5 : lw_av as 5 = a5) (hb : ∀ s, (sx_sr s).1 ≤ σ s ∧ σ s ≤ (sx_sr s).2) (hW : lw_W ([], [((-1), [(5377, (-1))]), (0, [(19001, 1)]), (0, [(19001, (-1))]), (0, [(19002, 1)]), (0, [(19003, 1)]), (0, [(19003, (-1))]), (0, [(19004, 1)]), (0, [(19005, 1)])], [(9, (2, []))], some (false, (0, []))) as σ σ' τ o) : lw_px_C a1 a2 a3 a4 a5 x.toInt σ σ' := by
  unfold lw_px_C
  have b5377 : (-1) ≤ σ 5377 ∧ σ 5377 ≤ 3 := by
    have h0 := hb 5377
    rw [show sx_sr 5377 = ((-1), 3) from by decide +kernel] at h0
    exact h0
  have b5633 : (-1) ≤ σ 5633 ∧ σ 5633 ≤ 3 := by
    have h0 := hb 5633
    rw [show sx_sr 5633 = ((-1), 3) from by decide +kernel] at h0
    exact h0
  have b5889 : (-1) ≤ σ 5889 ∧ σ 5889 ≤ 3 := by
    have h0 := hb 5889
    rw [show sx_sr 5889 = ((-1), 3) from by decide +kernel] at h0
    exact h0
  have b6145 : (-1) ≤ σ 6145 ∧ σ 6145 ≤ 3 := by
    have h0 := hb 6145
    rw [show sx_sr 6145 = ((-1), 3) from by decide +kernel] at h0
    exact h0
  have b5378 : 0 ≤ σ 5378 ∧ σ 5378 ≤ 60 := by
    have h0 := hb 5378
    rw [show sx_sr 5378 = (0, 60) from by decide +kernel] at h0
    exact h0
  have b5634 : 0 ≤ σ 5634 ∧ σ 5634 ≤ 60 := by
    have h0 := hb 5634
    rw [show sx_sr 5634 = (0, 60) from by decide +kernel] at h0
    exact h0
  have b5890 : 0 ≤ σ 5890 ∧ σ 5890 ≤ 60 := by
    have h0 := hb 5890
    rw [show sx_sr 5890 = (0, 60) from by decide +kernel] at h0
    exact h0
  have b6146 : 0 ≤ σ 6146 ∧ σ 6146 ≤ 60 := by
    have h0 := hb 6146
    rw [show sx_sr 6146 = (0, 60) from by decide +kernel] at h0
    exact h0
  obtain ⟨hs, ht, hf, hr, hm, hw⟩ := hW
  have e1 : τ 19001 = a1 := by rw [ht 19001 (by decide) (by decide)]; exact h1
  have e2 : τ 19002 = a2 := by rw [ht 19002 (by decide) (by decide)]; exact h2
  have e3 : τ 19003 = a3 := by rw [ht 19003 (by decide) (by decide)]; exact h3
  have e4 : τ 19004 = a4 := by rw [ht 19004 (by decide) (by decide)]; exact h4
  have e5 : τ 19005 = a5 := by rw [ht 19005 (by decide) (by decide)]; exact h5
  have s5377 : τ 5377 = σ 5377 := hs 5377 (by decide)
  have s5378 : τ 5378 = σ 5378 := hs 5378 (by decide)
  have s5633 : τ 5633 = σ 5633 := hs 5633 (by decide)
  have s5634 : τ 5634 = σ 5634 := hs 5634 (by decide)
  have s5889 : τ 5889 = σ 5889 := hs 5889 (by decide)
  have s5890 : τ 5890 = σ 5890 := hs 5890 (by decide)
  have s6145 : τ 6145 = σ 6145 := hs 6145 (by decide)
  have s6146 : τ 6146 = σ 6146 := hs 6146 (by decide)
  clear hs ht hb
  rw [hx] at hr
  obtain ⟨y, hy, hv⟩ := hr
  cases hy
  replace hv : x.toInt = 0 + 0 := hv
  have f0 : 0 ≤ (-1) + ((-1) * τ 5377 + 0) := hf _ (List.Mem.head _)
  have f1 : 0 ≤ 0 + (1 * τ 19001 + 0) := hf _ (List.Mem.tail _ (List.Mem.head _))
  have f2 : 0 ≤ 0 + ((-1) * τ 19001 + 0) := hf _ (List.Mem.tail _ (List.Mem.tail _ (List.Mem.head _)))
  have f3 : 0 ≤ 0 + (1 * τ 19002 + 0) := hf _ (List.Mem.tail _ (List.Mem.tail _ (List.Mem.tail _ (List.Mem.head _))))
  have f4 : 0 ≤ 0 + (1 * τ 19003 + 0) := hf _ (List.Mem.tail _ (List.Mem.tail _ (List.Mem.tail _ (List.Mem.tail _ (List.Mem.head _)))))
  have f5 : 0 ≤ 0 + ((-1) * τ 19003 + 0) := hf _ (List.Mem.tail _ (List.Mem.tail _ (List.Mem.tail _ (List.Mem.tail _ (List.Mem.tail _ (List.Mem.head _))))))
  have f6 : 0 ≤ 0 + (1 * τ 19004 + 0) := hf _ (List.Mem.tail _ (List.Mem.tail _ (List.Mem.tail _ (List.Mem.tail _ (List.Mem.tail _ (List.Mem.tail _ (List.Mem.head _)))))))
  have f7 : 0 ≤ 0 + (1 * τ 19005 + 0) := hf _ (List.Mem.tail _ (List.Mem.tail _ (List.Mem.tail _ (List.Mem.tail _ (List.Mem.tail _ (List.Mem.tail _ (List.Mem.tail _ (List.Mem.head _))))))))
  clear hf hm
  have ej : a1 = 0 := by omega
  subst ej
  have ek : a3 = 0 := by omega
  subst ek
  simp only [lw_sel0, lw_sel1, lw_sel2, lw_sel3]
  refine Or.inr ⟨by omega, fun h => ?_⟩
  obtain ⟨z0, z1, z2, z3, z4, z5, z6, z7, z8, z9, z10, z11⟩ := h
  omega
theorem lw_px_8 {as : List rv_A} {σ σ' : Nat → Int} {o : rv_O} {x : Int32} {a1 a2 a3 a4 a5 : Int} {τ : Nat → Int} (hx : o.1 = some (.inl x)) (h1 : lw_av as 1 = a1) (h2 : lw_av as 2 = a2) (h3 : lw_av as 3 = a3) (h4 : lw_av as 4 = a4) (h5 : lw_av as 5 = a5) (hb : ∀ s, (sx_sr s).1 ≤ σ s ∧ σ s ≤ (sx_sr s).2) (hW : lw_W ([], [((-1), [(5377, (-1))]), (0, [(19001, 1)]), (0, [(19001, (-1))]), (0, [(19002, 1)]), ((-1), [(19003, 1)]), (1, [(19003, (-1))]), (0, [(19004, 1)]), (0, [(19005, 1)])], [(9, (2, []))], some (false, (0, []))) as σ σ' τ o) : lw_px_C a1 a2 a3 a4 a5 x.toInt σ σ' := by
  unfold lw_px_C
  have b5377 : (-1) ≤ σ 5377 ∧ σ 5377 ≤ 3 := by
    have h0 := hb 5377
    rw [show sx_sr 5377 = ((-1), 3) from by decide +kernel] at h0
    exact h0
  have b5633 : (-1) ≤ σ 5633 ∧ σ 5633 ≤ 3 := by
    have h0 := hb 5633
    rw [show sx_sr 5633 = ((-1), 3) from by decide +kernel] at h0
    exact h0
  have b5889 : (-1) ≤ σ 5889 ∧ σ 5889 ≤ 3 := by
    have h0 := hb 5889
    rw [show sx_sr 5889 = ((-1), 3) from by decide +kernel] at h0
    exact h0
  have b6145 : (-1) ≤ σ 6145 ∧ σ 6145 ≤ 3 := by
    have h0 := hb 6145
    rw [show sx_sr 6145 = ((-1), 3) from by decide +kernel] at h0
    exact h0
  have b5378 : 0 ≤ σ 5378 ∧ σ 5378 ≤ 60 := by
    have h0 := hb 5378
    rw [show sx_sr 5378 = (0, 60) from by decide +kernel] at h0
    exact h0
  have b5634 : 0 ≤ σ 5634 ∧ σ 5634 ≤ 60 := by
    have h0 := hb 5634
    rw [show sx_sr 5634 = (0, 60) from by decide +kernel] at h0
    exact h0
  have b5890 : 0 ≤ σ 5890 ∧ σ 5890 ≤ 60 := by
    have h0 := hb 5890
    rw [show sx_sr 5890 = (0, 60) from by decide +kernel] at h0
    exact h0
  have b6146 : 0 ≤ σ 6146 ∧ σ 6146 ≤ 60 := by
    have h0 := hb 6146
    rw [show sx_sr 6146 = (0, 60) from by decide +kernel] at h0
    exact h0
  obtain ⟨hs, ht, hf, hr, hm, hw⟩ := hW
  have e1 : τ 19001 = a1 := by rw [ht 19001 (by decide) (by decide)]; exact h1
  have e2 : τ 19002 = a2 := by rw [ht 19002 (by decide) (by decide)]; exact h2
  have e3 : τ 19003 = a3 := by rw [ht 19003 (by decide) (by decide)]; exact h3
  have e4 : τ 19004 = a4 := by rw [ht 19004 (by decide) (by decide)]; exact h4
  have e5 : τ 19005 = a5 := by rw [ht 19005 (by decide) (by decide)]; exact h5
  have s5377 : τ 5377 = σ 5377 := hs 5377 (by decide)
  have s5378 : τ 5378 = σ 5378 := hs 5378 (by decide)
  have s5633 : τ 5633 = σ 5633 := hs 5633 (by decide)
  have s5634 : τ 5634 = σ 5634 := hs 5634 (by decide)
  have s5889 : τ 5889 = σ 5889 := hs 5889 (by decide)
  have s5890 : τ 5890 = σ 5890 := hs 5890 (by decide)
  have s6145 : τ 6145 = σ 6145 := hs 6145 (by decide)
  have s6146 : τ 6146 = σ 6146 := hs 6146 (by decide)
  clear hs ht hb
  rw [hx] at hr
  obtain ⟨y, hy, hv⟩ := hr
  cases hy
  replace hv : x.toInt = 0 + 0 := hv
  have f0 : 0 ≤ (-1) + ((-1) * τ 5377 + 0) := hf _ (List.Mem.head _)
  have f1 : 0 ≤ 0 + (1 * τ 19001 + 0) := hf _ (List.Mem.tail _ (List.Mem.head _))
  have f2 : 0 ≤ 0 + ((-1) * τ 19001 + 0) := hf _ (List.Mem.tail _ (List.Mem.tail _ (List.Mem.head _)))
  have f3 : 0 ≤ 0 + (1 * τ 19002 + 0) := hf _ (List.Mem.tail _ (List.Mem.tail _ (List.Mem.tail _ (List.Mem.head _))))
  have f4 : 0 ≤ (-1) + (1 * τ 19003 + 0) := hf _ (List.Mem.tail _ (List.Mem.tail _ (List.Mem.tail _ (List.Mem.tail _ (List.Mem.head _)))))
  have f5 : 0 ≤ 1 + ((-1) * τ 19003 + 0) := hf _ (List.Mem.tail _ (List.Mem.tail _ (List.Mem.tail _ (List.Mem.tail _ (List.Mem.tail _ (List.Mem.head _))))))
  have f6 : 0 ≤ 0 + (1 * τ 19004 + 0) := hf _ (List.Mem.tail _ (List.Mem.tail _ (List.Mem.tail _ (List.Mem.tail _ (List.Mem.tail _ (List.Mem.tail _ (List.Mem.head _)))))))
  have f7 : 0 ≤ 0 + (1 * τ 19005 + 0) := hf _ (List.Mem.tail _ (List.Mem.tail _ (List.Mem.tail _ (List.Mem.tail _ (List.Mem.tail _ (List.Mem.tail _ (List.Mem.tail _ (List.Mem.head _))))))))
  clear hf hm
  have ej : a1 = 0 := by omega
  subst ej
  have ek : a3 = 1 := by omega
  subst ek
  simp only [lw_sel0, lw_sel1, lw_sel2, lw_sel3]
  refine Or.inr ⟨by omega, fun h => ?_⟩
  obtain ⟨z0, z1, z2, z3, z4, z5, z6, z7, z8, z9, z10, z11⟩ := h
  omega
theorem lw_px_9 {as : List rv_A} {σ σ' : Nat → Int} {o : rv_O} {x : Int32} {a1 a2 a3 a4 a5 : Int} {τ : Nat → Int} (hx : o.1 = some (.inl x)) (h1 : lw_av as 1 = a1) (h2 : lw_av as 2 = a2) (h3 : lw_av as 3 = a3) (h4 : lw_av as 4 = a4) (h5 : lw_av as 5 = a5) (hb : ∀ s, (sx_sr s).1 ≤ σ s ∧ σ s ≤ (sx_sr s).2) (hW : lw_W ([], [((-1), [(5377, (-1))]), (0, [(19001, 1)]), (0, [(19001, (-1))]), (0, [(19002, 1)]), ((-2), [(19003, 1)]), (2, [(19003, (-1))]), (0, [(19004, 1)]), (0, [(19005, 1)])], [(9, (2, []))], some (false, (0, []))) as σ σ' τ o) : lw_px_C a1 a2 a3 a4 a5 x.toInt σ σ' := by
  unfold lw_px_C
  have b5377 : (-1) ≤ σ 5377 ∧ σ 5377 ≤ 3 := by
    have h0 := hb 5377
    rw [show sx_sr 5377 = ((-1), 3) from by decide +kernel] at h0
    exact h0
  have b5633 : (-1) ≤ σ 5633 ∧ σ 5633 ≤ 3 := by
    have h0 := hb 5633
    rw [show sx_sr 5633 = ((-1), 3) from by decide +kernel] at h0
    exact h0
  have b5889 : (-1) ≤ σ 5889 ∧ σ 5889 ≤ 3 := by
    have h0 := hb 5889
    rw [show sx_sr 5889 = ((-1), 3) from by decide +kernel] at h0
    exact h0
  have b6145 : (-1) ≤ σ 6145 ∧ σ 6145 ≤ 3 := by
    have h0 := hb 6145
    rw [show sx_sr 6145 = ((-1), 3) from by decide +kernel] at h0
    exact h0
  have b5378 : 0 ≤ σ 5378 ∧ σ 5378 ≤ 60 := by
    have h0 := hb 5378
    rw [show sx_sr 5378 = (0, 60) from by decide +kernel] at h0
    exact h0
  have b5634 : 0 ≤ σ 5634 ∧ σ 5634 ≤ 60 := by
    have h0 := hb 5634
    rw [show sx_sr 5634 = (0, 60) from by decide +kernel] at h0
    exact h0
  have b5890 : 0 ≤ σ 5890 ∧ σ 5890 ≤ 60 := by
    have h0 := hb 5890
    rw [show sx_sr 5890 = (0, 60) from by decide +kernel] at h0
    exact h0
  have b6146 : 0 ≤ σ 6146 ∧ σ 6146 ≤ 60 := by
    have h0 := hb 6146
    rw [show sx_sr 6146 = (0, 60) from by decide +kernel] at h0
    exact h0
  obtain ⟨hs, ht, hf, hr, hm, hw⟩ := hW
  have e1 : τ 19001 = a1 := by rw [ht 19001 (by decide) (by decide)]; exact h1
  have e2 : τ 19002 = a2 := by rw [ht 19002 (by decide) (by decide)]; exact h2
  have e3 : τ 19003 = a3 := by rw [ht 19003 (by decide) (by decide)]; exact h3
  have e4 : τ 19004 = a4 := by rw [ht 19004 (by decide) (by decide)]; exact h4
  have e5 : τ 19005 = a5 := by rw [ht 19005 (by decide) (by decide)]; exact h5
  have s5377 : τ 5377 = σ 5377 := hs 5377 (by decide)
  have s5378 : τ 5378 = σ 5378 := hs 5378 (by decide)
  have s5633 : τ 5633 = σ 5633 := hs 5633 (by decide)
  have s5634 : τ 5634 = σ 5634 := hs 5634 (by decide)
  have s5889 : τ 5889 = σ 5889 := hs 5889 (by decide)
  have s5890 : τ 5890 = σ 5890 := hs 5890 (by decide)
  have s6145 : τ 6145 = σ 6145 := hs 6145 (by decide)
  have s6146 : τ 6146 = σ 6146 := hs 6146 (by decide)
  clear hs ht hb
  rw [hx] at hr
  obtain ⟨y, hy, hv⟩ := hr
  cases hy
  replace hv : x.toInt = 0 + 0 := hv
  have f0 : 0 ≤ (-1) + ((-1) * τ 5377 + 0) := hf _ (List.Mem.head _)
  have f1 : 0 ≤ 0 + (1 * τ 19001 + 0) := hf _ (List.Mem.tail _ (List.Mem.head _))
  have f2 : 0 ≤ 0 + ((-1) * τ 19001 + 0) := hf _ (List.Mem.tail _ (List.Mem.tail _ (List.Mem.head _)))
  have f3 : 0 ≤ 0 + (1 * τ 19002 + 0) := hf _ (List.Mem.tail _ (List.Mem.tail _ (List.Mem.tail _ (List.Mem.head _))))
  have f4 : 0 ≤ (-2) + (1 * τ 19003 + 0) := hf _ (List.Mem.tail _ (List.Mem.tail _ (List.Mem.tail _ (List.Mem.tail _ (List.Mem.head _)))))
  have f5 : 0 ≤ 2 + ((-1) * τ 19003 + 0) := hf _ (List.Mem.tail _ (List.Mem.tail _ (List.Mem.tail _ (List.Mem.tail _ (List.Mem.tail _ (List.Mem.head _))))))
  have f6 : 0 ≤ 0 + (1 * τ 19004 + 0) := hf _ (List.Mem.tail _ (List.Mem.tail _ (List.Mem.tail _ (List.Mem.tail _ (List.Mem.tail _ (List.Mem.tail _ (List.Mem.head _)))))))
  have f7 : 0 ≤ 0 + (1 * τ 19005 + 0) := hf _ (List.Mem.tail _ (List.Mem.tail _ (List.Mem.tail _ (List.Mem.tail _ (List.Mem.tail _ (List.Mem.tail _ (List.Mem.tail _ (List.Mem.head _))))))))
  clear hf hm
  have ej : a1 = 0 := by omega
  subst ej
  have ek : a3 = 2 := by omega
  subst ek
  simp only [lw_sel0, lw_sel1, lw_sel2, lw_sel3]
  refine Or.inr ⟨by omega, fun h => ?_⟩
  obtain ⟨z0, z1, z2, z3, z4, z5, z6, z7, z8, z9, z10, z11⟩ := h
  omega
theorem lw_px_10 {as : List rv_A} {σ σ' : Nat → Int} {o : rv_O} {x : Int32} {a1 a2 a3 a4 a5 : Int} {τ : Nat → Int} (hx : o.1 = some (.inl x)) (h1 : lw_av as 1 = a1) (h2 : lw_av as 2 = a2) (h3 : lw_av as 3 = a3) (h4 : lw_av as 4 = a4) (h5 : lw_av as 5 = a5) (hb : ∀ s, (sx_sr s).1 ≤ σ s ∧ σ s ≤ (sx_sr s).2) (hW : lw_W ([], [((-1), [(5377, (-1))]), (0, [(19001, 1)]), (0, [(19001, (-1))]), (0, [(19002, 1)]), ((-3), [(19003, 1)]), (3, [(19003, (-1))]), (0, [(19004, 1)]), (0, [(19005, 1)])], [(9, (2, []))], some (false, (0, []))) as σ σ' τ o) : lw_px_C a1 a2 a3 a4 a5 x.toInt σ σ' := by
  unfold lw_px_C
  have b5377 : (-1) ≤ σ 5377 ∧ σ 5377 ≤ 3 := by
    have h0 := hb 5377
    rw [show sx_sr 5377 = ((-1), 3) from by decide +kernel] at h0
    exact h0
  have b5633 : (-1) ≤ σ 5633 ∧ σ 5633 ≤ 3 := by
    have h0 := hb 5633
    rw [show sx_sr 5633 = ((-1), 3) from by decide +kernel] at h0
    exact h0
  have b5889 : (-1) ≤ σ 5889 ∧ σ 5889 ≤ 3 := by
    have h0 := hb 5889
    rw [show sx_sr 5889 = ((-1), 3) from by decide +kernel] at h0
    exact h0
  have b6145 : (-1) ≤ σ 6145 ∧ σ 6145 ≤ 3 := by
    have h0 := hb 6145
    rw [show sx_sr 6145 = ((-1), 3) from by decide +kernel] at h0
    exact h0
  have b5378 : 0 ≤ σ 5378 ∧ σ 5378 ≤ 60 := by
    have h0 := hb 5378
    rw [show sx_sr 5378 = (0, 60) from by decide +kernel] at h0
    exact h0
  have b5634 : 0 ≤ σ 5634 ∧ σ 5634 ≤ 60 := by
    have h0 := hb 5634
    rw [show sx_sr 5634 = (0, 60) from by decide +kernel] at h0
    exact h0
  have b5890 : 0 ≤ σ 5890 ∧ σ 5890 ≤ 60 := by
    have h0 := hb 5890
    rw [show sx_sr 5890 = (0, 60) from by decide +kernel] at h0
    exact h0
  have b6146 : 0 ≤ σ 6146 ∧ σ 6146 ≤ 60 := by
    have h0 := hb 6146
    rw [show sx_sr 6146 = (0, 60) from by decide +kernel] at h0
    exact h0
  obtain ⟨hs, ht, hf, hr, hm, hw⟩ := hW
  have e1 : τ 19001 = a1 := by rw [ht 19001 (by decide) (by decide)]; exact h1
  have e2 : τ 19002 = a2 := by rw [ht 19002 (by decide) (by decide)]; exact h2
  have e3 : τ 19003 = a3 := by rw [ht 19003 (by decide) (by decide)]; exact h3
  have e4 : τ 19004 = a4 := by rw [ht 19004 (by decide) (by decide)]; exact h4
  have e5 : τ 19005 = a5 := by rw [ht 19005 (by decide) (by decide)]; exact h5
  have s5377 : τ 5377 = σ 5377 := hs 5377 (by decide)
  have s5378 : τ 5378 = σ 5378 := hs 5378 (by decide)
  have s5633 : τ 5633 = σ 5633 := hs 5633 (by decide)
  have s5634 : τ 5634 = σ 5634 := hs 5634 (by decide)
  have s5889 : τ 5889 = σ 5889 := hs 5889 (by decide)
  have s5890 : τ 5890 = σ 5890 := hs 5890 (by decide)
  have s6145 : τ 6145 = σ 6145 := hs 6145 (by decide)
  have s6146 : τ 6146 = σ 6146 := hs 6146 (by decide)
  clear hs ht hb
  rw [hx] at hr
  obtain ⟨y, hy, hv⟩ := hr
  cases hy
  replace hv : x.toInt = 0 + 0 := hv
  have f0 : 0 ≤ (-1) + ((-1) * τ 5377 + 0) := hf _ (List.Mem.head _)
  have f1 : 0 ≤ 0 + (1 * τ 19001 + 0) := hf _ (List.Mem.tail _ (List.Mem.head _))
  have f2 : 0 ≤ 0 + ((-1) * τ 19001 + 0) := hf _ (List.Mem.tail _ (List.Mem.tail _ (List.Mem.head _)))
  have f3 : 0 ≤ 0 + (1 * τ 19002 + 0) := hf _ (List.Mem.tail _ (List.Mem.tail _ (List.Mem.tail _ (List.Mem.head _))))
  have f4 : 0 ≤ (-3) + (1 * τ 19003 + 0) := hf _ (List.Mem.tail _ (List.Mem.tail _ (List.Mem.tail _ (List.Mem.tail _ (List.Mem.head _)))))
  have f5 : 0 ≤ 3 + ((-1) * τ 19003 + 0) := hf _ (List.Mem.tail _ (List.Mem.tail _ (List.Mem.tail _ (List.Mem.tail _ (List.Mem.tail _ (List.Mem.head _))))))
  have f6 : 0 ≤ 0 + (1 * τ 19004 + 0) := hf _ (List.Mem.tail _ (List.Mem.tail _ (List.Mem.tail _ (List.Mem.tail _ (List.Mem.tail _ (List.Mem.tail _ (List.Mem.head _)))))))
  have f7 : 0 ≤ 0 + (1 * τ 19005 + 0) := hf _ (List.Mem.tail _ (List.Mem.tail _ (List.Mem.tail _ (List.Mem.tail _ (List.Mem.tail _ (List.Mem.tail _ (List.Mem.tail _ (List.Mem.head _))))))))
  clear hf hm
  have ej : a1 = 0 := by omega
  subst ej
  have ek : a3 = 3 := by omega
  subst ek
  simp only [lw_sel0, lw_sel1, lw_sel2, lw_sel3]
  refine Or.inr ⟨by omega, fun h => ?_⟩
  obtain ⟨z0, z1, z2, z3, z4, z5, z6, z7, z8, z9, z10, z11⟩ := h
  omega
theorem lw_px_11 {as : List rv_A} {σ σ' : Nat → Int} {o : rv_O} {x : Int32} {a1 a2 a3 a4 a5 : Int} {τ : Nat → Int} (hx : o.1 = some (.inl x)) (h1 : lw_av as 1 = a1) (h2 : lw_av as 2 = a2) (h3 : lw_av as 3 = a3) (h4 : lw_av as 4 = a4) (h5 : lw_av as 5 = a5) (hb : ∀ s, (sx_sr s).1 ≤ σ s ∧ σ s ≤ (sx_sr s).2) (hW : lw_W ([], [((-1), [(5377, (-1))]), (0, [(5633, 1)]), ((-1), [(19001, 1)]), (1, [(19001, (-1))]), (0, [(19002, 1)]), (0, [(19003, 1)]), (0, [(19003, (-1))]), (0, [(19004, 1)]), (0, [(19005, 1)])], [(9, (2, []))], some (false, (0, []))) as σ σ' τ o) : lw_px_C a1 a2 a3 a4 a5 x.toInt σ σ' := by
  unfold lw_px_C
  have b5377 : (-1) ≤ σ 5377 ∧ σ 5377 ≤ 3 := by
    have h0 := hb 5377
    rw [show sx_sr 5377 = ((-1), 3) from by decide +kernel] at h0
    exact h0
  have b5633 : (-1) ≤ σ 5633 ∧ σ 5633 ≤ 3 := by
    have h0 := hb 5633
    rw [show sx_sr 5633 = ((-1), 3) from by decide +kernel] at h0
    exact h0
  have b5889 : (-1) ≤ σ 5889 ∧ σ 5889 ≤ 3 := by
    have h0 := hb 5889
    rw [show sx_sr 5889 = ((-1), 3) from by decide +kernel] at h0
    exact h0
  have b6145 : (-1) ≤ σ 6145 ∧ σ 6145 ≤ 3 := by
    have h0 := hb 6145
    rw [show sx_sr 6145 = ((-1), 3) from by decide +kernel] at h0
    exact h0
  have b5378 : 0 ≤ σ 5378 ∧ σ 5378 ≤ 60 := by
    have h0 := hb 5378
    rw [show sx_sr 5378 = (0, 60) from by decide +kernel] at h0
    exact h0
  have b5634 : 0 ≤ σ 5634 ∧ σ 5634 ≤ 60 := by
    have h0 := hb 5634
    rw [show sx_sr 5634 = (0, 60) from by decide +kernel] at h0
    exact h0
  have b5890 : 0 ≤ σ 5890 ∧ σ 5890 ≤ 60 := by
    have h0 := hb 5890
    rw [show sx_sr 5890 = (0, 60) from by decide +kernel] at h0
    exact h0
  have b6146 : 0 ≤ σ 6146 ∧ σ 6146 ≤ 60 := by
    have h0 := hb 6146
    rw [show sx_sr 6146 = (0, 60) from by decide +kernel] at h0
    exact h0
  obtain ⟨hs, ht, hf, hr, hm, hw⟩ := hW
  have e1 : τ 19001 = a1 := by rw [ht 19001 (by decide) (by decide)]; exact h1
  have e2 : τ 19002 = a2 := by rw [ht 19002 (by decide) (by decide)]; exact h2
  have e3 : τ 19003 = a3 := by rw [ht 19003 (by decide) (by decide)]; exact h3
  have e4 : τ 19004 = a4 := by rw [ht 19004 (by decide) (by decide)]; exact h4
  have e5 : τ 19005 = a5 := by rw [ht 19005 (by decide) (by decide)]; exact h5
  have s5377 : τ 5377 = σ 5377 := hs 5377 (by decide)
  have s5378 : τ 5378 = σ 5378 := hs 5378 (by decide)
  have s5633 : τ 5633 = σ 5633 := hs 5633 (by decide)
  have s5634 : τ 5634 = σ 5634 := hs 5634 (by decide)
  have s5889 : τ 5889 = σ 5889 := hs 5889 (by decide)
  have s5890 : τ 5890 = σ 5890 := hs 5890 (by decide)
  have s6145 : τ 6145 = σ 6145 := hs 6145 (by decide)
  have s6146 : τ 6146 = σ 6146 := hs 6146 (by decide)
  clear hs ht hb
  rw [hx] at hr
  obtain ⟨y, hy, hv⟩ := hr
  cases hy
  replace hv : x.toInt = 0 + 0 := hv
  have f0 : 0 ≤ (-1) + ((-1) * τ 5377 + 0) := hf _ (List.Mem.head _)
  have f1 : 0 ≤ 0 + (1 * τ 5633 + 0) := hf _ (List.Mem.tail _ (List.Mem.head _))
  have f2 : 0 ≤ (-1) + (1 * τ 19001 + 0) := hf _ (List.Mem.tail _ (List.Mem.tail _ (List.Mem.head _)))
  have f3 : 0 ≤ 1 + ((-1) * τ 19001 + 0) := hf _ (List.Mem.tail _ (List.Mem.tail _ (List.Mem.tail _ (List.Mem.head _))))
  have f4 : 0 ≤ 0 + (1 * τ 19002 + 0) := hf _ (List.Mem.tail _ (List.Mem.tail _ (List.Mem.tail _ (List.Mem.tail _ (List.Mem.head _)))))
  have f5 : 0 ≤ 0 + (1 * τ 19003 + 0) := hf _ (List.Mem.tail _ (List.Mem.tail _ (List.Mem.tail _ (List.Mem.tail _ (List.Mem.tail _ (List.Mem.head _))))))
  have f6 : 0 ≤ 0 + ((-1) * τ 19003 + 0) := hf _ (List.Mem.tail _ (List.Mem.tail _ (List.Mem.tail _ (List.Mem.tail _ (List.Mem.tail _ (List.Mem.tail _ (List.Mem.head _)))))))
  have f7 : 0 ≤ 0 + (1 * τ 19004 + 0) := hf _ (List.Mem.tail _ (List.Mem.tail _ (List.Mem.tail _ (List.Mem.tail _ (List.Mem.tail _ (List.Mem.tail _ (List.Mem.tail _ (List.Mem.head _))))))))
  have f8 : 0 ≤ 0 + (1 * τ 19005 + 0) := hf _ (List.Mem.tail _ (List.Mem.tail _ (List.Mem.tail _ (List.Mem.tail _ (List.Mem.tail _ (List.Mem.tail _ (List.Mem.tail _ (List.Mem.tail _ (List.Mem.head _)))))))))
  clear hf hm
  have ej : a1 = 1 := by omega
  subst ej
  have ek : a3 = 0 := by omega
  subst ek
  simp only [lw_sel0, lw_sel1, lw_sel2, lw_sel3]
  refine Or.inr ⟨by omega, fun h => ?_⟩
  obtain ⟨z0, z1, z2, z3, z4, z5, z6, z7, z8, z9, z10, z11⟩ := h
  omega
theorem lw_px_12 {as : List rv_A} {σ σ' : Nat → Int} {o : rv_O} {x : Int32} {a1 a2 a3 a4 a5 : Int} {τ : Nat → Int} (hx : o.1 = some (.inl x)) (h1 : lw_av as 1 = a1) (h2 : lw_av as 2 = a2) (h3 : lw_av as 3 = a3) (h4 : lw_av as 4 = a4) (h5 : lw_av as 5 = a5) (hb : ∀ s, (sx_sr s).1 ≤ σ s ∧ σ s ≤ (sx_sr s).2) (hW : lw_W ([], [((-1), [(5377, (-1))]), (0, [(5889, 1)]), ((-2), [(19001, 1)]), (2, [(19001, (-1))]), (0, [(19002, 1)]), (0, [(19003, 1)]), (0, [(19003, (-1))]), (0, [(19004, 1)]), (0, [(19005, 1)])], [(9, (2, []))], some (false, (0, []))) as σ σ' τ o) : lw_px_C a1 a2 a3 a4 a5 x.toInt σ σ' := by
  unfold lw_px_C
  have b5377 : (-1) ≤ σ 5377 ∧ σ 5377 ≤ 3 := by
    have h0 := hb 5377
    rw [show sx_sr 5377 = ((-1), 3) from by decide +kernel] at h0
    exact h0
  have b5633 : (-1) ≤ σ 5633 ∧ σ 5633 ≤ 3 := by
    have h0 := hb 5633
    rw [show sx_sr 5633 = ((-1), 3) from by decide +kernel] at h0
    exact h0
  have b5889 : (-1) ≤ σ 5889 ∧ σ 5889 ≤ 3 := by
    have h0 := hb 5889
    rw [show sx_sr 5889 = ((-1), 3) from by decide +kernel] at h0
    exact h0
  have b6145 : (-1) ≤ σ 6145 ∧ σ 6145 ≤ 3 := by
    have h0 := hb 6145
    rw [show sx_sr 6145 = ((-1), 3) from by decide +kernel] at h0
    exact h0
  have b5378 : 0 ≤ σ 5378 ∧ σ 5378 ≤ 60 := by
    have h0 := hb 5378
    rw [show sx_sr 5378 = (0, 60) from by decide +kernel] at h0
    exact h0
  have b5634 : 0 ≤ σ 5634 ∧ σ 5634 ≤ 60 := by
    have h0 := hb 5634
    rw [show sx_sr 5634 = (0, 60) from by decide +kernel] at h0
    exact h0
  have b5890 : 0 ≤ σ 5890 ∧ σ 5890 ≤ 60 := by
    have h0 := hb 5890
    rw [show sx_sr 5890 = (0, 60) from by decide +kernel] at h0
    exact h0
  have b6146 : 0 ≤ σ 6146 ∧ σ 6146 ≤ 60 := by
    have h0 := hb 6146
    rw [show sx_sr 6146 = (0, 60) from by decide +kernel] at h0
    exact h0
  obtain ⟨hs, ht, hf, hr, hm, hw⟩ := hW
  have e1 : τ 19001 = a1 := by rw [ht 19001 (by decide) (by decide)]; exact h1
  have e2 : τ 19002 = a2 := by rw [ht 19002 (by decide) (by decide)]; exact h2
  have e3 : τ 19003 = a3 := by rw [ht 19003 (by decide) (by decide)]; exact h3
  have e4 : τ 19004 = a4 := by rw [ht 19004 (by decide) (by decide)]; exact h4
  have e5 : τ 19005 = a5 := by rw [ht 19005 (by decide) (by decide)]; exact h5
  have s5377 : τ 5377 = σ 5377 := hs 5377 (by decide)
  have s5378 : τ 5378 = σ 5378 := hs 5378 (by decide)
  have s5633 : τ 5633 = σ 5633 := hs 5633 (by decide)
  have s5634 : τ 5634 = σ 5634 := hs 5634 (by decide)
  have s5889 : τ 5889 = σ 5889 := hs 5889 (by decide)
  have s5890 : τ 5890 = σ 5890 := hs 5890 (by decide)
  have s6145 : τ 6145 = σ 6145 := hs 6145 (by decide)
  have s6146 : τ 6146 = σ 6146 := hs 6146 (by decide)
  clear hs ht hb
  rw [hx] at hr
  obtain ⟨y, hy, hv⟩ := hr
  cases hy
  replace hv : x.toInt = 0 + 0 := hv
  have f0 : 0 ≤ (-1) + ((-1) * τ 5377 + 0) := hf _ (List.Mem.head _)
  have f1 : 0 ≤ 0 + (1 * τ 5889 + 0) := hf _ (List.Mem.tail _ (List.Mem.head _))
  have f2 : 0 ≤ (-2) + (1 * τ 19001 + 0) := hf _ (List.Mem.tail _ (List.Mem.tail _ (List.Mem.head _)))
  have f3 : 0 ≤ 2 + ((-1) * τ 19001 + 0) := hf _ (List.Mem.tail _ (List.Mem.tail _ (List.Mem.tail _ (List.Mem.head _))))
  have f4 : 0 ≤ 0 + (1 * τ 19002 + 0) := hf _ (List.Mem.tail _ (List.Mem.tail _ (List.Mem.tail _ (List.Mem.tail _ (List.Mem.head _)))))
  have f5 : 0 ≤ 0 + (1 * τ 19003 + 0) := hf _ (List.Mem.tail _ (List.Mem.tail _ (List.Mem.tail _ (List.Mem.tail _ (List.Mem.tail _ (List.Mem.head _))))))
  have f6 : 0 ≤ 0 + ((-1) * τ 19003 + 0) := hf _ (List.Mem.tail _ (List.Mem.tail _ (List.Mem.tail _ (List.Mem.tail _ (List.Mem.tail _ (List.Mem.tail _ (List.Mem.head _)))))))
  have f7 : 0 ≤ 0 + (1 * τ 19004 + 0) := hf _ (List.Mem.tail _ (List.Mem.tail _ (List.Mem.tail _ (List.Mem.tail _ (List.Mem.tail _ (List.Mem.tail _ (List.Mem.tail _ (List.Mem.head _))))))))
  have f8 : 0 ≤ 0 + (1 * τ 19005 + 0) := hf _ (List.Mem.tail _ (List.Mem.tail _ (List.Mem.tail _ (List.Mem.tail _ (List.Mem.tail _ (List.Mem.tail _ (List.Mem.tail _ (List.Mem.tail _ (List.Mem.head _)))))))))
  clear hf hm
  have ej : a1 = 2 := by omega
  subst ej
  have ek : a3 = 0 := by omega
  subst ek
  simp only [lw_sel0, lw_sel1, lw_sel2, lw_sel3]
  refine Or.inr ⟨by omega, fun h => ?_⟩
  obtain ⟨z0, z1, z2, z3, z4, z5, z6, z7, z8, z9, z10, z11⟩ := h
  omega
theorem lw_px_13 {as : List rv_A} {σ σ' : Nat → Int} {o : rv_O} {x : Int32} {a1 a2 a3 a4 a5 : Int} {τ : Nat → Int} (hx : o.1 = some (.inl x)) (h1 : lw_av as 1 = a1) (h2 : lw_av as 2 = a2) (h3 : lw_av as 3 = a3) (h4 : lw_av as 4 = a4) (h5 : lw_av as 5 = a5) (hb : ∀ s, (sx_sr s).1 ≤ σ s ∧ σ s ≤ (sx_sr s).2) (hW : lw_W ([], [((-1), [(5377, (-1))]), (0, [(6145, 1)]), ((-3), [(19001, 1)]), (3, [(19001, (-1))]), (0, [(19002, 1)]), (0, [(19003, 1)]), (0, [(19003, (-1))]), (0, [(19004, 1)]), (0, [(19005, 1)])], [(9, (2, []))], some (false, (0, []))) as σ σ' τ o) : lw_px_C a1 a2 a3 a4 a5 x.toInt σ σ' := by
  unfold lw_px_C
  have b5377 : (-1) ≤ σ 5377 ∧ σ 5377 ≤ 3 := by
    have h0 := hb 5377
    rw [show sx_sr 5377 = ((-1), 3) from by decide +kernel] at h0
    exact h0
  have b5633 : (-1) ≤ σ 5633 ∧ σ 5633 ≤ 3 := by
    have h0 := hb 5633
    rw [show sx_sr 5633 = ((-1), 3) from by decide +kernel] at h0
    exact h0
  have b5889 : (-1) ≤ σ 5889 ∧ σ 5889 ≤ 3 := by
    have h0 := hb 5889
    rw [show sx_sr 5889 = ((-1), 3) from by decide +kernel] at h0
    exact h0
  have b6145 : (-1) ≤ σ 6145 ∧ σ 6145 ≤ 3 := by
    have h0 := hb 6145
    rw [show sx_sr 6145 = ((-1), 3) from by decide +kernel] at h0
    exact h0
  have b5378 : 0 ≤ σ 5378 ∧ σ 5378 ≤ 60 := by
    have h0 := hb 5378
    rw [show sx_sr 5378 = (0, 60) from by decide +kernel] at h0
    exact h0
  have b5634 : 0 ≤ σ 5634 ∧ σ 5634 ≤ 60 := by
    have h0 := hb 5634
    rw [show sx_sr 5634 = (0, 60) from by decide +kernel] at h0
    exact h0
  have b5890 : 0 ≤ σ 5890 ∧ σ 5890 ≤ 60 := by
    have h0 := hb 5890
    rw [show sx_sr 5890 = (0, 60) from by decide +kernel] at h0
    exact h0
  have b6146 : 0 ≤ σ 6146 ∧ σ 6146 ≤ 60 := by
    have h0 := hb 6146
    rw [show sx_sr 6146 = (0, 60) from by decide +kernel] at h0
    exact h0
  obtain ⟨hs, ht, hf, hr, hm, hw⟩ := hW
  have e1 : τ 19001 = a1 := by rw [ht 19001 (by decide) (by decide)]; exact h1
  have e2 : τ 19002 = a2 := by rw [ht 19002 (by decide) (by decide)]; exact h2
  have e3 : τ 19003 = a3 := by rw [ht 19003 (by decide) (by decide)]; exact h3
  have e4 : τ 19004 = a4 := by rw [ht 19004 (by decide) (by decide)]; exact h4
  have e5 : τ 19005 = a5 := by rw [ht 19005 (by decide) (by decide)]; exact h5
  have s5377 : τ 5377 = σ 5377 := hs 5377 (by decide)
  have s5378 : τ 5378 = σ 5378 := hs 5378 (by decide)
  have s5633 : τ 5633 = σ 5633 := hs 5633 (by decide)
  have s5634 : τ 5634 = σ 5634 := hs 5634 (by decide)
  have s5889 : τ 5889 = σ 5889 := hs 5889 (by decide)
  have s5890 : τ 5890 = σ 5890 := hs 5890 (by decide)
  have s6145 : τ 6145 = σ 6145 := hs 6145 (by decide)
  have s6146 : τ 6146 = σ 6146 := hs 6146 (by decide)
  clear hs ht hb
  rw [hx] at hr
  obtain ⟨y, hy, hv⟩ := hr
  cases hy
  replace hv : x.toInt = 0 + 0 := hv
  have f0 : 0 ≤ (-1) + ((-1) * τ 5377 + 0) := hf _ (List.Mem.head _)
  have f1 : 0 ≤ 0 + (1 * τ 6145 + 0) := hf _ (List.Mem.tail _ (List.Mem.head _))
  have f2 : 0 ≤ (-3) + (1 * τ 19001 + 0) := hf _ (List.Mem.tail _ (List.Mem.tail _ (List.Mem.head _)))
  have f3 : 0 ≤ 3 + ((-1) * τ 19001 + 0) := hf _ (List.Mem.tail _ (List.Mem.tail _ (List.Mem.tail _ (List.Mem.head _))))
  have f4 : 0 ≤ 0 + (1 * τ 19002 + 0) := hf _ (List.Mem.tail _ (List.Mem.tail _ (List.Mem.tail _ (List.Mem.tail _ (List.Mem.head _)))))
  have f5 : 0 ≤ 0 + (1 * τ 19003 + 0) := hf _ (List.Mem.tail _ (List.Mem.tail _ (List.Mem.tail _ (List.Mem.tail _ (List.Mem.tail _ (List.Mem.head _))))))
  have f6 : 0 ≤ 0 + ((-1) * τ 19003 + 0) := hf _ (List.Mem.tail _ (List.Mem.tail _ (List.Mem.tail _ (List.Mem.tail _ (List.Mem.tail _ (List.Mem.tail _ (List.Mem.head _)))))))
  have f7 : 0 ≤ 0 + (1 * τ 19004 + 0) := hf _ (List.Mem.tail _ (List.Mem.tail _ (List.Mem.tail _ (List.Mem.tail _ (List.Mem.tail _ (List.Mem.tail _ (List.Mem.tail _ (List.Mem.head _))))))))
  have f8 : 0 ≤ 0 + (1 * τ 19005 + 0) := hf _ (List.Mem.tail _ (List.Mem.tail _ (List.Mem.tail _ (List.Mem.tail _ (List.Mem.tail _ (List.Mem.tail _ (List.Mem.tail _ (List.Mem.tail _ (List.Mem.head _)))))))))
  clear hf hm
  have ej : a1 = 3 := by omega
  subst ej
  have ek : a3 = 0 := by omega
  subst ek
  simp only [lw_sel0, lw_sel1, lw_sel2, lw_sel3]
  refine Or.inr ⟨by omega, fun h => ?_⟩
  obtain ⟨z0, z1, z2, z3, z4, z5, z6, z7, z8, z9, z10, z11⟩ := h
  omega
theorem lw_px_14 {as : List rv_A} {σ σ' : Nat → Int} {o : rv_O} {x : Int32} {a1 a2 a3 a4 a5 : Int} {τ : Nat → Int} (hx : o.1 = some (.inl x)) (h1 : lw_av as 1 = a1) (h2 : lw_av as 2 = a2) (h3 : lw_av as 3 = a3) (h4 : lw_av as 4 = a4) (h5 : lw_av as 5 = a5) (hb : ∀ s, (sx_sr s).1 ≤ σ s ∧ σ s ≤ (sx_sr s).2) (hW : lw_W ([], [(0, [(5377, 1)]), (2, [(5377, (-1))]), ((-1), [(5633, 1)]), (0, [(19001, 1)]), (0, [(19001, (-1))]), (0, [(19002, 1)]), ((-1), [(19003, 1)]), (1, [(19003, (-1))]), (0, [(19004, 1)]), (0, [(19005, 1)]), ((-1), [(5377, (-1)), (5633, 1)])], [(9, (8, []))], some (false, (0, []))) as σ σ' τ o) : lw_px_C a1 a2 a3 a4 a5 x.toInt σ σ' := by
  unfold lw_px_C
  have b5377 : (-1) ≤ σ 5377 ∧ σ 5377 ≤ 3 := by
    have h0 := hb 5377
    rw [show sx_sr 5377 = ((-1), 3) from by decide +kernel] at h0
    exact h0
  have b5633 : (-1) ≤ σ 5633 ∧ σ 5633 ≤ 3 := by
    have h0 := hb 5633
    rw [show sx_sr 5633 = ((-1), 3) from by decide +kernel] at h0
    exact h0
  have b5889 : (-1) ≤ σ 5889 ∧ σ 5889 ≤ 3 := by
    have h0 := hb 5889
    rw [show sx_sr 5889 = ((-1), 3) from by decide +kernel] at h0
    exact h0
  have b6145 : (-1) ≤ σ 6145 ∧ σ 6145 ≤ 3 := by
    have h0 := hb 6145
    rw [show sx_sr 6145 = ((-1), 3) from by decide +kernel] at h0
    exact h0
  have b5378 : 0 ≤ σ 5378 ∧ σ 5378 ≤ 60 := by
    have h0 := hb 5378
    rw [show sx_sr 5378 = (0, 60) from by decide +kernel] at h0
    exact h0
  have b5634 : 0 ≤ σ 5634 ∧ σ 5634 ≤ 60 := by
    have h0 := hb 5634
    rw [show sx_sr 5634 = (0, 60) from by decide +kernel] at h0
    exact h0
  have b5890 : 0 ≤ σ 5890 ∧ σ 5890 ≤ 60 := by
    have h0 := hb 5890
    rw [show sx_sr 5890 = (0, 60) from by decide +kernel] at h0
    exact h0
  have b6146 : 0 ≤ σ 6146 ∧ σ 6146 ≤ 60 := by
    have h0 := hb 6146
    rw [show sx_sr 6146 = (0, 60) from by decide +kernel] at h0
    exact h0
  obtain ⟨hs, ht, hf, hr, hm, hw⟩ := hW
  have e1 : τ 19001 = a1 := by rw [ht 19001 (by decide) (by decide)]; exact h1
  have e2 : τ 19002 = a2 := by rw [ht 19002 (by decide) (by decide)]; exact h2
  have e3 : τ 19003 = a3 := by rw [ht 19003 (by decide) (by decide)]; exact h3
  have e4 : τ 19004 = a4 := by rw [ht 19004 (by decide) (by decide)]; exact h4
  have e5 : τ 19005 = a5 := by rw [ht 19005 (by decide) (by decide)]; exact h5
  have s5377 : τ 5377 = σ 5377 := hs 5377 (by decide)
  have s5378 : τ 5378 = σ 5378 := hs 5378 (by decide)
  have s5633 : τ 5633 = σ 5633 := hs 5633 (by decide)
  have s5634 : τ 5634 = σ 5634 := hs 5634 (by decide)
  have s5889 : τ 5889 = σ 5889 := hs 5889 (by decide)
  have s5890 : τ 5890 = σ 5890 := hs 5890 (by decide)
  have s6145 : τ 6145 = σ 6145 := hs 6145 (by decide)
  have s6146 : τ 6146 = σ 6146 := hs 6146 (by decide)
  clear hs ht hb
  rw [hx] at hr
  obtain ⟨y, hy, hv⟩ := hr
  cases hy
  replace hv : x.toInt = 0 + 0 := hv
  have f0 : 0 ≤ 0 + (1 * τ 5377 + 0) := hf _ (List.Mem.head _)
  have f1 : 0 ≤ 2 + ((-1) * τ 5377 + 0) := hf _ (List.Mem.tail _ (List.Mem.head _))
  have f2 : 0 ≤ (-1) + (1 * τ 5633 + 0) := hf _ (List.Mem.tail _ (List.Mem.tail _ (List.Mem.head _)))
  have f3 : 0 ≤ 0 + (1 * τ 19001 + 0) := hf _ (List.Mem.tail _ (List.Mem.tail _ (List.Mem.tail _ (List.Mem.head _))))
  have f4 : 0 ≤ 0 + ((-1) * τ 19001 + 0) := hf _ (List.Mem.tail _ (List.Mem.tail _ (List.Mem.tail _ (List.Mem.tail _ (List.Mem.head _)))))
  have f5 : 0 ≤ 0 + (1 * τ 19002 + 0) := hf _ (List.Mem.tail _ (List.Mem.tail _ (List.Mem.tail _ (List.Mem.tail _ (List.Mem.tail _ (List.Mem.head _))))))
  have f6 : 0 ≤ (-1) + (1 * τ 19003 + 0) := hf _ (List.Mem.tail _ (List.Mem.tail _ (List.Mem.tail _ (List.Mem.tail _ (List.Mem.tail _ (List.Mem.tail _ (List.Mem.head _)))))))
  have f7 : 0 ≤ 1 + ((-1) * τ 19003 + 0) := hf _ (List.Mem.tail _ (List.Mem.tail _ (List.Mem.tail _ (List.Mem.tail _ (List.Mem.tail _ (List.Mem.tail _ (List.Mem.tail _ (List.Mem.head _))))))))
  have f8 : 0 ≤ 0 + (1 * τ 19004 + 0) := hf _ (List.Mem.tail _ (List.Mem.tail _ (List.Mem.tail _ (List.Mem.tail _ (List.Mem.tail _ (List.Mem.tail _ (List.Mem.tail _ (List.Mem.tail _ (List.Mem.head _)))))))))
  have f9 : 0 ≤ 0 + (1 * τ 19005 + 0) := hf _ (List.Mem.tail _ (List.Mem.tail _ (List.Mem.tail _ (List.Mem.tail _ (List.Mem.tail _ (List.Mem.tail _ (List.Mem.tail _ (List.Mem.tail _ (List.Mem.tail _ (List.Mem.head _))))))))))
  have f10 : 0 ≤ (-1) + ((-1) * τ 5377 + (1 * τ 5633 + 0)) := hf _ (List.Mem.tail _ (List.Mem.tail _ (List.Mem.tail _ (List.Mem.tail _ (List.Mem.tail _ (List.Mem.tail _ (List.Mem.tail _ (List.Mem.tail _ (List.Mem.tail _ (List.Mem.tail _ (List.Mem.head _)))))))))))
  clear hf hm
  have ej : a1 = 0 := by omega
  subst ej
  have ek : a3 = 1 := by omega
  subst ek
  simp only [lw_sel0, lw_sel1, lw_sel2, lw_sel3]
  refine Or.inr ⟨by omega, fun h => ?_⟩
  obtain ⟨z0, z1, z2, z3, z4, z5, z6, z7, z8, z9, z10, z11⟩ := h
  omega
theorem lw_px_15 {as : List rv_A} {σ σ' : Nat → Int} {o : rv_O} {x : Int32} {a1 a2 a3 a4 a5 : Int} {τ : Nat → Int} (hx : o.1 = some (.inl x)) (h1 : lw_av as 1 = a1) (h2 : lw_av as 2 = a2) (h3 : lw_av as 3 = a3) (h4 : lw_av as 4 = a4) (h5 : lw_av as 5 = a5) (hb : ∀ s, (sx_sr s).1 ≤ σ s ∧ σ s ≤ (sx_sr s).2) (hW : lw_W ([], [(0, [(5377, 1)]), (2, [(5377, (-1))]), ((-1), [(5633, 1)]), ((-1), [(19001, 1)]), (1, [(19001, (-1))]), (0, [(19002, 1)]), (0, [(19003, 1)]), (0, [(19003, (-1))]), (0, [(19004, 1)]), (0, [(19005, 1)]), ((-1), [(5377, (-1)), (5633, 1)])], [(9, (8, []))], some (false, (0, []))) as σ σ' τ o) : lw_px_C a1 a2 a3 a4 a5 x.toInt σ σ' := by
  unfold lw_px_C
  have b5377 : (-1) ≤ σ 5377 ∧ σ 5377 ≤ 3 := by
    have h0 := hb 5377
    rw [show sx_sr 5377 = ((-1), 3) from by decide +kernel] at h0
    exact h0
  have b5633 : (-1) ≤ σ 5633 ∧ σ 5633 ≤ 3 := by
    have h0 := hb 5633
    rw [show sx_sr 5633 = ((-1), 3) from by decide +kernel] at h0
    exact h0
  have b5889 : (-1) ≤ σ 5889 ∧ σ 5889 ≤ 3 := by
    have h0 := hb 5889
    rw [show sx_sr 5889 = ((-1), 3) from by decide +kernel] at h0
    exact h0
  have b6145 : (-1) ≤ σ 6145 ∧ σ 6145 ≤ 3 := by
    have h0 := hb 6145
    rw [show sx_sr 6145 = ((-1), 3) from by decide +kernel] at h0
    exact h0
  have b5378 : 0 ≤ σ 5378 ∧ σ 5378 ≤ 60 := by
    have h0 := hb 5378
    rw [show sx_sr 5378 = (0, 60) from by decide +kernel] at h0
    exact h0
  have b5634 : 0 ≤ σ 5634 ∧ σ 5634 ≤ 60 := by
    have h0 := hb 5634
    rw [show sx_sr 5634 = (0, 60) from by decide +kernel] at h0
    exact h0
  have b5890 : 0 ≤ σ 5890 ∧ σ 5890 ≤ 60 := by
    have h0 := hb 5890
    rw [show sx_sr 5890 = (0, 60) from by decide +kernel] at h0
    exact h0
  have b6146 : 0 ≤ σ 6146 ∧ σ 6146 ≤ 60 := by
    have h0 := hb 6146
    rw [show sx_sr 6146 = (0, 60) from by decide +kernel] at h0
    exact h0
  obtain ⟨hs, ht, hf, hr, hm, hw⟩ := hW
  have e1 : τ 19001 = a1 := by rw [ht 19001 (by decide) (by decide)]; exact h1
  have e2 : τ 19002 = a2 := by rw [ht 19002 (by decide) (by decide)]; exact h2
  have e3 : τ 19003 = a3 := by rw [ht 19003 (by decide) (by decide)]; exact h3
  have e4 : τ 19004 = a4 := by rw [ht 19004 (by decide) (by decide)]; exact h4
  have e5 : τ 19005 = a5 := by rw [ht 19005 (by decide) (by decide)]; exact h5
  have s5377 : τ 5377 = σ 5377 := hs 5377 (by decide)
  have s5378 : τ 5378 = σ 5378 := hs 5378 (by decide)
  have s5633 : τ 5633 = σ 5633 := hs 5633 (by decide)
  have s5634 : τ 5634 = σ 5634 := hs 5634 (by decide)
  have s5889 : τ 5889 = σ 5889 := hs 5889 (by decide)
  have s5890 : τ 5890 = σ 5890 := hs 5890 (by decide)
  have s6145 : τ 6145 = σ 6145 := hs 6145 (by decide)
  have s6146 : τ 6146 = σ 6146 := hs 6146 (by decide)
  clear hs ht hb
  rw [hx] at hr
  obtain ⟨y, hy, hv⟩ := hr
  cases hy
  replace hv : x.toInt = 0 + 0 := hv
  have f0 : 0 ≤ 0 + (1 * τ 5377 + 0) := hf _ (List.Mem.head _)
  have f1 : 0 ≤ 2 + ((-1) * τ 5377 + 0) := hf _ (List.Mem.tail _ (List.Mem.head _))
  have f2 : 0 ≤ (-1) + (1 * τ 5633 + 0) := hf _ (List.Mem.tail _ (List.Mem.tail _ (List.Mem.head _)))
  have f3 : 0 ≤ (-1) + (1 * τ 19001 + 0) := hf _ (List.Mem.tail _ (List.Mem.tail _ (List.Mem.tail _ (List.Mem.head _))))
  have f4 : 0 ≤ 1 + ((-1) * τ 19001 + 0) := hf _ (List.Mem.tail _ (List.Mem.tail _ (List.Mem.tail _ (List.Mem.tail _ (List.Mem.head _)))))
  have f5 : 0 ≤ 0 + (1 * τ 19002 + 0) := hf _ (List.Mem.tail _ (List.Mem.tail _ (List.Mem.tail _ (List.Mem.tail _ (List.Mem.tail _ (List.Mem.head _))))))
  have f6 : 0 ≤ 0 + (1 * τ 19003 + 0) := hf _ (List.Mem.tail _ (List.Mem.tail _ (List.Mem.tail _ (List.Mem.tail _ (List.Mem.tail _ (List.Mem.tail _ (List.Mem.head _)))))))
  have f7 : 0 ≤ 0 + ((-1) * τ 19003 + 0) := hf _ (List.Mem.tail _ (List.Mem.tail _ (List.Mem.tail _ (List.Mem.tail _ (List.Mem.tail _ (List.Mem.tail _ (List.Mem.tail _ (List.Mem.head _))))))))
  have f8 : 0 ≤ 0 + (1 * τ 19004 + 0) := hf _ (List.Mem.tail _ (List.Mem.tail _ (List.Mem.tail _ (List.Mem.tail _ (List.Mem.tail _ (List.Mem.tail _ (List.Mem.tail _ (List.Mem.tail _ (List.Mem.head _)))))))))
  have f9 : 0 ≤ 0 + (1 * τ 19005 + 0) := hf _ (List.Mem.tail _ (List.Mem.tail _ (List.Mem.tail _ (List.Mem.tail _ (List.Mem.tail _ (List.Mem.tail _ (List.Mem.tail _ (List.Mem.tail _ (List.Mem.tail _ (List.Mem.head _))))))))))
  have f10 : 0 ≤ (-1) + ((-1) * τ 5377 + (1 * τ 5633 + 0)) := hf _ (List.Mem.tail _ (List.Mem.tail _ (List.Mem.tail _ (List.Mem.tail _ (List.Mem.tail _ (List.Mem.tail _ (List.Mem.tail _ (List.Mem.tail _ (List.Mem.tail _ (List.Mem.tail _ (List.Mem.head _)))))))))))
  clear hf hm
  have ej : a1 = 1 := by omega
  subst ej
  have ek : a3 = 0 := by omega
  subst ek
  simp only [lw_sel0, lw_sel1, lw_sel2, lw_sel3]
  refine Or.inr ⟨by omega, fun h => ?_⟩
  obtain ⟨z0, z1, z2, z3, z4, z5, z6, z7, z8, z9, z10, z11⟩ := h
  omega
theorem lw_px_16 {as : List rv_A} {σ σ' : Nat → Int} {o : rv_O} {x : Int32} {a1 a2 a3 a4 a5 : Int} {τ : Nat → Int} (hx : o.1 = some (.inl x)) (h1 : lw_av as 1 = a1) (h2 : lw_av as 2 = a2) (h3 : lw_av as 3 = a3) (h4 : lw_av as 4 = a4) (h5 : lw_av as 5 = a5) (hb : ∀ s, (sx_sr s).1 ≤ σ s ∧ σ s ≤ (sx_sr s).2) (hW : lw_W ([], [(0, [(5377, 1)]), (2, [(5377, (-1))]), ((-1), [(5889, 1)]), (0, [(19001, 1)]), (0, [(19001, (-1))]), (0, [(19002, 1)]), ((-2), [(19003, 1)]), (2, [(19003, (-1))]), (0, [(19004, 1)]), (0, [(19005, 1)]), ((-1), [(5377, (-1)), (5889, 1)])], [(9, (8, []))], some (false, (0, []))) as σ σ' τ o) : lw_px_C a1 a2 a3 a4 a5 x.toInt σ σ' := by
  unfold lw_px_C
  have b5377 : (-1) ≤ σ 5377 ∧ σ 5377 ≤ 3 := by
    have h0 := hb 5377
    rw [show sx_sr 5377 = ((-1), 3) from by decide +kernel] at h0
    exact h0
  have b5633 : (-1) ≤ σ 5633 ∧ σ 5633 ≤ 3 := by
    have h0 := hb 5633
    rw [show sx_sr 5633 = ((-1), 3) from by decide +kernel] at h0
    exact h0
  have b5889 : (-1) ≤ σ 5889 ∧ σ 5889 ≤ 3 := by
    have h0 := hb 5889
    rw [show sx_sr 5889 = ((-1), 3) from by decide +kernel] at h0
    exact h0
  have b6145 : (-1) ≤ σ 6145 ∧ σ 6145 ≤ 3 := by
    have h0 := hb 6145
    rw [show sx_sr 6145 = ((-1), 3) from by decide +kernel] at h0
    exact h0
  have b5378 : 0 ≤ σ 5378 ∧ σ 5378 ≤ 60 := by
    have h0 := hb 5378
    rw [show sx_sr 5378 = (0, 60) from by decide +kernel] at h0
    exact h0
  have b5634 : 0 ≤ σ 5634 ∧ σ 5634 ≤ 60 := by
    have h0 := hb 5634
    rw [show sx_sr 5634 = (0, 60) from by decide +kernel] at h0
    exact h0
  have b5890 : 0 ≤ σ 5890 ∧ σ 5890 ≤ 60 := by
    have h0 := hb 5890
    rw [show sx_sr 5890 = (0, 60) from by decide +kernel] at h0
    exact h0
  have b6146 : 0 ≤ σ 6146 ∧ σ 6146 ≤ 60 := by
    have h0 := hb 6146
    rw [show sx_sr 6146 = (0, 60) from by decide +kernel] at h0
    exact h0
  obtain ⟨hs, ht, hf, hr, hm, hw⟩ := hW
  have e1 : τ 19001 = a1 := by rw [ht 19001 (by decide) (by decide)]; exact h1
  have e2 : τ 19002 = a2 := by rw [ht 19002 (by decide) (by decide)]; exact h2
  have e3 : τ 19003 = a3 := by rw [ht 19003 (by decide) (by decide)]; exact h3
  have e4 : τ 19004 = a4 := by rw [ht 19004 (by decide) (by decide)]; exact h4
  have e5 : τ 19005 = a5 := by rw [ht 19005 (by decide) (by decide)]; exact h5
  have s5377 : τ 5377 = σ 5377 := hs 5377 (by decide)
  have s5378 : τ 5378 = σ 5378 := hs 5378 (by decide)
  have s5633 : τ 5633 = σ 5633 := hs 5633 (by decide)
  have s5634 : τ 5634 = σ 5634 := hs 5634 (by decide)
  have s5889 : τ 5889 = σ 5889 := hs 5889 (by decide)
  have s5890 : τ 5890 = σ 5890 := hs 5890 (by decide)
  have s6145 : τ 6145 = σ 6145 := hs 6145 (by decide)
  have s6146 : τ 6146 = σ 6146 := hs 6146 (by decide)
  clear hs ht hb
  rw [hx] at hr
  obtain ⟨y, hy, hv⟩ := hr
  cases hy
  replace hv : x.toInt = 0 + 0 := hv
  have f0 : 0 ≤ 0 + (1 * τ 5377 + 0) := hf _ (List.Mem.head _)
  have f1 : 0 ≤ 2 + ((-1) * τ 5377 + 0) := hf _ (List.Mem.tail _ (List.Mem.head _))
  have f2 : 0 ≤ (-1) + (1 * τ 5889 + 0) := hf _ (List.Mem.tail _ (List.Mem.tail _ (List.Mem.head _)))
  have f3 : 0 ≤ 0 + (1 * τ 19001 + 0) := hf _ (List.Mem.tail _ (List.Mem.tail _ (List.Mem.tail _ (List.Mem.head _))))
  have f4 : 0 ≤ 0 + ((-1) * τ 19001 + 0) := hf _ (List.Mem.tail _ (List.Mem.tail _ (List.Mem.tail _ (List.Mem.tail _ (List.Mem.head _)))))
  have f5 : 0 ≤ 0 + (1 * τ 19002 + 0) := hf _ (List.Mem.tail _ (List.Mem.tail _ (List.Mem.tail _ (List.Mem.tail _ (List.Mem.tail _ (List.Mem.head _))))))
  have f6 : 0 ≤ (-2) + (1 * τ 19003 + 0) := hf _ (List.Mem.tail _ (List.Mem.tail _ (List.Mem.tail _ (List.Mem.tail _ (List.Mem.tail _ (List.Mem.tail _ (List.Mem.head _)))))))
  have f7 : 0 ≤ 2 + ((-1) * τ 19003 + 0) := hf _ (List.Mem.tail _ (List.Mem.tail _ (List.Mem.tail _ (List.Mem.tail _ (List.Mem.tail _ (List.Mem.tail _ (List.Mem.tail _ (List.Mem.head _))))))))
  have f8 : 0 ≤ 0 + (1 * τ 19004 + 0) := hf _ (List.Mem.tail _ (List.Mem.tail _ (List.Mem.tail _ (List.Mem.tail _ (List.Mem.tail _ (List.Mem.tail _ (List.Mem.tail _ (List.Mem.tail _ (List.Mem.head _)))))))))
  have f9 : 0 ≤ 0 + (1 * τ 19005 + 0) := hf _ (List.Mem.tail _ (List.Mem.tail _ (List.Mem.tail _ (List.Mem.tail _ (List.Mem.tail _ (List.Mem.tail _ (List.Mem.tail _ (List.Mem.tail _ (List.Mem.tail _ (List.Mem.head _))))))))))
  have f10 : 0 ≤ (-1) + ((-1) * τ 5377 + (1 * τ 5889 + 0)) := hf _ (List.Mem.tail _ (List.Mem.tail _ (List.Mem.tail _ (List.Mem.tail _ (List.Mem.tail _ (List.Mem.tail _ (List.Mem.tail _ (List.Mem.tail _ (List.Mem.tail _ (List.Mem.tail _ (List.Mem.head _)))))))))))
  clear hf hm
  have ej : a1 = 0 := by omega
  subst ej
  have ek : a3 = 2 := by omega
  subst ek
  simp only [lw_sel0, lw_sel1, lw_sel2, lw_sel3]
  refine Or.inr ⟨by omega, fun h => ?_⟩
  obtain ⟨z0, z1, z2, z3, z4, z5, z6, z7, z8, z9, z10, z11⟩ := h
  omega
