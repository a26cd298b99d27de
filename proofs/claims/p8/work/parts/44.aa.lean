/-! WHAT BOTH SIDES HAVE ALIKE, call by call -/
def lw_sx_C (a1 z : Int) (σ σ' : Nat → Int) : Prop := (z = 1 ∧ 1 ≤ a1 ∧ a1 ≤ 255) ∨ (z = 0 ∧ ¬ (1 ≤ a1 ∧ a1 ≤ 255))
theorem lw_sx_0 {as : List rv_A} {σ σ' : Nat → Int} {o : rv_O} {x : Int32} {a1 : Int} {τ : Nat → Int} (hx : o.1 = some (.inl x)) (h1 : lw_av as 1 = a1) (hb : ∀ s, (sx_sr s).1 ≤ σ s ∧ σ s ≤ (sx_sr s).2) (hW : lw_W ([], [(0, [(19001, (-1))])], [(9, (1, []))], some (false, (0, []))) as σ σ' τ o) : lw_sx_C a1 x.toInt σ σ' := by
  unfold lw_sx_C
  obtain ⟨hs, ht, hf, hr, hm, hw⟩ := hW
  have e1 : τ 19001 = a1 := by rw [ht 19001 (by decide) (by decide)]; exact h1
  clear hs ht hb
  rw [hx] at hr
  obtain ⟨y, hy, hv⟩ := hr
  cases hy
  replace hv : x.toInt = 0 + 0 := hv
  have f0 : 0 ≤ 0 + ((-1) * τ 19001 + 0) := hf _ (List.Mem.head _)
  clear hf hm
  omega
theorem lw_sx_1 {as : List rv_A} {σ σ' : Nat → Int} {o : rv_O} {x : Int32} {a1 : Int} {τ : Nat → Int} (hx : o.1 = some (.inl x)) (h1 : lw_av as 1 = a1) (hb : ∀ s, (sx_sr s).1 ≤ σ s ∧ σ s ≤ (sx_sr s).2) (hW : lw_W ([], [((-256), [(19001, 1)])], [(9, (1, []))], some (false, (0, []))) as σ σ' τ o) : lw_sx_C a1 x.toInt σ σ' := by
  unfold lw_sx_C
  obtain ⟨hs, ht, hf, hr, hm, hw⟩ := hW
  have e1 : τ 19001 = a1 := by rw [ht 19001 (by decide) (by decide)]; exact h1
  clear hs ht hb
  rw [hx] at hr
  obtain ⟨y, hy, hv⟩ := hr
  cases hy
  replace hv : x.toInt = 0 + 0 := hv
  have f0 : 0 ≤ (-256) + (1 * τ 19001 + 0) := hf _ (List.Mem.head _)
  clear hf hm
  omega
theorem lw_sx_2 {as : List rv_A} {σ σ' : Nat → Int} {o : rv_O} {x : Int32} {a1 : Int} {τ : Nat → Int} (hx : o.1 = some (.inl x)) (h1 : lw_av as 1 = a1) (hb : ∀ s, (sx_sr s).1 ≤ σ s ∧ σ s ≤ (sx_sr s).2) (hW : lw_W ([], [((-1), [(19001, 1)]), (255, [(19001, (-1))])], [(9, (0, [])), (135, (0, [(19001, 1)])), (7048, ((-2), [])), (7049, ((-2), [])), (8069, (0, [])), (11396, ((-2), []))], some (false, (1, []))) as σ σ' τ o) : lw_sx_C a1 x.toInt σ σ' := by
  unfold lw_sx_C
  obtain ⟨hs, ht, hf, hr, hm, hw⟩ := hW
  have e1 : τ 19001 = a1 := by rw [ht 19001 (by decide) (by decide)]; exact h1
  clear hs ht hb
  rw [hx] at hr
  obtain ⟨y, hy, hv⟩ := hr
  cases hy
  replace hv : x.toInt = 1 + 0 := hv
  have f0 : 0 ≤ (-1) + (1 * τ 19001 + 0) := hf _ (List.Mem.head _)
  have f1 : 0 ≤ 255 + ((-1) * τ 19001 + 0) := hf _ (List.Mem.tail _ (List.Mem.head _))
  clear hf hm
  omega
set_option maxHeartbeats 4000000 in
theorem lw_sx {as : List rv_A} {σ σ' : Nat → Int} {o : rv_O} {x : Int32} {a1 : Int} (hx : o.1 = some (.inl x)) (h1 : lw_av as 1 = a1) (hb : ∀ s, (sx_sr s).1 ≤ σ s ∧ σ s ≤ (sx_sr s).2) (h : lw_Qc sx_c235 as σ σ' o) : lw_sx_C a1 x.toInt σ σ' := by
  obtain ⟨g, hg, τ, hW⟩ := h
  simp only [sx_c235, List.mem_cons, List.not_mem_nil, or_false] at hg
  rcases hg with rfl | rfl | rfl
  · exact lw_sx_0 hx h1 hb hW
  · exact lw_sx_1 hx h1 hb hW
  · exact lw_sx_2 hx h1 hb hW
def lw_sm_C (a1 z : Int) (σ σ' : Nat → Int) : Prop := (z = 1 ∧ 1 ≤ a1 ∧ a1 ≤ 255) ∨ (z = 0 ∧ ¬ (1 ≤ a1 ∧ a1 ≤ 255))
theorem lw_sm_0 {as : List rv_A} {σ σ' : Nat → Int} {o : rv_O} {x : Int32} {a1 : Int} {τ : Nat → Int} (hx : o.1 = some (.inl x)) (h1 : lw_av as 1 = a1) (hb : ∀ s, (sx_sr s).1 ≤ σ s ∧ σ s ≤ (sx_sr s).2) (hW : lw_W ([], [(0, [(19001, (-1))])], [(12800, (1, []))], some (false, (0, []))) as σ σ' τ o) : lw_sm_C a1 x.toInt σ σ' := by
  unfold lw_sm_C
  obtain ⟨hs, ht, hf, hr, hm, hw⟩ := hW
  have e1 : τ 19001 = a1 := by rw [ht 19001 (by decide) (by decide)]; exact h1
  clear hs ht hb
  rw [hx] at hr
  obtain ⟨y, hy, hv⟩ := hr
  cases hy
  replace hv : x.toInt = 0 + 0 := hv
  have f0 : 0 ≤ 0 + ((-1) * τ 19001 + 0) := hf _ (List.Mem.head _)
  clear hf hm
  omega
theorem lw_sm_1 {as : List rv_A} {σ σ' : Nat → Int} {o : rv_O} {x : Int32} {a1 : Int} {τ : Nat → Int} (hx : o.1 = some (.inl x)) (h1 : lw_av as 1 = a1) (hb : ∀ s, (sx_sr s).1 ≤ σ s ∧ σ s ≤ (sx_sr s).2) (hW : lw_W ([], [((-256), [(19001, 1)])], [(12800, (1, []))], some (false, (0, []))) as σ σ' τ o) : lw_sm_C a1 x.toInt σ σ' := by
  unfold lw_sm_C
  obtain ⟨hs, ht, hf, hr, hm, hw⟩ := hW
  have e1 : τ 19001 = a1 := by rw [ht 19001 (by decide) (by decide)]; exact h1
  clear hs ht hb
  rw [hx] at hr
  obtain ⟨y, hy, hv⟩ := hr
  cases hy
  replace hv : x.toInt = 0 + 0 := hv
  have f0 : 0 ≤ (-256) + (1 * τ 19001 + 0) := hf _ (List.Mem.head _)
  clear hf hm
  omega
theorem lw_sm_2 {as : List rv_A} {σ σ' : Nat → Int} {o : rv_O} {x : Int32} {a1 : Int} {τ : Nat → Int} (hx : o.1 = some (.inl x)) (h1 : lw_av as 1 = a1) (hb : ∀ s, (sx_sr s).1 ≤ σ s ∧ σ s ≤ (sx_sr s).2) (hW : lw_W ([], [((-1), [(19001, 1)]), (255, [(19001, (-1))])], [(12800, (0, [])), (12806, (0, [(19001, 1)]))], some (false, (1, []))) as σ σ' τ o) : lw_sm_C a1 x.toInt σ σ' := by
  unfold lw_sm_C
  obtain ⟨hs, ht, hf, hr, hm, hw⟩ := hW
  have e1 : τ 19001 = a1 := by rw [ht 19001 (by decide) (by decide)]; exact h1
  clear hs ht hb
  rw [hx] at hr
  obtain ⟨y, hy, hv⟩ := hr
  cases hy
  replace hv : x.toInt = 1 + 0 := hv
  have f0 : 0 ≤ (-1) + (1 * τ 19001 + 0) := hf _ (List.Mem.head _)
  have f1 : 0 ≤ 255 + ((-1) * τ 19001 + 0) := hf _ (List.Mem.tail _ (List.Mem.head _))
  clear hf hm
  omega
set_option maxHeartbeats 4000000 in
theorem lw_sm {as : List rv_A} {σ σ' : Nat → Int} {o : rv_O} {x : Int32} {a1 : Int} (hx : o.1 = some (.inl x)) (h1 : lw_av as 1 = a1) (hb : ∀ s, (sx_sr s).1 ≤ σ s ∧ σ s ≤ (sx_sr s).2) (h : lw_Qc sx_c336 as σ σ' o) : lw_sm_C a1 x.toInt σ σ' := by
  obtain ⟨g, hg, τ, hW⟩ := h
  simp only [sx_c336, List.mem_cons, List.not_mem_nil, or_false] at hg
  rcases hg with rfl | rfl | rfl
  · exact lw_sm_0 hx h1 hb hW
  · exact lw_sm_1 hx h1 hb hW
  · exact lw_sm_2 hx h1 hb hW
theorem lw_same6 {y1 : Int32} {o1 o2 : rv_O} {h0 : List rv_C} {σ σ1 σ2 : Nat → Int} {z1 z2 : Int32} (hz1 : o1.1 = some (.inl z1)) (hz2 : o2.1 = some (.inl z2)) (h1 : lw_Qc sx_c235 [rv_ref 0, .inl y1] σ σ1 o1) (h2 : lw_Qc sx_c336 [rv_ref 100, .inl y1] σ1 σ2 o2) (hR : lw_R σ) (hJ : lw_Js σ h0) (hJ1 : lw_Js σ1 o1.2) (hJ2 : lw_Js σ2 o2.2) : z1 = z2 := by
  have g1 := lw_sx (a1 := y1.toInt) hz1 rfl hJ.2.1 h1
  have g2 := lw_sm (a1 := y1.toInt) hz2 rfl hJ1.2.1 h2
  unfold lw_sx_C at g1
  unfold lw_sm_C at g2
  apply Int32.toInt_inj.mp
  omega
