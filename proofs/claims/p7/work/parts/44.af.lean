set_option maxHeartbeats 4000000 in
theorem lw_px {as : List rv_A} {σ σ' : Nat → Int} {o : rv_O} {x : Int32} {a1 a2 : Int} {A : Nat → Nat → Int} (hx : o.1 = some (.inl x)) (h1 : lw_av as 1 = a1) (h2 : lw_av as 2 = a2) (hb : ∀ s, (sx_sr s).1 ≤ σ s ∧ σ s ≤ (sx_sr s).2) (hG : sx_GG σ' A) (h : lw_Qc sx_c221 as σ σ' o) : lw_px_C a1 a2 x.toInt σ σ' := by
  obtain ⟨g, hg, τ, hW⟩ := h
  simp only [sx_c221, List.mem_cons, List.not_mem_nil, or_false] at hg
  rcases hg with rfl | rfl | rfl | rfl | rfl | rfl | rfl | rfl | rfl | rfl | rfl | rfl | rfl | rfl | rfl | rfl | rfl | rfl | rfl | rfl | rfl | rfl | rfl | rfl | rfl | rfl | rfl | rfl | rfl | rfl | rfl | rfl | rfl | rfl | rfl | rfl | rfl | rfl | rfl | rfl | rfl | rfl | rfl | rfl | rfl | rfl | rfl | rfl | rfl | rfl | rfl | rfl | rfl | rfl | rfl | rfl | rfl | rfl | rfl | rfl | rfl | rfl | rfl | rfl | rfl | rfl | rfl | rfl | rfl | rfl | rfl | rfl | rfl | rfl | rfl | rfl | rfl | rfl | rfl | rfl | rfl | rfl | rfl | rfl | rfl | rfl | rfl | rfl | rfl | rfl | rfl | rfl | rfl | rfl | rfl | rfl | rfl | rfl | rfl | rfl | rfl | rfl | rfl | rfl | rfl | rfl | rfl | rfl | rfl | rfl | rfl | rfl | rfl | rfl | rfl | rfl | rfl | rfl | rfl | rfl | rfl | rfl
  · exact lw_px_0 hx h1 h2 hb hG hW
  · exact lw_px_1 hx h1 h2 hb hG hW
  · exact lw_px_2 hx h1 h2 hb hG hW
  · exact lw_px_3 hx h1 h2 hb hG hW
  · exact lw_px_4 hx h1 h2 hb hG hW
  · exact lw_px_5 hx h1 h2 hb hG hW
  · exact lw_px_6 hx h1 h2 hb hG hW
  · exact lw_px_7 hx h1 h2 hb hG hW
  · exact lw_px_8 hx h1 h2 hb hG hW
  · exact lw_px_9 hx h1 h2 hb hG hW
  · exact lw_px_10 hx h1 h2 hb hG hW
  · exact lw_px_11 hx h1 h2 hb hG hW
  · exact lw_px_12 hx h1 h2 hb hG hW
  · exact lw_px_13 hx h1 h2 hb hG hW
  · exact lw_px_14 hx h1 h2 hb hG hW
  · exact lw_px_15 hx h1 h2 hb hG hW
  · exact lw_px_16 hx h1 h2 hb hG hW
  · exact lw_px_17 hx h1 h2 hb hG hW
  · exact lw_px_18 hx h1 h2 hb hG hW
  · exact lw_px_19 hx h1 h2 hb hG hW
  · exact lw_px_20 hx h1 h2 hb hG hW
  · exact lw_px_21 hx h1 h2 hb hG hW
  · exact lw_px_22 hx h1 h2 hb hG hW
  · exact lw_px_23 hx h1 h2 hb hG hW
  · exact lw_px_24 hx h1 h2 hb hG hW
  · exact lw_px_25 hx h1 h2 hb hG hW
  · exact lw_px_26 hx h1 h2 hb hG hW
  · exact lw_px_27 hx h1 h2 hb hG hW
  · exact lw_px_28 hx h1 h2 hb hG hW
  · exact lw_px_29 hx h1 h2 hb hG hW
  · exact lw_px_30 hx h1 h2 hb hG hW
  · exact lw_px_31 hx h1 h2 hb hG hW
  · exact lw_px_32 hx h1 h2 hb hG hW
  · exact lw_px_33 hx h1 h2 hb hG hW
  · exact lw_px_34 hx h1 h2 hb hG hW
  · exact lw_px_35 hx h1 h2 hb hG hW
  · exact lw_px_36 hx h1 h2 hb hG hW
  · exact lw_px_37 hx h1 h2 hb hG hW
  · exact lw_px_38 hx h1 h2 hb hG hW
  · exact lw_px_39 hx h1 h2 hb hG hW
  · exact lw_px_40 hx h1 h2 hb hG hW
  · exact lw_px_41 hx h1 h2 hb hG hW
  · exact lw_px_42 hx h1 h2 hb hG hW
  · exact lw_px_43 hx h1 h2 hb hG hW
  · exact lw_px_44 hx h1 h2 hb hG hW
  · exact lw_px_45 hx h1 h2 hb hG hW
  · exact lw_px_46 hx h1 h2 hb hG hW
  · exact lw_px_47 hx h1 h2 hb hG hW
  · exact lw_px_48 hx h1 h2 hb hG hW
  · exact lw_px_49 hx h1 h2 hb hG hW
  · exact lw_px_50 hx h1 h2 hb hG hW
  · exact lw_px_51 hx h1 h2 hb hG hW
  · exact lw_px_52 hx h1 h2 hb hG hW
  · exact lw_px_53 hx h1 h2 hb hG hW
  · exact lw_px_54 hx h1 h2 hb hG hW
  · exact lw_px_55 hx h1 h2 hb hG hW
  · exact lw_px_56 hx h1 h2 hb hG hW
  · exact lw_px_57 hx h1 h2 hb hG hW
  · exact lw_px_58 hx h1 h2 hb hG hW
  · exact lw_px_59 hx h1 h2 hb hG hW
  · exact lw_px_60 hx h1 h2 hb hG hW
  · exact lw_px_61 hx h1 h2 hb hG hW
  · exact lw_px_62 hx h1 h2 hb hG hW
  · exact lw_px_63 hx h1 h2 hb hG hW
  · exact lw_px_64 hx h1 h2 hb hG hW
  · exact lw_px_65 hx h1 h2 hb hG hW
  · exact lw_px_66 hx h1 h2 hb hG hW
  · exact lw_px_67 hx h1 h2 hb hG hW
  · exact lw_px_68 hx h1 h2 hb hG hW
  · exact lw_px_69 hx h1 h2 hb hG hW
  · exact lw_px_70 hx h1 h2 hb hG hW
  · exact lw_px_71 hx h1 h2 hb hG hW
  · exact lw_px_72 hx h1 h2 hb hG hW
  · exact lw_px_73 hx h1 h2 hb hG hW
  · exact lw_px_74 hx h1 h2 hb hG hW
  · exact lw_px_75 hx h1 h2 hb hG hW
  · exact lw_px_76 hx h1 h2 hb hG hW
  · exact lw_px_77 hx h1 h2 hb hG hW
  · exact lw_px_78 hx h1 h2 hb hG hW
  · exact lw_px_79 hx h1 h2 hb hG hW
  · exact lw_px_80 hx h1 h2 hb hG hW
  · exact lw_px_81 hx h1 h2 hb hG hW
  · exact lw_px_82 hx h1 h2 hb hG hW
  · exact lw_px_83 hx h1 h2 hb hG hW
  · exact lw_px_84 hx h1 h2 hb hG hW
  · exact lw_px_85 hx h1 h2 hb hG hW
  · exact lw_px_86 hx h1 h2 hb hG hW
  · exact lw_px_87 hx h1 h2 hb hG hW
  · exact lw_px_88 hx h1 h2 hb hG hW
  · exact lw_px_89 hx h1 h2 hb hG hW
  · exact lw_px_90 hx h1 h2 hb hG hW
  · exact lw_px_91 hx h1 h2 hb hG hW
  · exact lw_px_92 hx h1 h2 hb hG hW
  · exact lw_px_93 hx h1 h2 hb hG hW
  · exact lw_px_94 hx h1 h2 hb hG hW
  · exact lw_px_95 hx h1 h2 hb hG hW
  · exact lw_px_96 hx h1 h2 hb hG hW
  · exact lw_px_97 hx h1 h2 hb hG hW
  · exact lw_px_98 hx h1 h2 hb hG hW
  · exact lw_px_99 hx h1 h2 hb hG hW
  · exact lw_px_100 hx h1 h2 hb hG hW
  · exact lw_px_101 hx h1 h2 hb hG hW
  · exact lw_px_102 hx h1 h2 hb hG hW
  · exact lw_px_103 hx h1 h2 hb hG hW
  · exact lw_px_104 hx h1 h2 hb hG hW
  · exact lw_px_105 hx h1 h2 hb hG hW
  · exact lw_px_106 hx h1 h2 hb hG hW
  · exact lw_px_107 hx h1 h2 hb hG hW
  · exact lw_px_108 hx h1 h2 hb hG hW
  · exact lw_px_109 hx h1 h2 hb hG hW
  · exact lw_px_110 hx h1 h2 hb hG hW
  · exact lw_px_111 hx h1 h2 hb hG hW
  · exact lw_px_112 hx h1 h2 hb hG hW
  · exact lw_px_113 hx h1 h2 hb hG hW
  · exact lw_px_114 hx h1 h2 hb hG hW
  · exact lw_px_115 hx h1 h2 hb hG hW
  · exact lw_px_116 hx h1 h2 hb hG hW
  · exact lw_px_117 hx h1 h2 hb hG hW
  · exact lw_px_118 hx h1 h2 hb hG hW
  · exact lw_px_119 hx h1 h2 hb hG hW
  · exact lw_px_120 hx h1 h2 hb hG hW
  · exact lw_px_121 hx h1 h2 hb hG hW
def lw_pm_C (a1 a2 z : Int) (σ σ' : Nat → Int) : Prop := lw_PQc a1 a2 z (σ 12804) (σ' 12804) (σ 18528) (σ 18529) (σ 18530) (σ 18531) (σ 18532) (σ 18533) (σ 18534) (σ 18535) (σ' 18528) (σ' 18529) (σ' 18530) (σ' 18531) (σ' 18532) (σ' 18533) (σ' 18534) (σ' 18535) ∧ σ' 133 = σ 133 ∧ σ' 134 = σ 134 ∧ σ' 12805 = σ 12805 ∧ σ' 10250 = σ 10250 ∧ σ' 12814 = σ 12814 ∧ σ' 18520 = σ 18520 ∧ σ' 18521 = σ 18521 ∧ σ' 18522 = σ 18522 ∧ σ' 18523 = σ 18523 ∧ σ' 18524 = σ 18524 ∧ σ' 18525 = σ 18525 ∧ σ' 18526 = σ 18526 ∧ σ' 18527 = σ 18527
theorem lw_pm_0 {as : List rv_A} {σ σ' : Nat → Int} {o : rv_O} {x : Int32} {a1 a2 : Int} {A : Nat → Nat → Int} {τ : Nat → Int} (hx : o.1 = some (.inl x)) (h1 : lw_av as 1 = a1) (h2 : lw_av as 2 = a2) (hb : ∀ s, (sx_sr s).1 ≤ σ s ∧ σ s ≤ (sx_sr s).2) (hG : sx_GG σ' A) (hW : lw_W ([(18509, 1, 1099511627770), (18510, 0, 34359738367)], [(0, [(12804, (-1))]), ((-1), [(19001, 1)]), (293, [(19001, (-1))]), (0, [(19002, 1)]), (9, [(19002, (-1))]), (0, [(12804, 1)])], [(12800, (0, [])), (12804, (1, [(12804, 1)])), (18462, (0, [])), (18463, (0, [])), (18464, (0, [])), (18465, ((-1), [])), (18466, (0, [])), (18467, (0, [])), (18468, (0, [])), (18469, ((-1), [])), (18470, ((-1), [])), (18471, ((-1), [])), (18472, (0, [])), (18473, (0, [])), (18509, (0, [(1000000, 1)])), (18510, (0, [(1000001, 1)])), (18511, (0, [(19001, 1)])), (18512, (0, [])), (18513, (1, [])), (18517, (0, [(19001, 1)])), (18518, (0, [])), (18519, ((-1), [])), (18528, (0, [(19001, 1)]))], some (false, (0, [(12804, 1)]))) as σ σ' τ o) : lw_pm_C a1 a2 x.toInt σ σ' := by
  unfold lw_pm_C
  have bM : 0 ≤ σ 12804 ∧ σ 12804 ≤ 8 := by
    have h0 := hb 12804
    rw [show sx_sr 12804 = (0, 8) from by decide +kernel] at h0
    exact h0
  obtain ⟨-, -, -, -, -, -, -, -, -, -, -, -, -, -, -, -, -, -, -, g19, g20, -, g22, -, g24⟩ := hG
  obtain ⟨hs, ht, hf, hr, hm, hw⟩ := hW
  have e1 : τ 19001 = a1 := by rw [ht 19001 (by decide) (by decide)]; exact h1
  have e2 : τ 19002 = a2 := by rw [ht 19002 (by decide) (by decide)]; exact h2
  have s133 : τ 133 = σ 133 := hs 133 (by decide)
  have s134 : τ 134 = σ 134 := hs 134 (by decide)
  have s10250 : τ 10250 = σ 10250 := hs 10250 (by decide)
  have s12804 : τ 12804 = σ 12804 := hs 12804 (by decide)
  have s12805 : τ 12805 = σ 12805 := hs 12805 (by decide)
  have s12814 : τ 12814 = σ 12814 := hs 12814 (by decide)
  have s18520 : τ 18520 = σ 18520 := hs 18520 (by decide)
  have s18521 : τ 18521 = σ 18521 := hs 18521 (by decide)
  have s18522 : τ 18522 = σ 18522 := hs 18522 (by decide)
  have s18523 : τ 18523 = σ 18523 := hs 18523 (by decide)
  have s18524 : τ 18524 = σ 18524 := hs 18524 (by decide)
  have s18525 : τ 18525 = σ 18525 := hs 18525 (by decide)
  have s18526 : τ 18526 = σ 18526 := hs 18526 (by decide)
  have s18527 : τ 18527 = σ 18527 := hs 18527 (by decide)
  have s18528 : τ 18528 = σ 18528 := hs 18528 (by decide)
  have s18529 : τ 18529 = σ 18529 := hs 18529 (by decide)
  have s18530 : τ 18530 = σ 18530 := hs 18530 (by decide)
  have s18531 : τ 18531 = σ 18531 := hs 18531 (by decide)
  have s18532 : τ 18532 = σ 18532 := hs 18532 (by decide)
  have s18533 : τ 18533 = σ 18533 := hs 18533 (by decide)
  have s18534 : τ 18534 = σ 18534 := hs 18534 (by decide)
  have s18535 : τ 18535 = σ 18535 := hs 18535 (by decide)
  clear ht hb h1 h2
  rw [hx] at hr
  clear hx
  obtain ⟨y, hy, hv⟩ := hr
  cases hy
  replace hv : x.toInt = 0 + (1 * τ 12804 + 0) := hv
  have sm : σ' 133 = σ 133 ∧ σ' 134 = σ 134 ∧ σ' 12805 = σ 12805 ∧ σ' 10250 = σ 10250 ∧ σ' 12814 = σ 12814 ∧ σ' 18520 = σ 18520 ∧ σ' 18521 = σ 18521 ∧ σ' 18522 = σ 18522 ∧ σ' 18523 = σ 18523 ∧ σ' 18524 = σ 18524 ∧ σ' 18525 = σ 18525 ∧ σ' 18526 = σ 18526 ∧ σ' 18527 = σ 18527 := ⟨lw_id s133 (hm 133 (by decide)), lw_id s134 (hm 134 (by decide)), lw_id s12805 (hm 12805 (by decide)), lw_id s10250 (hm 10250 (by decide)), lw_id s12814 (hm 12814 (by decide)), lw_id s18520 (hm 18520 (by decide)), lw_id s18521 (hm 18521 (by decide)), lw_id s18522 (hm 18522 (by decide)), lw_id s18523 (hm 18523 (by decide)), lw_id s18524 (hm 18524 (by decide)), lw_id s18525 (hm 18525 (by decide)), lw_id s18526 (hm 18526 (by decide)), lw_id s18527 (hm 18527 (by decide))⟩
  refine ⟨?_, sm⟩
  clear sm
  have f0 : 0 ≤ 0 + ((-1) * τ 12804 + 0) := hf _ (List.Mem.head _)
  have f1 : 0 ≤ (-1) + (1 * τ 19001 + 0) := hf _ (List.Mem.tail _ (List.Mem.head _))
  have f2 : 0 ≤ 293 + ((-1) * τ 19001 + 0) := hf _ (List.Mem.tail _ (List.Mem.tail _ (List.Mem.head _)))
  have f3 : 0 ≤ 0 + (1 * τ 19002 + 0) := hf _ (List.Mem.tail _ (List.Mem.tail _ (List.Mem.tail _ (List.Mem.head _))))
  have f4 : 0 ≤ 9 + ((-1) * τ 19002 + 0) := hf _ (List.Mem.tail _ (List.Mem.tail _ (List.Mem.tail _ (List.Mem.tail _ (List.Mem.head _)))))
  have f5 : 0 ≤ 0 + (1 * τ 12804 + 0) := hf _ (List.Mem.tail _ (List.Mem.tail _ (List.Mem.tail _ (List.Mem.tail _ (List.Mem.tail _ (List.Mem.head _))))))
  have m18511 : σ' 18511 = 0 + (1 * τ 19001 + 0) := hm 18511 (by decide)
  have m18512 : σ' 18512 = 0 + 0 := hm 18512 (by decide)
  have m18513 : σ' 18513 = 1 + 0 := hm 18513 (by decide)
  have hok : lw_OK a1 a2 := by
    refine ⟨?_, by omega, by omega, ⟨by omega, by omega, by omega, by omega, by omega, by omega, by omega, by omega⟩, by omega, by omega⟩
    have h0 := g20.1 (by omega)
    rw [show σ' 18511 = a1 by omega, show σ' 18512 = 0 by omega] at h0
    exact h0.mpr sx_gdn_0
  have m18517 : σ' 18517 = 0 + (1 * τ 19001 + 0) := hm 18517 (by decide)
  have m18518 : σ' 18518 = 0 + 0 := hm 18518 (by decide)
  have m12804 : σ' 12804 = 1 + (1 * τ 12804 + 0) := hm 12804 (by decide)
  obtain ⟨n0, n1, n2, n3, n4, n5, n6, n7⟩ := g24
  have m18528 : σ' 18528 = 0 + (1 * τ 19001 + 0) := hm 18528 (by decide)
  have q18529 := lw_id s18529 (hm 18529 (by decide))
  have q18530 := lw_id s18530 (hm 18530 (by decide))
  have q18531 := lw_id s18531 (hm 18531 (by decide))
  have q18532 := lw_id s18532 (hm 18532 (by decide))
  have q18533 := lw_id s18533 (hm 18533 (by decide))
  have q18534 := lw_id s18534 (hm 18534 (by decide))
  have q18535 := lw_id s18535 (hm 18535 (by decide))
  have hj : σ 12804 = 0 := by omega
  exact Or.inr (Or.inr (Or.inr ⟨by omega, by omega, hok, by omega, by omega, ⟨fun h => absurd h (by omega), fun h => absurd h (by omega), fun h => absurd h (by omega), fun h => absurd h (by omega), fun h => absurd h (by omega), fun h => absurd h (by omega), fun h => absurd h (by omega), fun h => absurd h (by omega)⟩, ⟨Or.inl ⟨hj, by omega⟩, Or.inr ⟨by omega, q18529⟩, Or.inr ⟨by omega, q18530⟩, Or.inr ⟨by omega, q18531⟩, Or.inr ⟨by omega, q18532⟩, Or.inr ⟨by omega, q18533⟩, Or.inr ⟨by omega, q18534⟩, Or.inr ⟨by omega, q18535⟩⟩⟩))
theorem lw_pm_1 {as : List rv_A} {σ σ' : Nat → Int} {o : rv_O} {x : Int32} {a1 a2 : Int} {A : Nat → Nat → Int} {τ : Nat → Int} (hx : o.1 = some (.inl x)) (h1 : lw_av as 1 = a1) (h2 : lw_av as 2 = a2) (hb : ∀ s, (sx_sr s).1 ≤ σ s ∧ σ s ≤ (sx_sr s).2) (hG : sx_GG σ' A) (hW : lw_W ([(18509, 1, 1099511627770), (18510, 0, 34359738367)], [(0, [(12804, (-1))]), ((-11567), [(19001, 1)]), (14835, [(19001, (-1))]), (0, [(19002, 1)]), (9, [(19002, (-1))]), (0, [(12804, 1)])], [(12800, (0, [])), (12804, (1, [(12804, 1)])), (18462, (0, [])), (18463, (0, [])), (18464, (0, [])), (18465, ((-1), [])), (18466, (0, [])), (18467, (0, [])), (18468, (0, [])), (18469, ((-1), [])), (18470, ((-1), [])), (18471, ((-1), [])), (18472, (0, [])), (18473, (0, [])), (18509, (0, [(1000000, 1)])), (18510, (0, [(1000001, 1)])), (18511, (0, [(19001, 1)])), (18512, (0, [])), (18513, (1, [])), (18517, (0, [(19001, 1)])), (18518, (0, [])), (18519, ((-1), [])), (18528, (0, [(19001, 1)]))], some (false, (0, [(12804, 1)]))) as σ σ' τ o) : lw_pm_C a1 a2 x.toInt σ σ' := by
  unfold lw_pm_C
  have bM : 0 ≤ σ 12804 ∧ σ 12804 ≤ 8 := by
    have h0 := hb 12804
    rw [show sx_sr 12804 = (0, 8) from by decide +kernel] at h0
    exact h0
  obtain ⟨-, -, -, -, -, -, -, -, -, -, -, -, -, -, -, -, -, -, -, g19, g20, -, g22, -, g24⟩ := hG
  obtain ⟨hs, ht, hf, hr, hm, hw⟩ := hW
  have e1 : τ 19001 = a1 := by rw [ht 19001 (by decide) (by decide)]; exact h1
  have e2 : τ 19002 = a2 := by rw [ht 19002 (by decide) (by decide)]; exact h2
  have s133 : τ 133 = σ 133 := hs 133 (by decide)
  have s134 : τ 134 = σ 134 := hs 134 (by decide)
  have s10250 : τ 10250 = σ 10250 := hs 10250 (by decide)
  have s12804 : τ 12804 = σ 12804 := hs 12804 (by decide)
  have s12805 : τ 12805 = σ 12805 := hs 12805 (by decide)
  have s12814 : τ 12814 = σ 12814 := hs 12814 (by decide)
  have s18520 : τ 18520 = σ 18520 := hs 18520 (by decide)
  have s18521 : τ 18521 = σ 18521 := hs 18521 (by decide)
  have s18522 : τ 18522 = σ 18522 := hs 18522 (by decide)
  have s18523 : τ 18523 = σ 18523 := hs 18523 (by decide)
  have s18524 : τ 18524 = σ 18524 := hs 18524 (by decide)
  have s18525 : τ 18525 = σ 18525 := hs 18525 (by decide)
  have s18526 : τ 18526 = σ 18526 := hs 18526 (by decide)
  have s18527 : τ 18527 = σ 18527 := hs 18527 (by decide)
  have s18528 : τ 18528 = σ 18528 := hs 18528 (by decide)
  have s18529 : τ 18529 = σ 18529 := hs 18529 (by decide)
  have s18530 : τ 18530 = σ 18530 := hs 18530 (by decide)
  have s18531 : τ 18531 = σ 18531 := hs 18531 (by decide)
  have s18532 : τ 18532 = σ 18532 := hs 18532 (by decide)
  have s18533 : τ 18533 = σ 18533 := hs 18533 (by decide)
  have s18534 : τ 18534 = σ 18534 := hs 18534 (by decide)
  have s18535 : τ 18535 = σ 18535 := hs 18535 (by decide)
  clear ht hb h1 h2
  rw [hx] at hr
  clear hx
  obtain ⟨y, hy, hv⟩ := hr
  cases hy
  replace hv : x.toInt = 0 + (1 * τ 12804 + 0) := hv
  have sm : σ' 133 = σ 133 ∧ σ' 134 = σ 134 ∧ σ' 12805 = σ 12805 ∧ σ' 10250 = σ 10250 ∧ σ' 12814 = σ 12814 ∧ σ' 18520 = σ 18520 ∧ σ' 18521 = σ 18521 ∧ σ' 18522 = σ 18522 ∧ σ' 18523 = σ 18523 ∧ σ' 18524 = σ 18524 ∧ σ' 18525 = σ 18525 ∧ σ' 18526 = σ 18526 ∧ σ' 18527 = σ 18527 := ⟨lw_id s133 (hm 133 (by decide)), lw_id s134 (hm 134 (by decide)), lw_id s12805 (hm 12805 (by decide)), lw_id s10250 (hm 10250 (by decide)), lw_id s12814 (hm 12814 (by decide)), lw_id s18520 (hm 18520 (by decide)), lw_id s18521 (hm 18521 (by decide)), lw_id s18522 (hm 18522 (by decide)), lw_id s18523 (hm 18523 (by decide)), lw_id s18524 (hm 18524 (by decide)), lw_id s18525 (hm 18525 (by decide)), lw_id s18526 (hm 18526 (by decide)), lw_id s18527 (hm 18527 (by decide))⟩
  refine ⟨?_, sm⟩
  clear sm
  have f0 : 0 ≤ 0 + ((-1) * τ 12804 + 0) := hf _ (List.Mem.head _)
  have f1 : 0 ≤ (-11567) + (1 * τ 19001 + 0) := hf _ (List.Mem.tail _ (List.Mem.head _))
  have f2 : 0 ≤ 14835 + ((-1) * τ 19001 + 0) := hf _ (List.Mem.tail _ (List.Mem.tail _ (List.Mem.head _)))
  have f3 : 0 ≤ 0 + (1 * τ 19002 + 0) := hf _ (List.Mem.tail _ (List.Mem.tail _ (List.Mem.tail _ (List.Mem.head _))))
  have f4 : 0 ≤ 9 + ((-1) * τ 19002 + 0) := hf _ (List.Mem.tail _ (List.Mem.tail _ (List.Mem.tail _ (List.Mem.tail _ (List.Mem.head _)))))
  have f5 : 0 ≤ 0 + (1 * τ 12804 + 0) := hf _ (List.Mem.tail _ (List.Mem.tail _ (List.Mem.tail _ (List.Mem.tail _ (List.Mem.tail _ (List.Mem.head _))))))
  have m18511 : σ' 18511 = 0 + (1 * τ 19001 + 0) := hm 18511 (by decide)
  have m18512 : σ' 18512 = 0 + 0 := hm 18512 (by decide)
  have m18513 : σ' 18513 = 1 + 0 := hm 18513 (by decide)
  have hok : lw_OK a1 a2 := by
    refine ⟨?_, by omega, by omega, ⟨by omega, by omega, by omega, by omega, by omega, by omega, by omega, by omega⟩, by omega, by omega⟩
    have h0 := g20.1 (by omega)
    rw [show σ' 18511 = a1 by omega, show σ' 18512 = 0 by omega] at h0
    exact h0.mpr sx_gdn_0
  have m18517 : σ' 18517 = 0 + (1 * τ 19001 + 0) := hm 18517 (by decide)
  have m18518 : σ' 18518 = 0 + 0 := hm 18518 (by decide)
  have m12804 : σ' 12804 = 1 + (1 * τ 12804 + 0) := hm 12804 (by decide)
  obtain ⟨n0, n1, n2, n3, n4, n5, n6, n7⟩ := g24
  have m18528 : σ' 18528 = 0 + (1 * τ 19001 + 0) := hm 18528 (by decide)
  have q18529 := lw_id s18529 (hm 18529 (by decide))
  have q18530 := lw_id s18530 (hm 18530 (by decide))
  have q18531 := lw_id s18531 (hm 18531 (by decide))
  have q18532 := lw_id s18532 (hm 18532 (by decide))
  have q18533 := lw_id s18533 (hm 18533 (by decide))
  have q18534 := lw_id s18534 (hm 18534 (by decide))
  have q18535 := lw_id s18535 (hm 18535 (by decide))
  have hj : σ 12804 = 0 := by omega
  exact Or.inr (Or.inr (Or.inr ⟨by omega, by omega, hok, by omega, by omega, ⟨fun h => absurd h (by omega), fun h => absurd h (by omega), fun h => absurd h (by omega), fun h => absurd h (by omega), fun h => absurd h (by omega), fun h => absurd h (by omega), fun h => absurd h (by omega), fun h => absurd h (by omega)⟩, ⟨Or.inl ⟨hj, by omega⟩, Or.inr ⟨by omega, q18529⟩, Or.inr ⟨by omega, q18530⟩, Or.inr ⟨by omega, q18531⟩, Or.inr ⟨by omega, q18532⟩, Or.inr ⟨by omega, q18533⟩, Or.inr ⟨by omega, q18534⟩, Or.inr ⟨by omega, q18535⟩⟩⟩))
theorem lw_pm_2 {as : List rv_A} {σ σ' : Nat → Int} {o : rv_O} {x : Int32} {a1 a2 : Int} {A : Nat → Nat → Int} {τ : Nat → Int} (hx : o.1 = some (.inl x)) (h1 : lw_av as 1 = a1) (h2 : lw_av as 2 = a2) (hb : ∀ s, (sx_sr s).1 ≤ σ s ∧ σ s ≤ (sx_sr s).2) (hG : sx_GG σ' A) (hW : lw_W ([(18509, 1, 1099511627770), (18510, 0, 34359738367)], [(0, [(12804, (-1))]), ((-1157), [(19001, 1)]), (1475, [(19001, (-1))]), (0, [(19002, 1)]), (9, [(19002, (-1))]), (0, [(12804, 1)])], [(12800, (0, [])), (12804, (1, [(12804, 1)])), (18462, (0, [])), (18463, (0, [])), (18464, (0, [])), (18465, ((-1), [])), (18466, (0, [])), (18467, (0, [])), (18468, (0, [])), (18469, ((-1), [])), (18470, ((-1), [])), (18471, ((-1), [])), (18472, (0, [])), (18473, (0, [])), (18509, (0, [(1000000, 1)])), (18510, (0, [(1000001, 1)])), (18511, (0, [(19001, 1)])), (18512, (0, [])), (18513, (1, [])), (18517, (0, [(19001, 1)])), (18518, (0, [])), (18519, ((-1), [])), (18528, (0, [(19001, 1)]))], some (false, (0, [(12804, 1)]))) as σ σ' τ o) : lw_pm_C a1 a2 x.toInt σ σ' := by
  unfold lw_pm_C
  have bM : 0 ≤ σ 12804 ∧ σ 12804 ≤ 8 := by
    have h0 := hb 12804
    rw [show sx_sr 12804 = (0, 8) from by decide +kernel] at h0
    exact h0
  obtain ⟨-, -, -, -, -, -, -, -, -, -, -, -, -, -, -, -, -, -, -, g19, g20, -, g22, -, g24⟩ := hG
  obtain ⟨hs, ht, hf, hr, hm, hw⟩ := hW
  have e1 : τ 19001 = a1 := by rw [ht 19001 (by decide) (by decide)]; exact h1
  have e2 : τ 19002 = a2 := by rw [ht 19002 (by decide) (by decide)]; exact h2
  have s133 : τ 133 = σ 133 := hs 133 (by decide)
  have s134 : τ 134 = σ 134 := hs 134 (by decide)
  have s10250 : τ 10250 = σ 10250 := hs 10250 (by decide)
  have s12804 : τ 12804 = σ 12804 := hs 12804 (by decide)
  have s12805 : τ 12805 = σ 12805 := hs 12805 (by decide)
  have s12814 : τ 12814 = σ 12814 := hs 12814 (by decide)
  have s18520 : τ 18520 = σ 18520 := hs 18520 (by decide)
  have s18521 : τ 18521 = σ 18521 := hs 18521 (by decide)
  have s18522 : τ 18522 = σ 18522 := hs 18522 (by decide)
  have s18523 : τ 18523 = σ 18523 := hs 18523 (by decide)
  have s18524 : τ 18524 = σ 18524 := hs 18524 (by decide)
  have s18525 : τ 18525 = σ 18525 := hs 18525 (by decide)
  have s18526 : τ 18526 = σ 18526 := hs 18526 (by decide)
  have s18527 : τ 18527 = σ 18527 := hs 18527 (by decide)
  have s18528 : τ 18528 = σ 18528 := hs 18528 (by decide)
  have s18529 : τ 18529 = σ 18529 := hs 18529 (by decide)
  have s18530 : τ 18530 = σ 18530 := hs 18530 (by decide)
  have s18531 : τ 18531 = σ 18531 := hs 18531 (by decide)
  have s18532 : τ 18532 = σ 18532 := hs 18532 (by decide)
  have s18533 : τ 18533 = σ 18533 := hs 18533 (by decide)
  have s18534 : τ 18534 = σ 18534 := hs 18534 (by decide)
  have s18535 : τ 18535 = σ 18535 := hs 18535 (by decide)
  clear ht hb h1 h2
  rw [hx] at hr
  clear hx
  obtain ⟨y, hy, hv⟩ := hr
  cases hy
  replace hv : x.toInt = 0 + (1 * τ 12804 + 0) := hv
  have sm : σ' 133 = σ 133 ∧ σ' 134 = σ 134 ∧ σ' 12805 = σ 12805 ∧ σ' 10250 = σ 10250 ∧ σ' 12814 = σ 12814 ∧ σ' 18520 = σ 18520 ∧ σ' 18521 = σ 18521 ∧ σ' 18522 = σ 18522 ∧ σ' 18523 = σ 18523 ∧ σ' 18524 = σ 18524 ∧ σ' 18525 = σ 18525 ∧ σ' 18526 = σ 18526 ∧ σ' 18527 = σ 18527 := ⟨lw_id s133 (hm 133 (by decide)), lw_id s134 (hm 134 (by decide)), lw_id s12805 (hm 12805 (by decide)), lw_id s10250 (hm 10250 (by decide)), lw_id s12814 (hm 12814 (by decide)), lw_id s18520 (hm 18520 (by decide)), lw_id s18521 (hm 18521 (by decide)), lw_id s18522 (hm 18522 (by decide)), lw_id s18523 (hm 18523 (by decide)), lw_id s18524 (hm 18524 (by decide)), lw_id s18525 (hm 18525 (by decide)), lw_id s18526 (hm 18526 (by decide)), lw_id s18527 (hm 18527 (by decide))⟩
  refine ⟨?_, sm⟩
  clear sm
  have f0 : 0 ≤ 0 + ((-1) * τ 12804 + 0) := hf _ (List.Mem.head _)
  have f1 : 0 ≤ (-1157) + (1 * τ 19001 + 0) := hf _ (List.Mem.tail _ (List.Mem.head _))
  have f2 : 0 ≤ 1475 + ((-1) * τ 19001 + 0) := hf _ (List.Mem.tail _ (List.Mem.tail _ (List.Mem.head _)))
  have f3 : 0 ≤ 0 + (1 * τ 19002 + 0) := hf _ (List.Mem.tail _ (List.Mem.tail _ (List.Mem.tail _ (List.Mem.head _))))
  have f4 : 0 ≤ 9 + ((-1) * τ 19002 + 0) := hf _ (List.Mem.tail _ (List.Mem.tail _ (List.Mem.tail _ (List.Mem.tail _ (List.Mem.head _)))))
  have f5 : 0 ≤ 0 + (1 * τ 12804 + 0) := hf _ (List.Mem.tail _ (List.Mem.tail _ (List.Mem.tail _ (List.Mem.tail _ (List.Mem.tail _ (List.Mem.head _))))))
  have m18511 : σ' 18511 = 0 + (1 * τ 19001 + 0) := hm 18511 (by decide)
  have m18512 : σ' 18512 = 0 + 0 := hm 18512 (by decide)
  have m18513 : σ' 18513 = 1 + 0 := hm 18513 (by decide)
  have hok : lw_OK a1 a2 := by
    refine ⟨?_, by omega, by omega, ⟨by omega, by omega, by omega, by omega, by omega, by omega, by omega, by omega⟩, by omega, by omega⟩
    have h0 := g20.1 (by omega)
    rw [show σ' 18511 = a1 by omega, show σ' 18512 = 0 by omega] at h0
    exact h0.mpr sx_gdn_0
  have m18517 : σ' 18517 = 0 + (1 * τ 19001 + 0) := hm 18517 (by decide)
  have m18518 : σ' 18518 = 0 + 0 := hm 18518 (by decide)
  have m12804 : σ' 12804 = 1 + (1 * τ 12804 + 0) := hm 12804 (by decide)
  obtain ⟨n0, n1, n2, n3, n4, n5, n6, n7⟩ := g24
  have m18528 : σ' 18528 = 0 + (1 * τ 19001 + 0) := hm 18528 (by decide)
  have q18529 := lw_id s18529 (hm 18529 (by decide))
  have q18530 := lw_id s18530 (hm 18530 (by decide))
  have q18531 := lw_id s18531 (hm 18531 (by decide))
  have q18532 := lw_id s18532 (hm 18532 (by decide))
  have q18533 := lw_id s18533 (hm 18533 (by decide))
  have q18534 := lw_id s18534 (hm 18534 (by decide))
  have q18535 := lw_id s18535 (hm 18535 (by decide))
  have hj : σ 12804 = 0 := by omega
  exact Or.inr (Or.inr (Or.inr ⟨by omega, by omega, hok, by omega, by omega, ⟨fun h => absurd h (by omega), fun h => absurd h (by omega), fun h => absurd h (by omega), fun h => absurd h (by omega), fun h => absurd h (by omega), fun h => absurd h (by omega), fun h => absurd h (by omega), fun h => absurd h (by omega)⟩, ⟨Or.inl ⟨hj, by omega⟩, Or.inr ⟨by omega, q18529⟩, Or.inr ⟨by omega, q18530⟩, Or.inr ⟨by omega, q18531⟩, Or.inr ⟨by omega, q18532⟩, Or.inr ⟨by omega, q18533⟩, Or.inr ⟨by omega, q18534⟩, Or.inr ⟨by omega, q18535⟩⟩⟩))
theorem lw_pm_3 {as : List rv_A} {σ σ' : Nat → Int} {o : rv_O} {x : Int32} {a1 a2 : Int} {A : Nat → Nat → Int} {τ : Nat → Int} (hx : o.1 = some (.inl x)) (h1 : lw_av as 1 = a1) (h2 : lw_av as 2 = a2) (hb : ∀ s, (sx_sr s).1 ≤ σ s ∧ σ s ≤ (sx_sr s).2) (hG : sx_GG σ' A) (hW : lw_W ([(18509, 1, 1099511627770), (18510, 0, 34359738367)], [(0, [(12804, (-1))]), ((-1477), [(19001, 1)]), (2097, [(19001, (-1))]), (0, [(19002, 1)]), (9, [(19002, (-1))]), (0, [(12804, 1)])], [(12800, (0, [])), (12804, (1, [(12804, 1)])), (18462, (0, [])), (18463, (0, [])), (18464, (0, [])), (18465, ((-1), [])), (18466, (0, [])), (18467, (0, [])), (18468, (0, [])), (18469, ((-1), [])), (18470, ((-1), [])), (18471, ((-1), [])), (18472, (0, [])), (18473, (0, [])), (18509, (0, [(1000000, 1)])), (18510, (0, [(1000001, 1)])), (18511, (0, [(19001, 1)])), (18512, (0, [])), (18513, (1, [])), (18517, (0, [(19001, 1)])), (18518, (0, [])), (18519, ((-1), [])), (18528, (0, [(19001, 1)]))], some (false, (0, [(12804, 1)]))) as σ σ' τ o) : lw_pm_C a1 a2 x.toInt σ σ' := by
  unfold lw_pm_C
  have bM : 0 ≤ σ 12804 ∧ σ 12804 ≤ 8 := by
    have h0 := hb 12804
    rw [show sx_sr 12804 = (0, 8) from by decide +kernel] at h0
    exact h0
  obtain ⟨-, -, -, -, -, -, -, -, -, -, -, -, -, -, -, -, -, -, -, g19, g20, -, g22, -, g24⟩ := hG
  obtain ⟨hs, ht, hf, hr, hm, hw⟩ := hW
  have e1 : τ 19001 = a1 := by rw [ht 19001 (by decide) (by decide)]; exact h1
  have e2 : τ 19002 = a2 := by rw [ht 19002 (by decide) (by decide)]; exact h2
  have s133 : τ 133 = σ 133 := hs 133 (by decide)
  have s134 : τ 134 = σ 134 := hs 134 (by decide)
  have s10250 : τ 10250 = σ 10250 := hs 10250 (by decide)
  have s12804 : τ 12804 = σ 12804 := hs 12804 (by decide)
  have s12805 : τ 12805 = σ 12805 := hs 12805 (by decide)
  have s12814 : τ 12814 = σ 12814 := hs 12814 (by decide)
  have s18520 : τ 18520 = σ 18520 := hs 18520 (by decide)
  have s18521 : τ 18521 = σ 18521 := hs 18521 (by decide)
  have s18522 : τ 18522 = σ 18522 := hs 18522 (by decide)
  have s18523 : τ 18523 = σ 18523 := hs 18523 (by decide)
  have s18524 : τ 18524 = σ 18524 := hs 18524 (by decide)
  have s18525 : τ 18525 = σ 18525 := hs 18525 (by decide)
  have s18526 : τ 18526 = σ 18526 := hs 18526 (by decide)
  have s18527 : τ 18527 = σ 18527 := hs 18527 (by decide)
  have s18528 : τ 18528 = σ 18528 := hs 18528 (by decide)
  have s18529 : τ 18529 = σ 18529 := hs 18529 (by decide)
  have s18530 : τ 18530 = σ 18530 := hs 18530 (by decide)
  have s18531 : τ 18531 = σ 18531 := hs 18531 (by decide)
  have s18532 : τ 18532 = σ 18532 := hs 18532 (by decide)
  have s18533 : τ 18533 = σ 18533 := hs 18533 (by decide)
  have s18534 : τ 18534 = σ 18534 := hs 18534 (by decide)
  have s18535 : τ 18535 = σ 18535 := hs 18535 (by decide)
  clear ht hb h1 h2
  rw [hx] at hr
  clear hx
  obtain ⟨y, hy, hv⟩ := hr
  cases hy
  replace hv : x.toInt = 0 + (1 * τ 12804 + 0) := hv
  have sm : σ' 133 = σ 133 ∧ σ' 134 = σ 134 ∧ σ' 12805 = σ 12805 ∧ σ' 10250 = σ 10250 ∧ σ' 12814 = σ 12814 ∧ σ' 18520 = σ 18520 ∧ σ' 18521 = σ 18521 ∧ σ' 18522 = σ 18522 ∧ σ' 18523 = σ 18523 ∧ σ' 18524 = σ 18524 ∧ σ' 18525 = σ 18525 ∧ σ' 18526 = σ 18526 ∧ σ' 18527 = σ 18527 := ⟨lw_id s133 (hm 133 (by decide)), lw_id s134 (hm 134 (by decide)), lw_id s12805 (hm 12805 (by decide)), lw_id s10250 (hm 10250 (by decide)), lw_id s12814 (hm 12814 (by decide)), lw_id s18520 (hm 18520 (by decide)), lw_id s18521 (hm 18521 (by decide)), lw_id s18522 (hm 18522 (by decide)), lw_id s18523 (hm 18523 (by decide)), lw_id s18524 (hm 18524 (by decide)), lw_id s18525 (hm 18525 (by decide)), lw_id s18526 (hm 18526 (by decide)), lw_id s18527 (hm 18527 (by decide))⟩
  refine ⟨?_, sm⟩
  clear sm
  have f0 : 0 ≤ 0 + ((-1) * τ 12804 + 0) := hf _ (List.Mem.head _)
  have f1 : 0 ≤ (-1477) + (1 * τ 19001 + 0) := hf _ (List.Mem.tail _ (List.Mem.head _))
  have f2 : 0 ≤ 2097 + ((-1) * τ 19001 + 0) := hf _ (List.Mem.tail _ (List.Mem.tail _ (List.Mem.head _)))
  have f3 : 0 ≤ 0 + (1 * τ 19002 + 0) := hf _ (List.Mem.tail _ (List.Mem.tail _ (List.Mem.tail _ (List.Mem.head _))))
  have f4 : 0 ≤ 9 + ((-1) * τ 19002 + 0) := hf _ (List.Mem.tail _ (List.Mem.tail _ (List.Mem.tail _ (List.Mem.tail _ (List.Mem.head _)))))
  have f5 : 0 ≤ 0 + (1 * τ 12804 + 0) := hf _ (List.Mem.tail _ (List.Mem.tail _ (List.Mem.tail _ (List.Mem.tail _ (List.Mem.tail _ (List.Mem.head _))))))
  have m18511 : σ' 18511 = 0 + (1 * τ 19001 + 0) := hm 18511 (by decide)
  have m18512 : σ' 18512 = 0 + 0 := hm 18512 (by decide)
  have m18513 : σ' 18513 = 1 + 0 := hm 18513 (by decide)
  have hok : lw_OK a1 a2 := by
    refine ⟨?_, by omega, by omega, ⟨by omega, by omega, by omega, by omega, by omega, by omega, by omega, by omega⟩, by omega, by omega⟩
    have h0 := g20.1 (by omega)
    rw [show σ' 18511 = a1 by omega, show σ' 18512 = 0 by omega] at h0
    exact h0.mpr sx_gdn_0
  have m18517 : σ' 18517 = 0 + (1 * τ 19001 + 0) := hm 18517 (by decide)
  have m18518 : σ' 18518 = 0 + 0 := hm 18518 (by decide)
  have m12804 : σ' 12804 = 1 + (1 * τ 12804 + 0) := hm 12804 (by decide)
  obtain ⟨n0, n1, n2, n3, n4, n5, n6, n7⟩ := g24
  have m18528 : σ' 18528 = 0 + (1 * τ 19001 + 0) := hm 18528 (by decide)
  have q18529 := lw_id s18529 (hm 18529 (by decide))
  have q18530 := lw_id s18530 (hm 18530 (by decide))
  have q18531 := lw_id s18531 (hm 18531 (by decide))
  have q18532 := lw_id s18532 (hm 18532 (by decide))
  have q18533 := lw_id s18533 (hm 18533 (by decide))
  have q18534 := lw_id s18534 (hm 18534 (by decide))
  have q18535 := lw_id s18535 (hm 18535 (by decide))
  have hj : σ 12804 = 0 := by omega
  exact Or.inr (Or.inr (Or.inr ⟨by omega, by omega, hok, by omega, by omega, ⟨fun h => absurd h (by omega), fun h => absurd h (by omega), fun h => absurd h (by omega), fun h => absurd h (by omega), fun h => absurd h (by omega), fun h => absurd h (by omega), fun h => absurd h (by omega), fun h => absurd h (by omega)⟩, ⟨Or.inl ⟨hj, by omega⟩, Or.inr ⟨by omega, q18529⟩, Or.inr ⟨by omega, q18530⟩, Or.inr ⟨by omega, q18531⟩, Or.inr ⟨by omega, q18532⟩, Or.inr ⟨by omega, q18533⟩, Or.inr ⟨by omega, q18534⟩, Or.inr ⟨by omega, q18535⟩⟩⟩))
theorem lw_pm_4 {as : List rv_A} {σ σ' : Nat → Int} {o : rv_O} {x : Int32} {a1 a2 : Int} {A : Nat → Nat → Int} {τ : Nat → Int} (hx : o.1 = some (.inl x)) (h1 : lw_av as 1 = a1) (h2 : lw_av as 2 = a2) (hb : ∀ s, (sx_sr s).1 ≤ σ s ∧ σ s ≤ (sx_sr s).2) (hG : sx_GG σ' A) (hW : lw_W ([(18509, 1, 1099511627770), (18510, 0, 34359738367)], [(0, [(12804, (-1))]), ((-14837), [(19001, 1)]), (632644, [(19001, (-1))]), (0, [(19002, 1)]), (9, [(19002, (-1))]), (0, [(12804, 1)])], [(12800, (0, [])), (12804, (1, [(12804, 1)])), (18462, (0, [])), (18463, (0, [])), (18464, (0, [])), (18465, ((-1), [])), (18466, (0, [])), (18467, (0, [])), (18468, (0, [])), (18469, ((-1), [])), (18470, ((-1), [])), (18471, ((-1), [])), (18472, (0, [])), (18473, (0, [])), (18509, (0, [(1000000, 1)])), (18510, (0, [(1000001, 1)])), (18511, (0, [(19001, 1)])), (18512, (0, [])), (18513, (1, [])), (18517, (0, [(19001, 1)])), (18518, (0, [])), (18519, ((-1), [])), (18528, (0, [(19001, 1)]))], some (false, (0, [(12804, 1)]))) as σ σ' τ o) : lw_pm_C a1 a2 x.toInt σ σ' := by
  unfold lw_pm_C
  have bM : 0 ≤ σ 12804 ∧ σ 12804 ≤ 8 := by
    have h0 := hb 12804
    rw [show sx_sr 12804 = (0, 8) from by decide +kernel] at h0
    exact h0
  obtain ⟨-, -, -, -, -, -, -, -, -, -, -, -, -, -, -, -, -, -, -, g19, g20, -, g22, -, g24⟩ := hG
  obtain ⟨hs, ht, hf, hr, hm, hw⟩ := hW
  have e1 : τ 19001 = a1 := by rw [ht 19001 (by decide) (by decide)]; exact h1
  have e2 : τ 19002 = a2 := by rw [ht 19002 (by decide) (by decide)]; exact h2
  have s133 : τ 133 = σ 133 := hs 133 (by decide)
  have s134 : τ 134 = σ 134 := hs 134 (by decide)
  have s10250 : τ 10250 = σ 10250 := hs 10250 (by decide)
  have s12804 : τ 12804 = σ 12804 := hs 12804 (by decide)
  have s12805 : τ 12805 = σ 12805 := hs 12805 (by decide)
  have s12814 : τ 12814 = σ 12814 := hs 12814 (by decide)
  have s18520 : τ 18520 = σ 18520 := hs 18520 (by decide)
  have s18521 : τ 18521 = σ 18521 := hs 18521 (by decide)
  have s18522 : τ 18522 = σ 18522 := hs 18522 (by decide)
  have s18523 : τ 18523 = σ 18523 := hs 18523 (by decide)
  have s18524 : τ 18524 = σ 18524 := hs 18524 (by decide)
  have s18525 : τ 18525 = σ 18525 := hs 18525 (by decide)
  have s18526 : τ 18526 = σ 18526 := hs 18526 (by decide)
  have s18527 : τ 18527 = σ 18527 := hs 18527 (by decide)
  have s18528 : τ 18528 = σ 18528 := hs 18528 (by decide)
  have s18529 : τ 18529 = σ 18529 := hs 18529 (by decide)
  have s18530 : τ 18530 = σ 18530 := hs 18530 (by decide)
  have s18531 : τ 18531 = σ 18531 := hs 18531 (by decide)
  have s18532 : τ 18532 = σ 18532 := hs 18532 (by decide)
  have s18533 : τ 18533 = σ 18533 := hs 18533 (by decide)
  have s18534 : τ 18534 = σ 18534 := hs 18534 (by decide)
  have s18535 : τ 18535 = σ 18535 := hs 18535 (by decide)
  clear ht hb h1 h2
  rw [hx] at hr
  clear hx
  obtain ⟨y, hy, hv⟩ := hr
  cases hy
  replace hv : x.toInt = 0 + (1 * τ 12804 + 0) := hv
  have sm : σ' 133 = σ 133 ∧ σ' 134 = σ 134 ∧ σ' 12805 = σ 12805 ∧ σ' 10250 = σ 10250 ∧ σ' 12814 = σ 12814 ∧ σ' 18520 = σ 18520 ∧ σ' 18521 = σ 18521 ∧ σ' 18522 = σ 18522 ∧ σ' 18523 = σ 18523 ∧ σ' 18524 = σ 18524 ∧ σ' 18525 = σ 18525 ∧ σ' 18526 = σ 18526 ∧ σ' 18527 = σ 18527 := ⟨lw_id s133 (hm 133 (by decide)), lw_id s134 (hm 134 (by decide)), lw_id s12805 (hm 12805 (by decide)), lw_id s10250 (hm 10250 (by decide)), lw_id s12814 (hm 12814 (by decide)), lw_id s18520 (hm 18520 (by decide)), lw_id s18521 (hm 18521 (by decide)), lw_id s18522 (hm 18522 (by decide)), lw_id s18523 (hm 18523 (by decide)), lw_id s18524 (hm 18524 (by decide)), lw_id s18525 (hm 18525 (by decide)), lw_id s18526 (hm 18526 (by decide)), lw_id s18527 (hm 18527 (by decide))⟩
  refine ⟨?_, sm⟩
  clear sm
  have f0 : 0 ≤ 0 + ((-1) * τ 12804 + 0) := hf _ (List.Mem.head _)
  have f1 : 0 ≤ (-14837) + (1 * τ 19001 + 0) := hf _ (List.Mem.tail _ (List.Mem.head _))
  have f2 : 0 ≤ 632644 + ((-1) * τ 19001 + 0) := hf _ (List.Mem.tail _ (List.Mem.tail _ (List.Mem.head _)))
  have f3 : 0 ≤ 0 + (1 * τ 19002 + 0) := hf _ (List.Mem.tail _ (List.Mem.tail _ (List.Mem.tail _ (List.Mem.head _))))
  have f4 : 0 ≤ 9 + ((-1) * τ 19002 + 0) := hf _ (List.Mem.tail _ (List.Mem.tail _ (List.Mem.tail _ (List.Mem.tail _ (List.Mem.head _)))))
  have f5 : 0 ≤ 0 + (1 * τ 12804 + 0) := hf _ (List.Mem.tail _ (List.Mem.tail _ (List.Mem.tail _ (List.Mem.tail _ (List.Mem.tail _ (List.Mem.head _))))))
  have m18511 : σ' 18511 = 0 + (1 * τ 19001 + 0) := hm 18511 (by decide)
  have m18512 : σ' 18512 = 0 + 0 := hm 18512 (by decide)
  have m18513 : σ' 18513 = 1 + 0 := hm 18513 (by decide)
  have hok : lw_OK a1 a2 := by
    refine ⟨?_, by omega, by omega, ⟨by omega, by omega, by omega, by omega, by omega, by omega, by omega, by omega⟩, by omega, by omega⟩
    have h0 := g20.1 (by omega)
    rw [show σ' 18511 = a1 by omega, show σ' 18512 = 0 by omega] at h0
    exact h0.mpr sx_gdn_0
  have m18517 : σ' 18517 = 0 + (1 * τ 19001 + 0) := hm 18517 (by decide)
  have m18518 : σ' 18518 = 0 + 0 := hm 18518 (by decide)
  have m12804 : σ' 12804 = 1 + (1 * τ 12804 + 0) := hm 12804 (by decide)
  obtain ⟨n0, n1, n2, n3, n4, n5, n6, n7⟩ := g24
  have m18528 : σ' 18528 = 0 + (1 * τ 19001 + 0) := hm 18528 (by decide)
  have q18529 := lw_id s18529 (hm 18529 (by decide))
  have q18530 := lw_id s18530 (hm 18530 (by decide))
  have q18531 := lw_id s18531 (hm 18531 (by decide))
  have q18532 := lw_id s18532 (hm 18532 (by decide))
  have q18533 := lw_id s18533 (hm 18533 (by decide))
  have q18534 := lw_id s18534 (hm 18534 (by decide))
  have q18535 := lw_id s18535 (hm 18535 (by decide))
  have hj : σ 12804 = 0 := by omega
  exact Or.inr (Or.inr (Or.inr ⟨by omega, by omega, hok, by omega, by omega, ⟨fun h => absurd h (by omega), fun h => absurd h (by omega), fun h => absurd h (by omega), fun h => absurd h (by omega), fun h => absurd h (by omega), fun h => absurd h (by omega), fun h => absurd h (by omega), fun h => absurd h (by omega)⟩, ⟨Or.inl ⟨hj, by omega⟩, Or.inr ⟨by omega, q18529⟩, Or.inr ⟨by omega, q18530⟩, Or.inr ⟨by omega, q18531⟩, Or.inr ⟨by omega, q18532⟩, Or.inr ⟨by omega, q18533⟩, Or.inr ⟨by omega, q18534⟩, Or.inr ⟨by omega, q18535⟩⟩⟩))
theorem lw_pm_5 {as : List rv_A} {σ σ' : Nat → Int} {o : rv_O} {x : Int32} {a1 a2 : Int} {A : Nat → Nat → Int} {τ : Nat → Int} (hx : o.1 = some (.inl x)) (h1 : lw_av as 1 = a1) (h2 : lw_av as 2 = a2) (hb : ∀ s, (sx_sr s).1 ≤ σ s ∧ σ s ≤ (sx_sr s).2) (hG : sx_GG σ' A) (hW : lw_W ([(18509, 1, 1099511627770), (18510, 0, 34359738367)], [(0, [(12804, (-1))]), ((-2099), [(19001, 1)]), (11565, [(19001, (-1))]), (0, [(19002, 1)]), (9, [(19002, (-1))]), (0, [(12804, 1)])], [(12800, (0, [])), (12804, (1, [(12804, 1)])), (18462, (0, [])), (18463, (0, [])), (18464, (0, [])), (18465, ((-1), [])), (18466, (0, [])), (18467, (0, [])), (18468, (0, [])), (18469, ((-1), [])), (18470, ((-1), [])), (18471, ((-1), [])), (18472, (0, [])), (18473, (0, [])), (18509, (0, [(1000000, 1)])), (18510, (0, [(1000001, 1)])), (18511, (0, [(19001, 1)])), (18512, (0, [])), (18513, (1, [])), (18517, (0, [(19001, 1)])), (18518, (0, [])), (18519, ((-1), [])), (18528, (0, [(19001, 1)]))], some (false, (0, [(12804, 1)]))) as σ σ' τ o) : lw_pm_C a1 a2 x.toInt σ σ' := by
  unfold lw_pm_C
  have bM : 0 ≤ σ 12804 ∧ σ 12804 ≤ 8 := by
    have h0 := hb 12804
    rw [show sx_sr 12804 = (0, 8) from by decide +kernel] at h0
    exact h0
  obtain ⟨-, -, -, -, -, -, -, -, -, -, -, -, -, -, -, -, -, -, -, g19, g20, -, g22, -, g24⟩ := hG
  obtain ⟨hs, ht, hf, hr, hm, hw⟩ := hW
  have e1 : τ 19001 = a1 := by rw [ht 19001 (by decide) (by decide)]; exact h1
  have e2 : τ 19002 = a2 := by rw [ht 19002 (by decide) (by decide)]; exact h2
  have s133 : τ 133 = σ 133 := hs 133 (by decide)
  have s134 : τ 134 = σ 134 := hs 134 (by decide)
  have s10250 : τ 10250 = σ 10250 := hs 10250 (by decide)
  have s12804 : τ 12804 = σ 12804 := hs 12804 (by decide)
  have s12805 : τ 12805 = σ 12805 := hs 12805 (by decide)
  have s12814 : τ 12814 = σ 12814 := hs 12814 (by decide)
  have s18520 : τ 18520 = σ 18520 := hs 18520 (by decide)
  have s18521 : τ 18521 = σ 18521 := hs 18521 (by decide)
  have s18522 : τ 18522 = σ 18522 := hs 18522 (by decide)
  have s18523 : τ 18523 = σ 18523 := hs 18523 (by decide)
  have s18524 : τ 18524 = σ 18524 := hs 18524 (by decide)
  have s18525 : τ 18525 = σ 18525 := hs 18525 (by decide)
  have s18526 : τ 18526 = σ 18526 := hs 18526 (by decide)
  have s18527 : τ 18527 = σ 18527 := hs 18527 (by decide)
  have s18528 : τ 18528 = σ 18528 := hs 18528 (by decide)
  have s18529 : τ 18529 = σ 18529 := hs 18529 (by decide)
  have s18530 : τ 18530 = σ 18530 := hs 18530 (by decide)
  have s18531 : τ 18531 = σ 18531 := hs 18531 (by decide)
  have s18532 : τ 18532 = σ 18532 := hs 18532 (by decide)
  have s18533 : τ 18533 = σ 18533 := hs 18533 (by decide)
  have s18534 : τ 18534 = σ 18534 := hs 18534 (by decide)
  have s18535 : τ 18535 = σ 18535 := hs 18535 (by decide)
  clear ht hb h1 h2
  rw [hx] at hr
  clear hx
  obtain ⟨y, hy, hv⟩ := hr
  cases hy
  replace hv : x.toInt = 0 + (1 * τ 12804 + 0) := hv
  have sm : σ' 133 = σ 133 ∧ σ' 134 = σ 134 ∧ σ' 12805 = σ 12805 ∧ σ' 10250 = σ 10250 ∧ σ' 12814 = σ 12814 ∧ σ' 18520 = σ 18520 ∧ σ' 18521 = σ 18521 ∧ σ' 18522 = σ 18522 ∧ σ' 18523 = σ 18523 ∧ σ' 18524 = σ 18524 ∧ σ' 18525 = σ 18525 ∧ σ' 18526 = σ 18526 ∧ σ' 18527 = σ 18527 := ⟨lw_id s133 (hm 133 (by decide)), lw_id s134 (hm 134 (by decide)), lw_id s12805 (hm 12805 (by decide)), lw_id s10250 (hm 10250 (by decide)), lw_id s12814 (hm 12814 (by decide)), lw_id s18520 (hm 18520 (by decide)), lw_id s18521 (hm 18521 (by decide)), lw_id s18522 (hm 18522 (by decide)), lw_id s18523 (hm 18523 (by decide)), lw_id s18524 (hm 18524 (by decide)), lw_id s18525 (hm 18525 (by decide)), lw_id s18526 (hm 18526 (by decide)), lw_id s18527 (hm 18527 (by decide))⟩
  refine ⟨?_, sm⟩
  clear sm
  have f0 : 0 ≤ 0 + ((-1) * τ 12804 + 0) := hf _ (List.Mem.head _)
  have f1 : 0 ≤ (-2099) + (1 * τ 19001 + 0) := hf _ (List.Mem.tail _ (List.Mem.head _))
  have f2 : 0 ≤ 11565 + ((-1) * τ 19001 + 0) := hf _ (List.Mem.tail _ (List.Mem.tail _ (List.Mem.head _)))
  have f3 : 0 ≤ 0 + (1 * τ 19002 + 0) := hf _ (List.Mem.tail _ (List.Mem.tail _ (List.Mem.tail _ (List.Mem.head _))))
  have f4 : 0 ≤ 9 + ((-1) * τ 19002 + 0) := hf _ (List.Mem.tail _ (List.Mem.tail _ (List.Mem.tail _ (List.Mem.tail _ (List.Mem.head _)))))
  have f5 : 0 ≤ 0 + (1 * τ 12804 + 0) := hf _ (List.Mem.tail _ (List.Mem.tail _ (List.Mem.tail _ (List.Mem.tail _ (List.Mem.tail _ (List.Mem.head _))))))
  have m18511 : σ' 18511 = 0 + (1 * τ 19001 + 0) := hm 18511 (by decide)
  have m18512 : σ' 18512 = 0 + 0 := hm 18512 (by decide)
  have m18513 : σ' 18513 = 1 + 0 := hm 18513 (by decide)
  have hok : lw_OK a1 a2 := by
    refine ⟨?_, by omega, by omega, ⟨by omega, by omega, by omega, by omega, by omega, by omega, by omega, by omega⟩, by omega, by omega⟩
    have h0 := g20.1 (by omega)
    rw [show σ' 18511 = a1 by omega, show σ' 18512 = 0 by omega] at h0
    exact h0.mpr sx_gdn_0
  have m18517 : σ' 18517 = 0 + (1 * τ 19001 + 0) := hm 18517 (by decide)
  have m18518 : σ' 18518 = 0 + 0 := hm 18518 (by decide)
  have m12804 : σ' 12804 = 1 + (1 * τ 12804 + 0) := hm 12804 (by decide)
  obtain ⟨n0, n1, n2, n3, n4, n5, n6, n7⟩ := g24
  have m18528 : σ' 18528 = 0 + (1 * τ 19001 + 0) := hm 18528 (by decide)
  have q18529 := lw_id s18529 (hm 18529 (by decide))
  have q18530 := lw_id s18530 (hm 18530 (by decide))
  have q18531 := lw_id s18531 (hm 18531 (by decide))
  have q18532 := lw_id s18532 (hm 18532 (by decide))
  have q18533 := lw_id s18533 (hm 18533 (by decide))
  have q18534 := lw_id s18534 (hm 18534 (by decide))
  have q18535 := lw_id s18535 (hm 18535 (by decide))
  have hj : σ 12804 = 0 := by omega
  exact Or.inr (Or.inr (Or.inr ⟨by omega, by omega, hok, by omega, by omega, ⟨fun h => absurd h (by omega), fun h => absurd h (by omega), fun h => absurd h (by omega), fun h => absurd h (by omega), fun h => absurd h (by omega), fun h => absurd h (by omega), fun h => absurd h (by omega), fun h => absurd h (by omega)⟩, ⟨Or.inl ⟨hj, by omega⟩, Or.inr ⟨by omega, q18529⟩, Or.inr ⟨by omega, q18530⟩, Or.inr ⟨by omega, q18531⟩, Or.inr ⟨by omega, q18532⟩, Or.inr ⟨by omega, q18533⟩, Or.inr ⟨by omega, q18534⟩, Or.inr ⟨by omega, q18535⟩⟩⟩))
theorem lw_pm_6 {as : List rv_A} {σ σ' : Nat → Int} {o : rv_O} {x : Int32} {a1 a2 : Int} {A : Nat → Nat → Int} {τ : Nat → Int} (hx : o.1 = some (.inl x)) (h1 : lw_av as 1 = a1) (h2 : lw_av as 2 = a2) (hb : ∀ s, (sx_sr s).1 ≤ σ s ∧ σ s ≤ (sx_sr s).2) (hG : sx_GG σ' A) (hW : lw_W ([(18509, 1, 1099511627770), (18510, 0, 34359738367)], [(0, [(12804, (-1))]), ((-295), [(19001, 1)]), (497, [(19001, (-1))]), (0, [(19002, 1)]), (9, [(19002, (-1))]), (0, [(12804, 1)])], [(12800, (0, [])), (12804, (1, [(12804, 1)])), (18462, (0, [])), (18463, (0, [])), (18464, (0, [])), (18465, ((-1), [])), (18466, (0, [])), (18467, (0, [])), (18468, (0, [])), (18469, ((-1), [])), (18470, ((-1), [])), (18471, ((-1), [])), (18472, (0, [])), (18473, (0, [])), (18509, (0, [(1000000, 1)])), (18510, (0, [(1000001, 1)])), (18511, (0, [(19001, 1)])), (18512, (0, [])), (18513, (1, [])), (18517, (0, [(19001, 1)])), (18518, (0, [])), (18519, ((-1), [])), (18528, (0, [(19001, 1)]))], some (false, (0, [(12804, 1)]))) as σ σ' τ o) : lw_pm_C a1 a2 x.toInt σ σ' := by
  unfold lw_pm_C
  have bM : 0 ≤ σ 12804 ∧ σ 12804 ≤ 8 := by
    have h0 := hb 12804
    rw [show sx_sr 12804 = (0, 8) from by decide +kernel] at h0
    exact h0
  obtain ⟨-, -, -, -, -, -, -, -, -, -, -, -, -, -, -, -, -, -, -, g19, g20, -, g22, -, g24⟩ := hG
  obtain ⟨hs, ht, hf, hr, hm, hw⟩ := hW
  have e1 : τ 19001 = a1 := by rw [ht 19001 (by decide) (by decide)]; exact h1
  have e2 : τ 19002 = a2 := by rw [ht 19002 (by decide) (by decide)]; exact h2
  have s133 : τ 133 = σ 133 := hs 133 (by decide)
  have s134 : τ 134 = σ 134 := hs 134 (by decide)
  have s10250 : τ 10250 = σ 10250 := hs 10250 (by decide)
  have s12804 : τ 12804 = σ 12804 := hs 12804 (by decide)
  have s12805 : τ 12805 = σ 12805 := hs 12805 (by decide)
  have s12814 : τ 12814 = σ 12814 := hs 12814 (by decide)
  have s18520 : τ 18520 = σ 18520 := hs 18520 (by decide)
  have s18521 : τ 18521 = σ 18521 := hs 18521 (by decide)
  have s18522 : τ 18522 = σ 18522 := hs 18522 (by decide)
  have s18523 : τ 18523 = σ 18523 := hs 18523 (by decide)
  have s18524 : τ 18524 = σ 18524 := hs 18524 (by decide)
  have s18525 : τ 18525 = σ 18525 := hs 18525 (by decide)
  have s18526 : τ 18526 = σ 18526 := hs 18526 (by decide)
  have s18527 : τ 18527 = σ 18527 := hs 18527 (by decide)
  have s18528 : τ 18528 = σ 18528 := hs 18528 (by decide)
  have s18529 : τ 18529 = σ 18529 := hs 18529 (by decide)
  have s18530 : τ 18530 = σ 18530 := hs 18530 (by decide)
  have s18531 : τ 18531 = σ 18531 := hs 18531 (by decide)
  have s18532 : τ 18532 = σ 18532 := hs 18532 (by decide)
  have s18533 : τ 18533 = σ 18533 := hs 18533 (by decide)
  have s18534 : τ 18534 = σ 18534 := hs 18534 (by decide)
  have s18535 : τ 18535 = σ 18535 := hs 18535 (by decide)
  clear ht hb h1 h2
  rw [hx] at hr
  clear hx
  obtain ⟨y, hy, hv⟩ := hr
  cases hy
  replace hv : x.toInt = 0 + (1 * τ 12804 + 0) := hv
  have sm : σ' 133 = σ 133 ∧ σ' 134 = σ 134 ∧ σ' 12805 = σ 12805 ∧ σ' 10250 = σ 10250 ∧ σ' 12814 = σ 12814 ∧ σ' 18520 = σ 18520 ∧ σ' 18521 = σ 18521 ∧ σ' 18522 = σ 18522 ∧ σ' 18523 = σ 18523 ∧ σ' 18524 = σ 18524 ∧ σ' 18525 = σ 18525 ∧ σ' 18526 = σ 18526 ∧ σ' 18527 = σ 18527 := ⟨lw_id s133 (hm 133 (by decide)), lw_id s134 (hm 134 (by decide)), lw_id s12805 (hm 12805 (by decide)), lw_id s10250 (hm 10250 (by decide)), lw_id s12814 (hm 12814 (by decide)), lw_id s18520 (hm 18520 (by decide)), lw_id s18521 (hm 18521 (by decide)), lw_id s18522 (hm 18522 (by decide)), lw_id s18523 (hm 18523 (by decide)), lw_id s18524 (hm 18524 (by decide)), lw_id s18525 (hm 18525 (by decide)), lw_id s18526 (hm 18526 (by decide)), lw_id s18527 (hm 18527 (by decide))⟩
  refine ⟨?_, sm⟩
  clear sm
  have f0 : 0 ≤ 0 + ((-1) * τ 12804 + 0) := hf _ (List.Mem.head _)
  have f1 : 0 ≤ (-295) + (1 * τ 19001 + 0) := hf _ (List.Mem.tail _ (List.Mem.head _))
  have f2 : 0 ≤ 497 + ((-1) * τ 19001 + 0) := hf _ (List.Mem.tail _ (List.Mem.tail _ (List.Mem.head _)))
  have f3 : 0 ≤ 0 + (1 * τ 19002 + 0) := hf _ (List.Mem.tail _ (List.Mem.tail _ (List.Mem.tail _ (List.Mem.head _))))
  have f4 : 0 ≤ 9 + ((-1) * τ 19002 + 0) := hf _ (List.Mem.tail _ (List.Mem.tail _ (List.Mem.tail _ (List.Mem.tail _ (List.Mem.head _)))))
  have f5 : 0 ≤ 0 + (1 * τ 12804 + 0) := hf _ (List.Mem.tail _ (List.Mem.tail _ (List.Mem.tail _ (List.Mem.tail _ (List.Mem.tail _ (List.Mem.head _))))))
  have m18511 : σ' 18511 = 0 + (1 * τ 19001 + 0) := hm 18511 (by decide)
  have m18512 : σ' 18512 = 0 + 0 := hm 18512 (by decide)
  have m18513 : σ' 18513 = 1 + 0 := hm 18513 (by decide)
  have hok : lw_OK a1 a2 := by
    refine ⟨?_, by omega, by omega, ⟨by omega, by omega, by omega, by omega, by omega, by omega, by omega, by omega⟩, by omega, by omega⟩
    have h0 := g20.1 (by omega)
    rw [show σ' 18511 = a1 by omega, show σ' 18512 = 0 by omega] at h0
    exact h0.mpr sx_gdn_0
  have m18517 : σ' 18517 = 0 + (1 * τ 19001 + 0) := hm 18517 (by decide)
  have m18518 : σ' 18518 = 0 + 0 := hm 18518 (by decide)
  have m12804 : σ' 12804 = 1 + (1 * τ 12804 + 0) := hm 12804 (by decide)
  obtain ⟨n0, n1, n2, n3, n4, n5, n6, n7⟩ := g24
  have m18528 : σ' 18528 = 0 + (1 * τ 19001 + 0) := hm 18528 (by decide)
  have q18529 := lw_id s18529 (hm 18529 (by decide))
  have q18530 := lw_id s18530 (hm 18530 (by decide))
  have q18531 := lw_id s18531 (hm 18531 (by decide))
  have q18532 := lw_id s18532 (hm 18532 (by decide))
  have q18533 := lw_id s18533 (hm 18533 (by decide))
  have q18534 := lw_id s18534 (hm 18534 (by decide))
  have q18535 := lw_id s18535 (hm 18535 (by decide))
  have hj : σ 12804 = 0 := by omega
  exact Or.inr (Or.inr (Or.inr ⟨by omega, by omega, hok, by omega, by omega, ⟨fun h => absurd h (by omega), fun h => absurd h (by omega), fun h => absurd h (by omega), fun h => absurd h (by omega), fun h => absurd h (by omega), fun h => absurd h (by omega), fun h => absurd h (by omega), fun h => absurd h (by omega)⟩, ⟨Or.inl ⟨hj, by omega⟩, Or.inr ⟨by omega, q18529⟩, Or.inr ⟨by omega, q18530⟩, Or.inr ⟨by omega, q18531⟩, Or.inr ⟨by omega, q18532⟩, Or.inr ⟨by omega, q18533⟩, Or.inr ⟨by omega, q18534⟩, Or.inr ⟨by omega, q18535⟩⟩⟩))
theorem lw_pm_7 {as : List rv_A} {σ σ' : Nat → Int} {o : rv_O} {x : Int32} {a1 a2 : Int} {A : Nat → Nat → Int} {τ : Nat → Int} (hx : o.1 = some (.inl x)) (h1 : lw_av as 1 = a1) (h2 : lw_av as 2 = a2) (hb : ∀ s, (sx_sr s).1 ≤ σ s ∧ σ s ≤ (sx_sr s).2) (hG : sx_GG σ' A) (hW : lw_W ([(18509, 1, 1099511627770), (18510, 0, 34359738367)], [(0, [(12804, (-1))]), ((-499), [(19001, 1)]), (1155, [(19001, (-1))]), (0, [(19002, 1)]), (9, [(19002, (-1))]), (0, [(12804, 1)])], [(12800, (0, [])), (12804, (1, [(12804, 1)])), (18462, (0, [])), (18463, (0, [])), (18464, (0, [])), (18465, ((-1), [])), (18466, (0, [])), (18467, (0, [])), (18468, (0, [])), (18469, ((-1), [])), (18470, ((-1), [])), (18471, ((-1), [])), (18472, (0, [])), (18473, (0, [])), (18509, (0, [(1000000, 1)])), (18510, (0, [(1000001, 1)])), (18511, (0, [(19001, 1)])), (18512, (0, [])), (18513, (1, [])), (18517, (0, [(19001, 1)])), (18518, (0, [])), (18519, ((-1), [])), (18528, (0, [(19001, 1)]))], some (false, (0, [(12804, 1)]))) as σ σ' τ o) : lw_pm_C a1 a2 x.toInt σ σ' := by
  unfold lw_pm_C
  have bM : 0 ≤ σ 12804 ∧ σ 12804 ≤ 8 := by
    have h0 := hb 12804
    rw [show sx_sr 12804 = (0, 8) from by decide +kernel] at h0
    exact h0
  obtain ⟨-, -, -, -, -, -, -, -, -, -, -, -, -, -, -, -, -, -, -, g19, g20, -, g22, -, g24⟩ := hG
  obtain ⟨hs, ht, hf, hr, hm, hw⟩ := hW
  have e1 : τ 19001 = a1 := by rw [ht 19001 (by decide) (by decide)]; exact h1
  have e2 : τ 19002 = a2 := by rw [ht 19002 (by decide) (by decide)]; exact h2
  have s133 : τ 133 = σ 133 := hs 133 (by decide)
  have s134 : τ 134 = σ 134 := hs 134 (by decide)
  have s10250 : τ 10250 = σ 10250 := hs 10250 (by decide)
  have s12804 : τ 12804 = σ 12804 := hs 12804 (by decide)
  have s12805 : τ 12805 = σ 12805 := hs 12805 (by decide)
  have s12814 : τ 12814 = σ 12814 := hs 12814 (by decide)
  have s18520 : τ 18520 = σ 18520 := hs 18520 (by decide)
  have s18521 : τ 18521 = σ 18521 := hs 18521 (by decide)
  have s18522 : τ 18522 = σ 18522 := hs 18522 (by decide)
  have s18523 : τ 18523 = σ 18523 := hs 18523 (by decide)
  have s18524 : τ 18524 = σ 18524 := hs 18524 (by decide)
  have s18525 : τ 18525 = σ 18525 := hs 18525 (by decide)
  have s18526 : τ 18526 = σ 18526 := hs 18526 (by decide)
  have s18527 : τ 18527 = σ 18527 := hs 18527 (by decide)
  have s18528 : τ 18528 = σ 18528 := hs 18528 (by decide)
  have s18529 : τ 18529 = σ 18529 := hs 18529 (by decide)
  have s18530 : τ 18530 = σ 18530 := hs 18530 (by decide)
  have s18531 : τ 18531 = σ 18531 := hs 18531 (by decide)
  have s18532 : τ 18532 = σ 18532 := hs 18532 (by decide)
  have s18533 : τ 18533 = σ 18533 := hs 18533 (by decide)
  have s18534 : τ 18534 = σ 18534 := hs 18534 (by decide)
  have s18535 : τ 18535 = σ 18535 := hs 18535 (by decide)
  clear ht hb h1 h2
  rw [hx] at hr
  clear hx
  obtain ⟨y, hy, hv⟩ := hr
  cases hy
  replace hv : x.toInt = 0 + (1 * τ 12804 + 0) := hv
  have sm : σ' 133 = σ 133 ∧ σ' 134 = σ 134 ∧ σ' 12805 = σ 12805 ∧ σ' 10250 = σ 10250 ∧ σ' 12814 = σ 12814 ∧ σ' 18520 = σ 18520 ∧ σ' 18521 = σ 18521 ∧ σ' 18522 = σ 18522 ∧ σ' 18523 = σ 18523 ∧ σ' 18524 = σ 18524 ∧ σ' 18525 = σ 18525 ∧ σ' 18526 = σ 18526 ∧ σ' 18527 = σ 18527 := ⟨lw_id s133 (hm 133 (by decide)), lw_id s134 (hm 134 (by decide)), lw_id s12805 (hm 12805 (by decide)), lw_id s10250 (hm 10250 (by decide)), lw_id s12814 (hm 12814 (by decide)), lw_id s18520 (hm 18520 (by decide)), lw_id s18521 (hm 18521 (by decide)), lw_id s18522 (hm 18522 (by decide)), lw_id s18523 (hm 18523 (by decide)), lw_id s18524 (hm 18524 (by decide)), lw_id s18525 (hm 18525 (by decide)), lw_id s18526 (hm 18526 (by decide)), lw_id s18527 (hm 18527 (by decide))⟩
  refine ⟨?_, sm⟩
  clear sm
  have f0 : 0 ≤ 0 + ((-1) * τ 12804 + 0) := hf _ (List.Mem.head _)
  have f1 : 0 ≤ (-499) + (1 * τ 19001 + 0) := hf _ (List.Mem.tail _ (List.Mem.head _))
  have f2 : 0 ≤ 1155 + ((-1) * τ 19001 + 0) := hf _ (List.Mem.tail _ (List.Mem.tail _ (List.Mem.head _)))
  have f3 : 0 ≤ 0 + (1 * τ 19002 + 0) := hf _ (List.Mem.tail _ (List.Mem.tail _ (List.Mem.tail _ (List.Mem.head _))))
  have f4 : 0 ≤ 9 + ((-1) * τ 19002 + 0) := hf _ (List.Mem.tail _ (List.Mem.tail _ (List.Mem.tail _ (List.Mem.tail _ (List.Mem.head _)))))
  have f5 : 0 ≤ 0 + (1 * τ 12804 + 0) := hf _ (List.Mem.tail _ (List.Mem.tail _ (List.Mem.tail _ (List.Mem.tail _ (List.Mem.tail _ (List.Mem.head _))))))
  have m18511 : σ' 18511 = 0 + (1 * τ 19001 + 0) := hm 18511 (by decide)
  have m18512 : σ' 18512 = 0 + 0 := hm 18512 (by decide)
  have m18513 : σ' 18513 = 1 + 0 := hm 18513 (by decide)
  have hok : lw_OK a1 a2 := by
    refine ⟨?_, by omega, by omega, ⟨by omega, by omega, by omega, by omega, by omega, by omega, by omega, by omega⟩, by omega, by omega⟩
    have h0 := g20.1 (by omega)
    rw [show σ' 18511 = a1 by omega, show σ' 18512 = 0 by omega] at h0
    exact h0.mpr sx_gdn_0
  have m18517 : σ' 18517 = 0 + (1 * τ 19001 + 0) := hm 18517 (by decide)
  have m18518 : σ' 18518 = 0 + 0 := hm 18518 (by decide)
  have m12804 : σ' 12804 = 1 + (1 * τ 12804 + 0) := hm 12804 (by decide)
  obtain ⟨n0, n1, n2, n3, n4, n5, n6, n7⟩ := g24
  have m18528 : σ' 18528 = 0 + (1 * τ 19001 + 0) := hm 18528 (by decide)
  have q18529 := lw_id s18529 (hm 18529 (by decide))
  have q18530 := lw_id s18530 (hm 18530 (by decide))
  have q18531 := lw_id s18531 (hm 18531 (by decide))
  have q18532 := lw_id s18532 (hm 18532 (by decide))
  have q18533 := lw_id s18533 (hm 18533 (by decide))
  have q18534 := lw_id s18534 (hm 18534 (by decide))
  have q18535 := lw_id s18535 (hm 18535 (by decide))
  have hj : σ 12804 = 0 := by omega
  exact Or.inr (Or.inr (Or.inr ⟨by omega, by omega, hok, by omega, by omega, ⟨fun h => absurd h (by omega), fun h => absurd h (by omega), fun h => absurd h (by omega), fun h => absurd h (by omega), fun h => absurd h (by omega), fun h => absurd h (by omega), fun h => absurd h (by omega), fun h => absurd h (by omega)⟩, ⟨Or.inl ⟨hj, by omega⟩, Or.inr ⟨by omega, q18529⟩, Or.inr ⟨by omega, q18530⟩, Or.inr ⟨by omega, q18531⟩, Or.inr ⟨by omega, q18532⟩, Or.inr ⟨by omega, q18533⟩, Or.inr ⟨by omega, q18534⟩, Or.inr ⟨by omega, q18535⟩⟩⟩))
theorem lw_pm_8 {as : List rv_A} {σ σ' : Nat → Int} {o : rv_O} {x : Int32} {a1 a2 : Int} {A : Nat → Nat → Int} {τ : Nat → Int} (hx : o.1 = some (.inl x)) (h1 : lw_av as 1 = a1) (h2 : lw_av as 2 = a2) (hb : ∀ s, (sx_sr s).1 ≤ σ s ∧ σ s ≤ (sx_sr s).2) (hG : sx_GG σ' A) (hW : lw_W ([(18509, 1, 1099511627770), (18510, 0, 34359738367)], [(0, [(12804, (-1))]), ((-632646), [(19001, 1)]), (1099511627770, [(19001, (-1))]), (0, [(19002, 1)]), (9, [(19002, (-1))]), (0, [(12804, 1)])], [(12800, (0, [])), (12804, (1, [(12804, 1)])), (18462, (0, [])), (18463, (0, [])), (18464, (0, [])), (18465, ((-1), [])), (18466, (0, [])), (18467, (0, [])), (18468, (0, [])), (18469, ((-1), [])), (18470, ((-1), [])), (18471, ((-1), [])), (18472, (0, [])), (18473, (0, [])), (18509, (0, [(1000000, 1)])), (18510, (0, [(1000001, 1)])), (18511, (0, [(19001, 1)])), (18512, (0, [])), (18513, (1, [])), (18517, (0, [(19001, 1)])), (18518, (0, [])), (18519, ((-1), [])), (18528, (0, [(19001, 1)]))], some (false, (0, [(12804, 1)]))) as σ σ' τ o) : lw_pm_C a1 a2 x.toInt σ σ' := by
  unfold lw_pm_C
  have bM : 0 ≤ σ 12804 ∧ σ 12804 ≤ 8 := by
    have h0 := hb 12804
    rw [show sx_sr 12804 = (0, 8) from by decide +kernel] at h0
    exact h0
  obtain ⟨-, -, -, -, -, -, -, -, -, -, -, -, -, -, -, -, -, -, -, g19, g20, -, g22, -, g24⟩ := hG
  obtain ⟨hs, ht, hf, hr, hm, hw⟩ := hW
  have e1 : τ 19001 = a1 := by rw [ht 19001 (by decide) (by decide)]; exact h1
  have e2 : τ 19002 = a2 := by rw [ht 19002 (by decide) (by decide)]; exact h2
  have s133 : τ 133 = σ 133 := hs 133 (by decide)
  have s134 : τ 134 = σ 134 := hs 134 (by decide)
  have s10250 : τ 10250 = σ 10250 := hs 10250 (by decide)
  have s12804 : τ 12804 = σ 12804 := hs 12804 (by decide)
  have s12805 : τ 12805 = σ 12805 := hs 12805 (by decide)
  have s12814 : τ 12814 = σ 12814 := hs 12814 (by decide)
  have s18520 : τ 18520 = σ 18520 := hs 18520 (by decide)
  have s18521 : τ 18521 = σ 18521 := hs 18521 (by decide)
  have s18522 : τ 18522 = σ 18522 := hs 18522 (by decide)
  have s18523 : τ 18523 = σ 18523 := hs 18523 (by decide)
  have s18524 : τ 18524 = σ 18524 := hs 18524 (by decide)
  have s18525 : τ 18525 = σ 18525 := hs 18525 (by decide)
  have s18526 : τ 18526 = σ 18526 := hs 18526 (by decide)
  have s18527 : τ 18527 = σ 18527 := hs 18527 (by decide)
  have s18528 : τ 18528 = σ 18528 := hs 18528 (by decide)
  have s18529 : τ 18529 = σ 18529 := hs 18529 (by decide)
  have s18530 : τ 18530 = σ 18530 := hs 18530 (by decide)
  have s18531 : τ 18531 = σ 18531 := hs 18531 (by decide)
  have s18532 : τ 18532 = σ 18532 := hs 18532 (by decide)
  have s18533 : τ 18533 = σ 18533 := hs 18533 (by decide)
  have s18534 : τ 18534 = σ 18534 := hs 18534 (by decide)
  have s18535 : τ 18535 = σ 18535 := hs 18535 (by decide)
  clear ht hb h1 h2
  rw [hx] at hr
  clear hx
  obtain ⟨y, hy, hv⟩ := hr
  cases hy
  replace hv : x.toInt = 0 + (1 * τ 12804 + 0) := hv
  have sm : σ' 133 = σ 133 ∧ σ' 134 = σ 134 ∧ σ' 12805 = σ 12805 ∧ σ' 10250 = σ 10250 ∧ σ' 12814 = σ 12814 ∧ σ' 18520 = σ 18520 ∧ σ' 18521 = σ 18521 ∧ σ' 18522 = σ 18522 ∧ σ' 18523 = σ 18523 ∧ σ' 18524 = σ 18524 ∧ σ' 18525 = σ 18525 ∧ σ' 18526 = σ 18526 ∧ σ' 18527 = σ 18527 := ⟨lw_id s133 (hm 133 (by decide)), lw_id s134 (hm 134 (by decide)), lw_id s12805 (hm 12805 (by decide)), lw_id s10250 (hm 10250 (by decide)), lw_id s12814 (hm 12814 (by decide)), lw_id s18520 (hm 18520 (by decide)), lw_id s18521 (hm 18521 (by decide)), lw_id s18522 (hm 18522 (by decide)), lw_id s18523 (hm 18523 (by decide)), lw_id s18524 (hm 18524 (by decide)), lw_id s18525 (hm 18525 (by decide)), lw_id s18526 (hm 18526 (by decide)), lw_id s18527 (hm 18527 (by decide))⟩
  refine ⟨?_, sm⟩
  clear sm
  have f0 : 0 ≤ 0 + ((-1) * τ 12804 + 0) := hf _ (List.Mem.head _)
  have f1 : 0 ≤ (-632646) + (1 * τ 19001 + 0) := hf _ (List.Mem.tail _ (List.Mem.head _))
  have f2 : 0 ≤ 1099511627770 + ((-1) * τ 19001 + 0) := hf _ (List.Mem.tail _ (List.Mem.tail _ (List.Mem.head _)))
  have f3 : 0 ≤ 0 + (1 * τ 19002 + 0) := hf _ (List.Mem.tail _ (List.Mem.tail _ (List.Mem.tail _ (List.Mem.head _))))
  have f4 : 0 ≤ 9 + ((-1) * τ 19002 + 0) := hf _ (List.Mem.tail _ (List.Mem.tail _ (List.Mem.tail _ (List.Mem.tail _ (List.Mem.head _)))))
  have f5 : 0 ≤ 0 + (1 * τ 12804 + 0) := hf _ (List.Mem.tail _ (List.Mem.tail _ (List.Mem.tail _ (List.Mem.tail _ (List.Mem.tail _ (List.Mem.head _))))))
  have m18511 : σ' 18511 = 0 + (1 * τ 19001 + 0) := hm 18511 (by decide)
  have m18512 : σ' 18512 = 0 + 0 := hm 18512 (by decide)
  have m18513 : σ' 18513 = 1 + 0 := hm 18513 (by decide)
  have hok : lw_OK a1 a2 := by
    refine ⟨?_, by omega, by omega, ⟨by omega, by omega, by omega, by omega, by omega, by omega, by omega, by omega⟩, by omega, by omega⟩
    have h0 := g20.1 (by omega)
    rw [show σ' 18511 = a1 by omega, show σ' 18512 = 0 by omega] at h0
    exact h0.mpr sx_gdn_0
  have m18517 : σ' 18517 = 0 + (1 * τ 19001 + 0) := hm 18517 (by decide)
  have m18518 : σ' 18518 = 0 + 0 := hm 18518 (by decide)
  have m12804 : σ' 12804 = 1 + (1 * τ 12804 + 0) := hm 12804 (by decide)
  obtain ⟨n0, n1, n2, n3, n4, n5, n6, n7⟩ := g24
  have m18528 : σ' 18528 = 0 + (1 * τ 19001 + 0) := hm 18528 (by decide)
  have q18529 := lw_id s18529 (hm 18529 (by decide))
  have q18530 := lw_id s18530 (hm 18530 (by decide))
  have q18531 := lw_id s18531 (hm 18531 (by decide))
  have q18532 := lw_id s18532 (hm 18532 (by decide))
  have q18533 := lw_id s18533 (hm 18533 (by decide))
  have q18534 := lw_id s18534 (hm 18534 (by decide))
  have q18535 := lw_id s18535 (hm 18535 (by decide))
  have hj : σ 12804 = 0 := by omega
  exact Or.inr (Or.inr (Or.inr ⟨by omega, by omega, hok, by omega, by omega, ⟨fun h => absurd h (by omega), fun h => absurd h (by omega), fun h => absurd h (by omega), fun h => absurd h (by omega), fun h => absurd h (by omega), fun h => absurd h (by omega), fun h => absurd h (by omega), fun h => absurd h (by omega)⟩, ⟨Or.inl ⟨hj, by omega⟩, Or.inr ⟨by omega, q18529⟩, Or.inr ⟨by omega, q18530⟩, Or.inr ⟨by omega, q18531⟩, Or.inr ⟨by omega, q18532⟩, Or.inr ⟨by omega, q18533⟩, Or.inr ⟨by omega, q18534⟩, Or.inr ⟨by omega, q18535⟩⟩⟩))
theorem lw_pm_9 {as : List rv_A} {σ σ' : Nat → Int} {o : rv_O} {x : Int32} {a1 a2 : Int} {A : Nat → Nat → Int} {τ : Nat → Int} (hx : o.1 = some (.inl x)) (h1 : lw_av as 1 = a1) (h2 : lw_av as 2 = a2) (hb : ∀ s, (sx_sr s).1 ≤ σ s ∧ σ s ≤ (sx_sr s).2) (hG : sx_GG σ' A) (hW : lw_W ([(18509, 1, 1099511627770), (18510, 0, 34359738367)], [((-1), [(12804, 1)]), (1, [(12804, (-1))]), ((-1), [(19001, 1)]), (293, [(19001, (-1))]), (0, [(19002, 1)]), (9, [(19002, (-1))]), (0, [(12804, 1)])], [(12800, (0, [])), (12804, (1, [(12804, 1)])), (18462, (0, [])), (18463, (0, [])), (18464, (0, [])), (18465, ((-1), [])), (18466, (0, [])), (18467, (0, [])), (18468, (0, [])), (18469, ((-1), [])), (18470, ((-1), [])), (18471, ((-1), [])), (18472, (0, [])), (18473, (0, [])), (18509, (0, [(1000000, 1)])), (18510, (0, [(1000001, 1)])), (18511, (0, [(19001, 1)])), (18512, (0, [])), (18513, (1, [])), (18517, (0, [(19001, 1)])), (18518, (1, [])), (18519, ((-1), [])), (18529, (0, [(19001, 1)]))], some (false, (0, [(12804, 1)]))) as σ σ' τ o) : lw_pm_C a1 a2 x.toInt σ σ' := by
  unfold lw_pm_C
  have bM : 0 ≤ σ 12804 ∧ σ 12804 ≤ 8 := by
    have h0 := hb 12804
    rw [show sx_sr 12804 = (0, 8) from by decide +kernel] at h0
    exact h0
  obtain ⟨-, -, -, -, -, -, -, -, -, -, -, -, -, -, -, -, -, -, -, g19, g20, -, g22, -, g24⟩ := hG
  obtain ⟨hs, ht, hf, hr, hm, hw⟩ := hW
  have e1 : τ 19001 = a1 := by rw [ht 19001 (by decide) (by decide)]; exact h1
  have e2 : τ 19002 = a2 := by rw [ht 19002 (by decide) (by decide)]; exact h2
  have s133 : τ 133 = σ 133 := hs 133 (by decide)
  have s134 : τ 134 = σ 134 := hs 134 (by decide)
  have s10250 : τ 10250 = σ 10250 := hs 10250 (by decide)
  have s12804 : τ 12804 = σ 12804 := hs 12804 (by decide)
  have s12805 : τ 12805 = σ 12805 := hs 12805 (by decide)
  have s12814 : τ 12814 = σ 12814 := hs 12814 (by decide)
  have s18520 : τ 18520 = σ 18520 := hs 18520 (by decide)
  have s18521 : τ 18521 = σ 18521 := hs 18521 (by decide)
  have s18522 : τ 18522 = σ 18522 := hs 18522 (by decide)
  have s18523 : τ 18523 = σ 18523 := hs 18523 (by decide)
  have s18524 : τ 18524 = σ 18524 := hs 18524 (by decide)
  have s18525 : τ 18525 = σ 18525 := hs 18525 (by decide)
  have s18526 : τ 18526 = σ 18526 := hs 18526 (by decide)
  have s18527 : τ 18527 = σ 18527 := hs 18527 (by decide)
  have s18528 : τ 18528 = σ 18528 := hs 18528 (by decide)
  have s18529 : τ 18529 = σ 18529 := hs 18529 (by decide)
  have s18530 : τ 18530 = σ 18530 := hs 18530 (by decide)
  have s18531 : τ 18531 = σ 18531 := hs 18531 (by decide)
  have s18532 : τ 18532 = σ 18532 := hs 18532 (by decide)
  have s18533 : τ 18533 = σ 18533 := hs 18533 (by decide)
  have s18534 : τ 18534 = σ 18534 := hs 18534 (by decide)
  have s18535 : τ 18535 = σ 18535 := hs 18535 (by decide)
  clear ht hb h1 h2
  rw [hx] at hr
  clear hx
  obtain ⟨y, hy, hv⟩ := hr
  cases hy
  replace hv : x.toInt = 0 + (1 * τ 12804 + 0) := hv
  have sm : σ' 133 = σ 133 ∧ σ' 134 = σ 134 ∧ σ' 12805 = σ 12805 ∧ σ' 10250 = σ 10250 ∧ σ' 12814 = σ 12814 ∧ σ' 18520 = σ 18520 ∧ σ' 18521 = σ 18521 ∧ σ' 18522 = σ 18522 ∧ σ' 18523 = σ 18523 ∧ σ' 18524 = σ 18524 ∧ σ' 18525 = σ 18525 ∧ σ' 18526 = σ 18526 ∧ σ' 18527 = σ 18527 := ⟨lw_id s133 (hm 133 (by decide)), lw_id s134 (hm 134 (by decide)), lw_id s12805 (hm 12805 (by decide)), lw_id s10250 (hm 10250 (by decide)), lw_id s12814 (hm 12814 (by decide)), lw_id s18520 (hm 18520 (by decide)), lw_id s18521 (hm 18521 (by decide)), lw_id s18522 (hm 18522 (by decide)), lw_id s18523 (hm 18523 (by decide)), lw_id s18524 (hm 18524 (by decide)), lw_id s18525 (hm 18525 (by decide)), lw_id s18526 (hm 18526 (by decide)), lw_id s18527 (hm 18527 (by decide))⟩
  refine ⟨?_, sm⟩
  clear sm
  have f0 : 0 ≤ (-1) + (1 * τ 12804 + 0) := hf _ (List.Mem.head _)
  have f1 : 0 ≤ 1 + ((-1) * τ 12804 + 0) := hf _ (List.Mem.tail _ (List.Mem.head _))
  have f2 : 0 ≤ (-1) + (1 * τ 19001 + 0) := hf _ (List.Mem.tail _ (List.Mem.tail _ (List.Mem.head _)))
  have f3 : 0 ≤ 293 + ((-1) * τ 19001 + 0) := hf _ (List.Mem.tail _ (List.Mem.tail _ (List.Mem.tail _ (List.Mem.head _))))
  have f4 : 0 ≤ 0 + (1 * τ 19002 + 0) := hf _ (List.Mem.tail _ (List.Mem.tail _ (List.Mem.tail _ (List.Mem.tail _ (List.Mem.head _)))))
  have f5 : 0 ≤ 9 + ((-1) * τ 19002 + 0) := hf _ (List.Mem.tail _ (List.Mem.tail _ (List.Mem.tail _ (List.Mem.tail _ (List.Mem.tail _ (List.Mem.head _))))))
  have f6 : 0 ≤ 0 + (1 * τ 12804 + 0) := hf _ (List.Mem.tail _ (List.Mem.tail _ (List.Mem.tail _ (List.Mem.tail _ (List.Mem.tail _ (List.Mem.tail _ (List.Mem.head _)))))))
  have m18511 : σ' 18511 = 0 + (1 * τ 19001 + 0) := hm 18511 (by decide)
  have m18512 : σ' 18512 = 0 + 0 := hm 18512 (by decide)
  have m18513 : σ' 18513 = 1 + 0 := hm 18513 (by decide)
  have hok : lw_OK a1 a2 := by
    refine ⟨?_, by omega, by omega, ⟨by omega, by omega, by omega, by omega, by omega, by omega, by omega, by omega⟩, by omega, by omega⟩
    have h0 := g20.1 (by omega)
    rw [show σ' 18511 = a1 by omega, show σ' 18512 = 0 by omega] at h0
    exact h0.mpr sx_gdn_0
  have m18517 : σ' 18517 = 0 + (1 * τ 19001 + 0) := hm 18517 (by decide)
  have m18518 : σ' 18518 = 1 + 0 := hm 18518 (by decide)
  have m12804 : σ' 12804 = 1 + (1 * τ 12804 + 0) := hm 12804 (by decide)
  obtain ⟨n0, n1, n2, n3, n4, n5, n6, n7⟩ := g24
  have q18528 := lw_id s18528 (hm 18528 (by decide))
  have m18529 : σ' 18529 = 0 + (1 * τ 19001 + 0) := hm 18529 (by decide)
  have q18530 := lw_id s18530 (hm 18530 (by decide))
  have q18531 := lw_id s18531 (hm 18531 (by decide))
  have q18532 := lw_id s18532 (hm 18532 (by decide))
  have q18533 := lw_id s18533 (hm 18533 (by decide))
  have q18534 := lw_id s18534 (hm 18534 (by decide))
  have q18535 := lw_id s18535 (hm 18535 (by decide))
  have hj : σ 12804 = 1 := by omega
  exact Or.inr (Or.inr (Or.inr ⟨by omega, by omega, hok, by omega, by omega, ⟨fun _ => (by have := g22.1 0 (by omega); omega), fun h => absurd h (by omega), fun h => absurd h (by omega), fun h => absurd h (by omega), fun h => absurd h (by omega), fun h => absurd h (by omega), fun h => absurd h (by omega), fun h => absurd h (by omega)⟩, ⟨Or.inr ⟨by omega, q18528⟩, Or.inl ⟨hj, by omega⟩, Or.inr ⟨by omega, q18530⟩, Or.inr ⟨by omega, q18531⟩, Or.inr ⟨by omega, q18532⟩, Or.inr ⟨by omega, q18533⟩, Or.inr ⟨by omega, q18534⟩, Or.inr ⟨by omega, q18535⟩⟩⟩))
theorem lw_pm_10 {as : List rv_A} {σ σ' : Nat → Int} {o : rv_O} {x : Int32} {a1 a2 : Int} {A : Nat → Nat → Int} {τ : Nat → Int} (hx : o.1 = some (.inl x)) (h1 : lw_av as 1 = a1) (h2 : lw_av as 2 = a2) (hb : ∀ s, (sx_sr s).1 ≤ σ s ∧ σ s ≤ (sx_sr s).2) (hG : sx_GG σ' A) (hW : lw_W ([(18509, 1, 1099511627770), (18510, 0, 34359738367)], [((-1), [(12804, 1)]), (1, [(12804, (-1))]), ((-11567), [(19001, 1)]), (14835, [(19001, (-1))]), (0, [(19002, 1)]), (9, [(19002, (-1))]), (0, [(12804, 1)])], [(12800, (0, [])), (12804, (1, [(12804, 1)])), (18462, (0, [])), (18463, (0, [])), (18464, (0, [])), (18465, ((-1), [])), (18466, (0, [])), (18467, (0, [])), (18468, (0, [])), (18469, ((-1), [])), (18470, ((-1), [])), (18471, ((-1), [])), (18472, (0, [])), (18473, (0, [])), (18509, (0, [(1000000, 1)])), (18510, (0, [(1000001, 1)])), (18511, (0, [(19001, 1)])), (18512, (0, [])), (18513, (1, [])), (18517, (0, [(19001, 1)])), (18518, (1, [])), (18519, ((-1), [])), (18529, (0, [(19001, 1)]))], some (false, (0, [(12804, 1)]))) as σ σ' τ o) : lw_pm_C a1 a2 x.toInt σ σ' := by
  unfold lw_pm_C
  have bM : 0 ≤ σ 12804 ∧ σ 12804 ≤ 8 := by
    have h0 := hb 12804
    rw [show sx_sr 12804 = (0, 8) from by decide +kernel] at h0
    exact h0
  obtain ⟨-, -, -, -, -, -, -, -, -, -, -, -, -, -, -, -, -, -, -, g19, g20, -, g22, -, g24⟩ := hG
  obtain ⟨hs, ht, hf, hr, hm, hw⟩ := hW
  have e1 : τ 19001 = a1 := by rw [ht 19001 (by decide) (by decide)]; exact h1
  have e2 : τ 19002 = a2 := by rw [ht 19002 (by decide) (by decide)]; exact h2
  have s133 : τ 133 = σ 133 := hs 133 (by decide)
  have s134 : τ 134 = σ 134 := hs 134 (by decide)
  have s10250 : τ 10250 = σ 10250 := hs 10250 (by decide)
  have s12804 : τ 12804 = σ 12804 := hs 12804 (by decide)
  have s12805 : τ 12805 = σ 12805 := hs 12805 (by decide)
  have s12814 : τ 12814 = σ 12814 := hs 12814 (by decide)
  have s18520 : τ 18520 = σ 18520 := hs 18520 (by decide)
  have s18521 : τ 18521 = σ 18521 := hs 18521 (by decide)
  have s18522 : τ 18522 = σ 18522 := hs 18522 (by decide)
  have s18523 : τ 18523 = σ 18523 := hs 18523 (by decide)
  have s18524 : τ 18524 = σ 18524 := hs 18524 (by decide)
  have s18525 : τ 18525 = σ 18525 := hs 18525 (by decide)
  have s18526 : τ 18526 = σ 18526 := hs 18526 (by decide)
  have s18527 : τ 18527 = σ 18527 := hs 18527 (by decide)
  have s18528 : τ 18528 = σ 18528 := hs 18528 (by decide)
  have s18529 : τ 18529 = σ 18529 := hs 18529 (by decide)
  have s18530 : τ 18530 = σ 18530 := hs 18530 (by decide)
  have s18531 : τ 18531 = σ 18531 := hs 18531 (by decide)
  have s18532 : τ 18532 = σ 18532 := hs 18532 (by decide)
  have s18533 : τ 18533 = σ 18533 := hs 18533 (by decide)
  have s18534 : τ 18534 = σ 18534 := hs 18534 (by decide)
  have s18535 : τ 18535 = σ 18535 := hs 18535 (by decide)
  clear ht hb h1 h2
  rw [hx] at hr
  clear hx
  obtain ⟨y, hy, hv⟩ := hr
  cases hy
  replace hv : x.toInt = 0 + (1 * τ 12804 + 0) := hv
  have sm : σ' 133 = σ 133 ∧ σ' 134 = σ 134 ∧ σ' 12805 = σ 12805 ∧ σ' 10250 = σ 10250 ∧ σ' 12814 = σ 12814 ∧ σ' 18520 = σ 18520 ∧ σ' 18521 = σ 18521 ∧ σ' 18522 = σ 18522 ∧ σ' 18523 = σ 18523 ∧ σ' 18524 = σ 18524 ∧ σ' 18525 = σ 18525 ∧ σ' 18526 = σ 18526 ∧ σ' 18527 = σ 18527 := ⟨lw_id s133 (hm 133 (by decide)), lw_id s134 (hm 134 (by decide)), lw_id s12805 (hm 12805 (by decide)), lw_id s10250 (hm 10250 (by decide)), lw_id s12814 (hm 12814 (by decide)), lw_id s18520 (hm 18520 (by decide)), lw_id s18521 (hm 18521 (by decide)), lw_id s18522 (hm 18522 (by decide)), lw_id s18523 (hm 18523 (by decide)), lw_id s18524 (hm 18524 (by decide)), lw_id s18525 (hm 18525 (by decide)), lw_id s18526 (hm 18526 (by decide)), lw_id s18527 (hm 18527 (by decide))⟩
  refine ⟨?_, sm⟩
  clear sm
  have f0 : 0 ≤ (-1) + (1 * τ 12804 + 0) := hf _ (List.Mem.head _)
  have f1 : 0 ≤ 1 + ((-1) * τ 12804 + 0) := hf _ (List.Mem.tail _ (List.Mem.head _))
  have f2 : 0 ≤ (-11567) + (1 * τ 19001 + 0) := hf _ (List.Mem.tail _ (List.Mem.tail _ (List.Mem.head _)))
  have f3 : 0 ≤ 14835 + ((-1) * τ 19001 + 0) := hf _ (List.Mem.tail _ (List.Mem.tail _ (List.Mem.tail _ (List.Mem.head _))))
  have f4 : 0 ≤ 0 + (1 * τ 19002 + 0) := hf _ (List.Mem.tail _ (List.Mem.tail _ (List.Mem.tail _ (List.Mem.tail _ (List.Mem.head _)))))
  have f5 : 0 ≤ 9 + ((-1) * τ 19002 + 0) := hf _ (List.Mem.tail _ (List.Mem.tail _ (List.Mem.tail _ (List.Mem.tail _ (List.Mem.tail _ (List.Mem.head _))))))
  have f6 : 0 ≤ 0 + (1 * τ 12804 + 0) := hf _ (List.Mem.tail _ (List.Mem.tail _ (List.Mem.tail _ (List.Mem.tail _ (List.Mem.tail _ (List.Mem.tail _ (List.Mem.head _)))))))
  have m18511 : σ' 18511 = 0 + (1 * τ 19001 + 0) := hm 18511 (by decide)
  have m18512 : σ' 18512 = 0 + 0 := hm 18512 (by decide)
  have m18513 : σ' 18513 = 1 + 0 := hm 18513 (by decide)
  have hok : lw_OK a1 a2 := by
    refine ⟨?_, by omega, by omega, ⟨by omega, by omega, by omega, by omega, by omega, by omega, by omega, by omega⟩, by omega, by omega⟩
    have h0 := g20.1 (by omega)
    rw [show σ' 18511 = a1 by omega, show σ' 18512 = 0 by omega] at h0
    exact h0.mpr sx_gdn_0
  have m18517 : σ' 18517 = 0 + (1 * τ 19001 + 0) := hm 18517 (by decide)
  have m18518 : σ' 18518 = 1 + 0 := hm 18518 (by decide)
  have m12804 : σ' 12804 = 1 + (1 * τ 12804 + 0) := hm 12804 (by decide)
  obtain ⟨n0, n1, n2, n3, n4, n5, n6, n7⟩ := g24
  have q18528 := lw_id s18528 (hm 18528 (by decide))
  have m18529 : σ' 18529 = 0 + (1 * τ 19001 + 0) := hm 18529 (by decide)
  have q18530 := lw_id s18530 (hm 18530 (by decide))
  have q18531 := lw_id s18531 (hm 18531 (by decide))
  have q18532 := lw_id s18532 (hm 18532 (by decide))
  have q18533 := lw_id s18533 (hm 18533 (by decide))
  have q18534 := lw_id s18534 (hm 18534 (by decide))
  have q18535 := lw_id s18535 (hm 18535 (by decide))
  have hj : σ 12804 = 1 := by omega
  exact Or.inr (Or.inr (Or.inr ⟨by omega, by omega, hok, by omega, by omega, ⟨fun _ => (by have := g22.1 0 (by omega); omega), fun h => absurd h (by omega), fun h => absurd h (by omega), fun h => absurd h (by omega), fun h => absurd h (by omega), fun h => absurd h (by omega), fun h => absurd h (by omega), fun h => absurd h (by omega)⟩, ⟨Or.inr ⟨by omega, q18528⟩, Or.inl ⟨hj, by omega⟩, Or.inr ⟨by omega, q18530⟩, Or.inr ⟨by omega, q18531⟩, Or.inr ⟨by omega, q18532⟩, Or.inr ⟨by omega, q18533⟩, Or.inr ⟨by omega, q18534⟩, Or.inr ⟨by omega, q18535⟩⟩⟩))
theorem lw_pm_11 {as : List rv_A} {σ σ' : Nat → Int} {o : rv_O} {x : Int32} {a1 a2 : Int} {A : Nat → Nat → Int} {τ : Nat → Int} (hx : o.1 = some (.inl x)) (h1 : lw_av as 1 = a1) (h2 : lw_av as 2 = a2) (hb : ∀ s, (sx_sr s).1 ≤ σ s ∧ σ s ≤ (sx_sr s).2) (hG : sx_GG σ' A) (hW : lw_W ([(18509, 1, 1099511627770), (18510, 0, 34359738367)], [((-1), [(12804, 1)]), (1, [(12804, (-1))]), ((-1157), [(19001, 1)]), (1475, [(19001, (-1))]), (0, [(19002, 1)]), (9, [(19002, (-1))]), (0, [(12804, 1)])], [(12800, (0, [])), (12804, (1, [(12804, 1)])), (18462, (0, [])), (18463, (0, [])), (18464, (0, [])), (18465, ((-1), [])), (18466, (0, [])), (18467, (0, [])), (18468, (0, [])), (18469, ((-1), [])), (18470, ((-1), [])), (18471, ((-1), [])), (18472, (0, [])), (18473, (0, [])), (18509, (0, [(1000000, 1)])), (18510, (0, [(1000001, 1)])), (18511, (0, [(19001, 1)])), (18512, (0, [])), (18513, (1, [])), (18517, (0, [(19001, 1)])), (18518, (1, [])), (18519, ((-1), [])), (18529, (0, [(19001, 1)]))], some (false, (0, [(12804, 1)]))) as σ σ' τ o) : lw_pm_C a1 a2 x.toInt σ σ' := by
  unfold lw_pm_C
  have bM : 0 ≤ σ 12804 ∧ σ 12804 ≤ 8 := by
    have h0 := hb 12804
    rw [show sx_sr 12804 = (0, 8) from by decide +kernel] at h0
    exact h0
  obtain ⟨-, -, -, -, -, -, -, -, -, -, -, -, -, -, -, -, -, -, -, g19, g20, -, g22, -, g24⟩ := hG
  obtain ⟨hs, ht, hf, hr, hm, hw⟩ := hW
  have e1 : τ 19001 = a1 := by rw [ht 19001 (by decide) (by decide)]; exact h1
  have e2 : τ 19002 = a2 := by rw [ht 19002 (by decide) (by decide)]; exact h2
  have s133 : τ 133 = σ 133 := hs 133 (by decide)
  have s134 : τ 134 = σ 134 := hs 134 (by decide)
  have s10250 : τ 10250 = σ 10250 := hs 10250 (by decide)
  have s12804 : τ 12804 = σ 12804 := hs 12804 (by decide)
  have s12805 : τ 12805 = σ 12805 := hs 12805 (by decide)
  have s12814 : τ 12814 = σ 12814 := hs 12814 (by decide)
  have s18520 : τ 18520 = σ 18520 := hs 18520 (by decide)
  have s18521 : τ 18521 = σ 18521 := hs 18521 (by decide)
  have s18522 : τ 18522 = σ 18522 := hs 18522 (by decide)
  have s18523 : τ 18523 = σ 18523 := hs 18523 (by decide)
  have s18524 : τ 18524 = σ 18524 := hs 18524 (by decide)
  have s18525 : τ 18525 = σ 18525 := hs 18525 (by decide)
  have s18526 : τ 18526 = σ 18526 := hs 18526 (by decide)
  have s18527 : τ 18527 = σ 18527 := hs 18527 (by decide)
  have s18528 : τ 18528 = σ 18528 := hs 18528 (by decide)
  have s18529 : τ 18529 = σ 18529 := hs 18529 (by decide)
  have s18530 : τ 18530 = σ 18530 := hs 18530 (by decide)
  have s18531 : τ 18531 = σ 18531 := hs 18531 (by decide)
  have s18532 : τ 18532 = σ 18532 := hs 18532 (by decide)
  have s18533 : τ 18533 = σ 18533 := hs 18533 (by decide)
  have s18534 : τ 18534 = σ 18534 := hs 18534 (by decide)
  have s18535 : τ 18535 = σ 18535 := hs 18535 (by decide)
  clear ht hb h1 h2
  rw [hx] at hr
  clear hx
  obtain ⟨y, hy, hv⟩ := hr
  cases hy
  replace hv : x.toInt = 0 + (1 * τ 12804 + 0) := hv
  have sm : σ' 133 = σ 133 ∧ σ' 134 = σ 134 ∧ σ' 12805 = σ 12805 ∧ σ' 10250 = σ 10250 ∧ σ' 12814 = σ 12814 ∧ σ' 18520 = σ 18520 ∧ σ' 18521 = σ 18521 ∧ σ' 18522 = σ 18522 ∧ σ' 18523 = σ 18523 ∧ σ' 18524 = σ 18524 ∧ σ' 18525 = σ 18525 ∧ σ' 18526 = σ 18526 ∧ σ' 18527 = σ 18527 := ⟨lw_id s133 (hm 133 (by decide)), lw_id s134 (hm 134 (by decide)), lw_id s12805 (hm 12805 (by decide)), lw_id s10250 (hm 10250 (by decide)), lw_id s12814 (hm 12814 (by decide)), lw_id s18520 (hm 18520 (by decide)), lw_id s18521 (hm 18521 (by decide)), lw_id s18522 (hm 18522 (by decide)), lw_id s18523 (hm 18523 (by decide)), lw_id s18524 (hm 18524 (by decide)), lw_id s18525 (hm 18525 (by decide)), lw_id s18526 (hm 18526 (by decide)), lw_id s18527 (hm 18527 (by decide))⟩
  refine ⟨?_, sm⟩
  clear sm
  have f0 : 0 ≤ (-1) + (1 * τ 12804 + 0) := hf _ (List.Mem.head _)
  have f1 : 0 ≤ 1 + ((-1) * τ 12804 + 0) := hf _ (List.Mem.tail _ (List.Mem.head _))
  have f2 : 0 ≤ (-1157) + (1 * τ 19001 + 0) := hf _ (List.Mem.tail _ (List.Mem.tail _ (List.Mem.head _)))
  have f3 : 0 ≤ 1475 + ((-1) * τ 19001 + 0) := hf _ (List.Mem.tail _ (List.Mem.tail _ (List.Mem.tail _ (List.Mem.head _))))
  have f4 : 0 ≤ 0 + (1 * τ 19002 + 0) := hf _ (List.Mem.tail _ (List.Mem.tail _ (List.Mem.tail _ (List.Mem.tail _ (List.Mem.head _)))))
  have f5 : 0 ≤ 9 + ((-1) * τ 19002 + 0) := hf _ (List.Mem.tail _ (List.Mem.tail _ (List.Mem.tail _ (List.Mem.tail _ (List.Mem.tail _ (List.Mem.head _))))))
  have f6 : 0 ≤ 0 + (1 * τ 12804 + 0) := hf _ (List.Mem.tail _ (List.Mem.tail _ (List.Mem.tail _ (List.Mem.tail _ (List.Mem.tail _ (List.Mem.tail _ (List.Mem.head _)))))))
  have m18511 : σ' 18511 = 0 + (1 * τ 19001 + 0) := hm 18511 (by decide)
  have m18512 : σ' 18512 = 0 + 0 := hm 18512 (by decide)
  have m18513 : σ' 18513 = 1 + 0 := hm 18513 (by decide)
  have hok : lw_OK a1 a2 := by
    refine ⟨?_, by omega, by omega, ⟨by omega, by omega, by omega, by omega, by omega, by omega, by omega, by omega⟩, by omega, by omega⟩
    have h0 := g20.1 (by omega)
    rw [show σ' 18511 = a1 by omega, show σ' 18512 = 0 by omega] at h0
    exact h0.mpr sx_gdn_0
  have m18517 : σ' 18517 = 0 + (1 * τ 19001 + 0) := hm 18517 (by decide)
  have m18518 : σ' 18518 = 1 + 0 := hm 18518 (by decide)
  have m12804 : σ' 12804 = 1 + (1 * τ 12804 + 0) := hm 12804 (by decide)
  obtain ⟨n0, n1, n2, n3, n4, n5, n6, n7⟩ := g24
  have q18528 := lw_id s18528 (hm 18528 (by decide))
  have m18529 : σ' 18529 = 0 + (1 * τ 19001 + 0) := hm 18529 (by decide)
  have q18530 := lw_id s18530 (hm 18530 (by decide))
  have q18531 := lw_id s18531 (hm 18531 (by decide))
  have q18532 := lw_id s18532 (hm 18532 (by decide))
  have q18533 := lw_id s18533 (hm 18533 (by decide))
  have q18534 := lw_id s18534 (hm 18534 (by decide))
  have q18535 := lw_id s18535 (hm 18535 (by decide))
  have hj : σ 12804 = 1 := by omega
  exact Or.inr (Or.inr (Or.inr ⟨by omega, by omega, hok, by omega, by omega, ⟨fun _ => (by have := g22.1 0 (by omega); omega), fun h => absurd h (by omega), fun h => absurd h (by omega), fun h => absurd h (by omega), fun h => absurd h (by omega), fun h => absurd h (by omega), fun h => absurd h (by omega), fun h => absurd h (by omega)⟩, ⟨Or.inr ⟨by omega, q18528⟩, Or.inl ⟨hj, by omega⟩, Or.inr ⟨by omega, q18530⟩, Or.inr ⟨by omega, q18531⟩, Or.inr ⟨by omega, q18532⟩, Or.inr ⟨by omega, q18533⟩, Or.inr ⟨by omega, q18534⟩, Or.inr ⟨by omega, q18535⟩⟩⟩))
theorem lw_pm_12 {as : List rv_A} {σ σ' : Nat → Int} {o : rv_O} {x : Int32} {a1 a2 : Int} {A : Nat → Nat → Int} {τ : Nat → Int} (hx : o.1 = some (.inl x)) (h1 : lw_av as 1 = a1) (h2 : lw_av as 2 = a2) (hb : ∀ s, (sx_sr s).1 ≤ σ s ∧ σ s ≤ (sx_sr s).2) (hG : sx_GG σ' A) (hW : lw_W ([(18509, 1, 1099511627770), (18510, 0, 34359738367)], [((-1), [(12804, 1)]), (1, [(12804, (-1))]), ((-1477), [(19001, 1)]), (2097, [(19001, (-1))]), (0, [(19002, 1)]), (9, [(19002, (-1))]), (0, [(12804, 1)])], [(12800, (0, [])), (12804, (1, [(12804, 1)])), (18462, (0, [])), (18463, (0, [])), (18464, (0, [])), (18465, ((-1), [])), (18466, (0, [])), (18467, (0, [])), (18468, (0, [])), (18469, ((-1), [])), (18470, ((-1), [])), (18471, ((-1), [])), (18472, (0, [])), (18473, (0, [])), (18509, (0, [(1000000, 1)])), (18510, (0, [(1000001, 1)])), (18511, (0, [(19001, 1)])), (18512, (0, [])), (18513, (1, [])), (18517, (0, [(19001, 1)])), (18518, (1, [])), (18519, ((-1), [])), (18529, (0, [(19001, 1)]))], some (false, (0, [(12804, 1)]))) as σ σ' τ o) : lw_pm_C a1 a2 x.toInt σ σ' := by
  unfold lw_pm_C
  have bM : 0 ≤ σ 12804 ∧ σ 12804 ≤ 8 := by
    have h0 := hb 12804
    rw [show sx_sr 12804 = (0, 8) from by decide +kernel] at h0
    exact h0
  obtain ⟨-, -, -, -, -, -, -, -, -, -, -, -, -, -, -, -, -, -, -, g19, g20, -, g22, -, g24⟩ := hG
  obtain ⟨hs, ht, hf, hr, hm, hw⟩ := hW
  have e1 : τ 19001 = a1 := by rw [ht 19001 (by decide) (by decide)]; exact h1
  have e2 : τ 19002 = a2 := by rw [ht 19002 (by decide) (by decide)]; exact h2
  have s133 : τ 133 = σ 133 := hs 133 (by decide)
  have s134 : τ 134 = σ 134 := hs 134 (by decide)
  have s10250 : τ 10250 = σ 10250 := hs 10250 (by decide)
  have s12804 : τ 12804 = σ 12804 := hs 12804 (by decide)
  have s12805 : τ 12805 = σ 12805 := hs 12805 (by decide)
  have s12814 : τ 12814 = σ 12814 := hs 12814 (by decide)
  have s18520 : τ 18520 = σ 18520 := hs 18520 (by decide)
  have s18521 : τ 18521 = σ 18521 := hs 18521 (by decide)
  have s18522 : τ 18522 = σ 18522 := hs 18522 (by decide)
  have s18523 : τ 18523 = σ 18523 := hs 18523 (by decide)
  have s18524 : τ 18524 = σ 18524 := hs 18524 (by decide)
  have s18525 : τ 18525 = σ 18525 := hs 18525 (by decide)
  have s18526 : τ 18526 = σ 18526 := hs 18526 (by decide)
  have s18527 : τ 18527 = σ 18527 := hs 18527 (by decide)
  have s18528 : τ 18528 = σ 18528 := hs 18528 (by decide)
  have s18529 : τ 18529 = σ 18529 := hs 18529 (by decide)
  have s18530 : τ 18530 = σ 18530 := hs 18530 (by decide)
  have s18531 : τ 18531 = σ 18531 := hs 18531 (by decide)
  have s18532 : τ 18532 = σ 18532 := hs 18532 (by decide)
  have s18533 : τ 18533 = σ 18533 := hs 18533 (by decide)
  have s18534 : τ 18534 = σ 18534 := hs 18534 (by decide)
  have s18535 : τ 18535 = σ 18535 := hs 18535 (by decide)
  clear ht hb h1 h2
  rw [hx] at hr
  clear hx
  obtain ⟨y, hy, hv⟩ := hr
  cases hy
  replace hv : x.toInt = 0 + (1 * τ 12804 + 0) := hv
  have sm : σ' 133 = σ 133 ∧ σ' 134 = σ 134 ∧ σ' 12805 = σ 12805 ∧ σ' 10250 = σ 10250 ∧ σ' 12814 = σ 12814 ∧ σ' 18520 = σ 18520 ∧ σ' 18521 = σ 18521 ∧ σ' 18522 = σ 18522 ∧ σ' 18523 = σ 18523 ∧ σ' 18524 = σ 18524 ∧ σ' 18525 = σ 18525 ∧ σ' 18526 = σ 18526 ∧ σ' 18527 = σ 18527 := ⟨lw_id s133 (hm 133 (by decide)), lw_id s134 (hm 134 (by decide)), lw_id s12805 (hm 12805 (by decide)), lw_id s10250 (hm 10250 (by decide)), lw_id s12814 (hm 12814 (by decide)), lw_id s18520 (hm 18520 (by decide)), lw_id s18521 (hm 18521 (by decide)), lw_id s18522 (hm 18522 (by decide)), lw_id s18523 (hm 18523 (by decide)), lw_id s18524 (hm 18524 (by decide)), lw_id s18525 (hm 18525 (by decide)), lw_id s18526 (hm 18526 (by decide)), lw_id s18527 (hm 18527 (by decide))⟩
  refine ⟨?_, sm⟩
  clear sm
  have f0 : 0 ≤ (-1) + (1 * τ 12804 + 0) := hf _ (List.Mem.head _)
  have f1 : 0 ≤ 1 + ((-1) * τ 12804 + 0) := hf _ (List.Mem.tail _ (List.Mem.head _))
  have f2 : 0 ≤ (-1477) + (1 * τ 19001 + 0) := hf _ (List.Mem.tail _ (List.Mem.tail _ (List.Mem.head _)))
  have f3 : 0 ≤ 2097 + ((-1) * τ 19001 + 0) := hf _ (List.Mem.tail _ (List.Mem.tail _ (List.Mem.tail _ (List.Mem.head _))))
  have f4 : 0 ≤ 0 + (1 * τ 19002 + 0) := hf _ (List.Mem.tail _ (List.Mem.tail _ (List.Mem.tail _ (List.Mem.tail _ (List.Mem.head _)))))
  have f5 : 0 ≤ 9 + ((-1) * τ 19002 + 0) := hf _ (List.Mem.tail _ (List.Mem.tail _ (List.Mem.tail _ (List.Mem.tail _ (List.Mem.tail _ (List.Mem.head _))))))
  have f6 : 0 ≤ 0 + (1 * τ 12804 + 0) := hf _ (List.Mem.tail _ (List.Mem.tail _ (List.Mem.tail _ (List.Mem.tail _ (List.Mem.tail _ (List.Mem.tail _ (List.Mem.head _)))))))
  have m18511 : σ' 18511 = 0 + (1 * τ 19001 + 0) := hm 18511 (by decide)
  have m18512 : σ' 18512 = 0 + 0 := hm 18512 (by decide)
  have m18513 : σ' 18513 = 1 + 0 := hm 18513 (by decide)
  have hok : lw_OK a1 a2 := by
    refine ⟨?_, by omega, by omega, ⟨by omega, by omega, by omega, by omega, by omega, by omega, by omega, by omega⟩, by omega, by omega⟩
    have h0 := g20.1 (by omega)
    rw [show σ' 18511 = a1 by omega, show σ' 18512 = 0 by omega] at h0
    exact h0.mpr sx_gdn_0
  have m18517 : σ' 18517 = 0 + (1 * τ 19001 + 0) := hm 18517 (by decide)
  have m18518 : σ' 18518 = 1 + 0 := hm 18518 (by decide)
  have m12804 : σ' 12804 = 1 + (1 * τ 12804 + 0) := hm 12804 (by decide)
  obtain ⟨n0, n1, n2, n3, n4, n5, n6, n7⟩ := g24
  have q18528 := lw_id s18528 (hm 18528 (by decide))
  have m18529 : σ' 18529 = 0 + (1 * τ 19001 + 0) := hm 18529 (by decide)
  have q18530 := lw_id s18530 (hm 18530 (by decide))
  have q18531 := lw_id s18531 (hm 18531 (by decide))
  have q18532 := lw_id s18532 (hm 18532 (by decide))
  have q18533 := lw_id s18533 (hm 18533 (by decide))
  have q18534 := lw_id s18534 (hm 18534 (by decide))
  have q18535 := lw_id s18535 (hm 18535 (by decide))
  have hj : σ 12804 = 1 := by omega
  exact Or.inr (Or.inr (Or.inr ⟨by omega, by omega, hok, by omega, by omega, ⟨fun _ => (by have := g22.1 0 (by omega); omega), fun h => absurd h (by omega), fun h => absurd h (by omega), fun h => absurd h (by omega), fun h => absurd h (by omega), fun h => absurd h (by omega), fun h => absurd h (by omega), fun h => absurd h (by omega)⟩, ⟨Or.inr ⟨by omega, q18528⟩, Or.inl ⟨hj, by omega⟩, Or.inr ⟨by omega, q18530⟩, Or.inr ⟨by omega, q18531⟩, Or.inr ⟨by omega, q18532⟩, Or.inr ⟨by omega, q18533⟩, Or.inr ⟨by omega, q18534⟩, Or.inr ⟨by omega, q18535⟩⟩⟩))
theorem lw_pm_13 {as : List rv_A} {σ σ' : Nat → Int} {o : rv_O} {x : Int32} {a1 a2 : Int} {A : Nat → Nat → Int} {τ : Nat → Int} (hx : o.1 = some (.inl x)) (h1 : lw_av as 1 = a1) (h2 : lw_av as 2 = a2) (hb : ∀ s, (sx_sr s).1 ≤ σ s ∧ σ s ≤ (sx_sr s).2) (hG : sx_GG σ' A) (hW : lw_W ([(18509, 1, 1099511627770), (18510, 0, 34359738367)], [((-1), [(12804, 1)]), (1, [(12804, (-1))]), ((-14837), [(19001, 1)]), (632644, [(19001, (-1))]), (0, [(19002, 1)]), (9, [(19002, (-1))]), (0, [(12804, 1)])], [(12800, (0, [])), (12804, (1, [(12804, 1)])), (18462, (0, [])), (18463, (0, [])), (18464, (0, [])), (18465, ((-1), [])), (18466, (0, [])), (18467, (0, [])), (18468, (0, [])), (18469, ((-1), [])), (18470, ((-1), [])), (18471, ((-1), [])), (18472, (0, [])), (18473, (0, [])), (18509, (0, [(1000000, 1)])), (18510, (0, [(1000001, 1)])), (18511, (0, [(19001, 1)])), (18512, (0, [])), (18513, (1, [])), (18517, (0, [(19001, 1)])), (18518, (1, [])), (18519, ((-1), [])), (18529, (0, [(19001, 1)]))], some (false, (0, [(12804, 1)]))) as σ σ' τ o) : lw_pm_C a1 a2 x.toInt σ σ' := by
  unfold lw_pm_C
  have bM : 0 ≤ σ 12804 ∧ σ 12804 ≤ 8 := by
    have h0 := hb 12804
    rw [show sx_sr 12804 = (0, 8) from by decide +kernel] at h0
    exact h0
  obtain ⟨-, -, -, -, -, -, -, -, -, -, -, -, -, -, -, -, -, -, -, g19, g20, -, g22, -, g24⟩ := hG
  obtain ⟨hs, ht, hf, hr, hm, hw⟩ := hW
  have e1 : τ 19001 = a1 := by rw [ht 19001 (by decide) (by decide)]; exact h1
  have e2 : τ 19002 = a2 := by rw [ht 19002 (by decide) (by decide)]; exact h2
  have s133 : τ 133 = σ 133 := hs 133 (by decide)
  have s134 : τ 134 = σ 134 := hs 134 (by decide)
  have s10250 : τ 10250 = σ 10250 := hs 10250 (by decide)
  have s12804 : τ 12804 = σ 12804 := hs 12804 (by decide)
  have s12805 : τ 12805 = σ 12805 := hs 12805 (by decide)
  have s12814 : τ 12814 = σ 12814 := hs 12814 (by decide)
  have s18520 : τ 18520 = σ 18520 := hs 18520 (by decide)
  have s18521 : τ 18521 = σ 18521 := hs 18521 (by decide)
  have s18522 : τ 18522 = σ 18522 := hs 18522 (by decide)
  have s18523 : τ 18523 = σ 18523 := hs 18523 (by decide)
  have s18524 : τ 18524 = σ 18524 := hs 18524 (by decide)
  have s18525 : τ 18525 = σ 18525 := hs 18525 (by decide)
  have s18526 : τ 18526 = σ 18526 := hs 18526 (by decide)
  have s18527 : τ 18527 = σ 18527 := hs 18527 (by decide)
  have s18528 : τ 18528 = σ 18528 := hs 18528 (by decide)
  have s18529 : τ 18529 = σ 18529 := hs 18529 (by decide)
  have s18530 : τ 18530 = σ 18530 := hs 18530 (by decide)
  have s18531 : τ 18531 = σ 18531 := hs 18531 (by decide)
  have s18532 : τ 18532 = σ 18532 := hs 18532 (by decide)
  have s18533 : τ 18533 = σ 18533 := hs 18533 (by decide)
  have s18534 : τ 18534 = σ 18534 := hs 18534 (by decide)
  have s18535 : τ 18535 = σ 18535 := hs 18535 (by decide)
  clear ht hb h1 h2
  rw [hx] at hr
  clear hx
  obtain ⟨y, hy, hv⟩ := hr
  cases hy
  replace hv : x.toInt = 0 + (1 * τ 12804 + 0) := hv
  have sm : σ' 133 = σ 133 ∧ σ' 134 = σ 134 ∧ σ' 12805 = σ 12805 ∧ σ' 10250 = σ 10250 ∧ σ' 12814 = σ 12814 ∧ σ' 18520 = σ 18520 ∧ σ' 18521 = σ 18521 ∧ σ' 18522 = σ 18522 ∧ σ' 18523 = σ 18523 ∧ σ' 18524 = σ 18524 ∧ σ' 18525 = σ 18525 ∧ σ' 18526 = σ 18526 ∧ σ' 18527 = σ 18527 := ⟨lw_id s133 (hm 133 (by decide)), lw_id s134 (hm 134 (by decide)), lw_id s12805 (hm 12805 (by decide)), lw_id s10250 (hm 10250 (by decide)), lw_id s12814 (hm 12814 (by decide)), lw_id s18520 (hm 18520 (by decide)), lw_id s18521 (hm 18521 (by decide)), lw_id s18522 (hm 18522 (by decide)), lw_id s18523 (hm 18523 (by decide)), lw_id s18524 (hm 18524 (by decide)), lw_id s18525 (hm 18525 (by decide)), lw_id s18526 (hm 18526 (by decide)), lw_id s18527 (hm 18527 (by decide))⟩
  refine ⟨?_, sm⟩
  clear sm
  have f0 : 0 ≤ (-1) + (1 * τ 12804 + 0) := hf _ (List.Mem.head _)
  have f1 : 0 ≤ 1 + ((-1) * τ 12804 + 0) := hf _ (List.Mem.tail _ (List.Mem.head _))
  have f2 : 0 ≤ (-14837) + (1 * τ 19001 + 0) := hf _ (List.Mem.tail _ (List.Mem.tail _ (List.Mem.head _)))
  have f3 : 0 ≤ 632644 + ((-1) * τ 19001 + 0) := hf _ (List.Mem.tail _ (List.Mem.tail _ (List.Mem.tail _ (List.Mem.head _))))
  have f4 : 0 ≤ 0 + (1 * τ 19002 + 0) := hf _ (List.Mem.tail _ (List.Mem.tail _ (List.Mem.tail _ (List.Mem.tail _ (List.Mem.head _)))))
  have f5 : 0 ≤ 9 + ((-1) * τ 19002 + 0) := hf _ (List.Mem.tail _ (List.Mem.tail _ (List.Mem.tail _ (List.Mem.tail _ (List.Mem.tail _ (List.Mem.head _))))))
  have f6 : 0 ≤ 0 + (1 * τ 12804 + 0) := hf _ (List.Mem.tail _ (List.Mem.tail _ (List.Mem.tail _ (List.Mem.tail _ (List.Mem.tail _ (List.Mem.tail _ (List.Mem.head _)))))))
  have m18511 : σ' 18511 = 0 + (1 * τ 19001 + 0) := hm 18511 (by decide)
  have m18512 : σ' 18512 = 0 + 0 := hm 18512 (by decide)
  have m18513 : σ' 18513 = 1 + 0 := hm 18513 (by decide)
  have hok : lw_OK a1 a2 := by
    refine ⟨?_, by omega, by omega, ⟨by omega, by omega, by omega, by omega, by omega, by omega, by omega, by omega⟩, by omega, by omega⟩
    have h0 := g20.1 (by omega)
    rw [show σ' 18511 = a1 by omega, show σ' 18512 = 0 by omega] at h0
    exact h0.mpr sx_gdn_0
  have m18517 : σ' 18517 = 0 + (1 * τ 19001 + 0) := hm 18517 (by decide)
  have m18518 : σ' 18518 = 1 + 0 := hm 18518 (by decide)
  have m12804 : σ' 12804 = 1 + (1 * τ 12804 + 0) := hm 12804 (by decide)
  obtain ⟨n0, n1, n2, n3, n4, n5, n6, n7⟩ := g24
  have q18528 := lw_id s18528 (hm 18528 (by decide))
  have m18529 : σ' 18529 = 0 + (1 * τ 19001 + 0) := hm 18529 (by decide)
  have q18530 := lw_id s18530 (hm 18530 (by decide))
  have q18531 := lw_id s18531 (hm 18531 (by decide))
  have q18532 := lw_id s18532 (hm 18532 (by decide))
  have q18533 := lw_id s18533 (hm 18533 (by decide))
  have q18534 := lw_id s18534 (hm 18534 (by decide))
  have q18535 := lw_id s18535 (hm 18535 (by decide))
  have hj : σ 12804 = 1 := by omega
  exact Or.inr (Or.inr (Or.inr ⟨by omega, by omega, hok, by omega, by omega, ⟨fun _ => (by have := g22.1 0 (by omega); omega), fun h => absurd h (by omega), fun h => absurd h (by omega), fun h => absurd h (by omega), fun h => absurd h (by omega), fun h => absurd h (by omega), fun h => absurd h (by omega), fun h => absurd h (by omega)⟩, ⟨Or.inr ⟨by omega, q18528⟩, Or.inl ⟨hj, by omega⟩, Or.inr ⟨by omega, q18530⟩, Or.inr ⟨by omega, q18531⟩, Or.inr ⟨by omega, q18532⟩, Or.inr ⟨by omega, q18533⟩, Or.inr ⟨by omega, q18534⟩, Or.inr ⟨by omega, q18535⟩⟩⟩))
theorem lw_pm_14 {as : List rv_A} {σ σ' : Nat → Int} {o : rv_O} {x : Int32} {a1 a2 : Int} {A : Nat → Nat → Int} {τ : Nat → Int} (hx : o.1 = some (.inl x)) (h1 : lw_av as 1 = a1) (h2 : lw_av as 2 = a2) (hb : ∀ s, (sx_sr s).1 ≤ σ s ∧ σ s ≤ (sx_sr s).2) (hG : sx_GG σ' A) (hW : lw_W ([(18509, 1, 1099511627770), (18510, 0, 34359738367)], [((-1), [(12804, 1)]), (1, [(12804, (-1))]), ((-2099), [(19001, 1)]), (11565, [(19001, (-1))]), (0, [(19002, 1)]), (9, [(19002, (-1))]), (0, [(12804, 1)])], [(12800, (0, [])), (12804, (1, [(12804, 1)])), (18462, (0, [])), (18463, (0, [])), (18464, (0, [])), (18465, ((-1), [])), (18466, (0, [])), (18467, (0, [])), (18468, (0, [])), (18469, ((-1), [])), (18470, ((-1), [])), (18471, ((-1), [])), (18472, (0, [])), (18473, (0, [])), (18509, (0, [(1000000, 1)])), (18510, (0, [(1000001, 1)])), (18511, (0, [(19001, 1)])), (18512, (0, [])), (18513, (1, [])), (18517, (0, [(19001, 1)])), (18518, (1, [])), (18519, ((-1), [])), (18529, (0, [(19001, 1)]))], some (false, (0, [(12804, 1)]))) as σ σ' τ o) : lw_pm_C a1 a2 x.toInt σ σ' := by
  unfold lw_pm_C
  have bM : 0 ≤ σ 12804 ∧ σ 12804 ≤ 8 := by
    have h0 := hb 12804
    rw [show sx_sr 12804 = (0, 8) from by decide +kernel] at h0
    exact h0
  obtain ⟨-, -, -, -, -, -, -, -, -, -, -, -, -, -, -, -, -, -, -, g19, g20, -, g22, -, g24⟩ := hG
  obtain ⟨hs, ht, hf, hr, hm, hw⟩ := hW
  have e1 : τ 19001 = a1 := by rw [ht 19001 (by decide) (by decide)]; exact h1
  have e2 : τ 19002 = a2 := by rw [ht 19002 (by decide) (by decide)]; exact h2
  have s133 : τ 133 = σ 133 := hs 133 (by decide)
  have s134 : τ 134 = σ 134 := hs 134 (by decide)
  have s10250 : τ 10250 = σ 10250 := hs 10250 (by decide)
  have s12804 : τ 12804 = σ 12804 := hs 12804 (by decide)
  have s12805 : τ 12805 = σ 12805 := hs 12805 (by decide)
  have s12814 : τ 12814 = σ 12814 := hs 12814 (by decide)
  have s18520 : τ 18520 = σ 18520 := hs 18520 (by decide)
  have s18521 : τ 18521 = σ 18521 := hs 18521 (by decide)
  have s18522 : τ 18522 = σ 18522 := hs 18522 (by decide)
  have s18523 : τ 18523 = σ 18523 := hs 18523 (by decide)
  have s18524 : τ 18524 = σ 18524 := hs 18524 (by decide)
  have s18525 : τ 18525 = σ 18525 := hs 18525 (by decide)
  have s18526 : τ 18526 = σ 18526 := hs 18526 (by decide)
  have s18527 : τ 18527 = σ 18527 := hs 18527 (by decide)
  have s18528 : τ 18528 = σ 18528 := hs 18528 (by decide)
  have s18529 : τ 18529 = σ 18529 := hs 18529 (by decide)
  have s18530 : τ 18530 = σ 18530 := hs 18530 (by decide)
  have s18531 : τ 18531 = σ 18531 := hs 18531 (by decide)
  have s18532 : τ 18532 = σ 18532 := hs 18532 (by decide)
  have s18533 : τ 18533 = σ 18533 := hs 18533 (by decide)
  have s18534 : τ 18534 = σ 18534 := hs 18534 (by decide)
  have s18535 : τ 18535 = σ 18535 := hs 18535 (by decide)
  clear ht hb h1 h2
  rw [hx] at hr
  clear hx
  obtain ⟨y, hy, hv⟩ := hr
  cases hy
  replace hv : x.toInt = 0 + (1 * τ 12804 + 0) := hv
  have sm : σ' 133 = σ 133 ∧ σ' 134 = σ 134 ∧ σ' 12805 = σ 12805 ∧ σ' 10250 = σ 10250 ∧ σ' 12814 = σ 12814 ∧ σ' 18520 = σ 18520 ∧ σ' 18521 = σ 18521 ∧ σ' 18522 = σ 18522 ∧ σ' 18523 = σ 18523 ∧ σ' 18524 = σ 18524 ∧ σ' 18525 = σ 18525 ∧ σ' 18526 = σ 18526 ∧ σ' 18527 = σ 18527 := ⟨lw_id s133 (hm 133 (by decide)), lw_id s134 (hm 134 (by decide)), lw_id s12805 (hm 12805 (by decide)), lw_id s10250 (hm 10250 (by decide)), lw_id s12814 (hm 12814 (by decide)), lw_id s18520 (hm 18520 (by decide)), lw_id s18521 (hm 18521 (by decide)), lw_id s18522 (hm 18522 (by decide)), lw_id s18523 (hm 18523 (by decide)), lw_id s18524 (hm 18524 (by decide)), lw_id s18525 (hm 18525 (by decide)), lw_id s18526 (hm 18526 (by decide)), lw_id s18527 (hm 18527 (by decide))⟩
  refine ⟨?_, sm⟩
  clear sm
  have f0 : 0 ≤ (-1) + (1 * τ 12804 + 0) := hf _ (List.Mem.head _)
  have f1 : 0 ≤ 1 + ((-1) * τ 12804 + 0) := hf _ (List.Mem.tail _ (List.Mem.head _))
  have f2 : 0 ≤ (-2099) + (1 * τ 19001 + 0) := hf _ (List.Mem.tail _ (List.Mem.tail _ (List.Mem.head _)))
  have f3 : 0 ≤ 11565 + ((-1) * τ 19001 + 0) := hf _ (List.Mem.tail _ (List.Mem.tail _ (List.Mem.tail _ (List.Mem.head _))))
  have f4 : 0 ≤ 0 + (1 * τ 19002 + 0) := hf _ (List.Mem.tail _ (List.Mem.tail _ (List.Mem.tail _ (List.Mem.tail _ (List.Mem.head _)))))
  have f5 : 0 ≤ 9 + ((-1) * τ 19002 + 0) := hf _ (List.Mem.tail _ (List.Mem.tail _ (List.Mem.tail _ (List.Mem.tail _ (List.Mem.tail _ (List.Mem.head _))))))
  have f6 : 0 ≤ 0 + (1 * τ 12804 + 0) := hf _ (List.Mem.tail _ (List.Mem.tail _ (List.Mem.tail _ (List.Mem.tail _ (List.Mem.tail _ (List.Mem.tail _ (List.Mem.head _)))))))
  have m18511 : σ' 18511 = 0 + (1 * τ 19001 + 0) := hm 18511 (by decide)
  have m18512 : σ' 18512 = 0 + 0 := hm 18512 (by decide)
  have m18513 : σ' 18513 = 1 + 0 := hm 18513 (by decide)
  have hok : lw_OK a1 a2 := by
    refine ⟨?_, by omega, by omega, ⟨by omega, by omega, by omega, by omega, by omega, by omega, by omega, by omega⟩, by omega, by omega⟩
    have h0 := g20.1 (by omega)
    rw [show σ' 18511 = a1 by omega, show σ' 18512 = 0 by omega] at h0
    exact h0.mpr sx_gdn_0
  have m18517 : σ' 18517 = 0 + (1 * τ 19001 + 0) := hm 18517 (by decide)
  have m18518 : σ' 18518 = 1 + 0 := hm 18518 (by decide)
  have m12804 : σ' 12804 = 1 + (1 * τ 12804 + 0) := hm 12804 (by decide)
  obtain ⟨n0, n1, n2, n3, n4, n5, n6, n7⟩ := g24
  have q18528 := lw_id s18528 (hm 18528 (by decide))
  have m18529 : σ' 18529 = 0 + (1 * τ 19001 + 0) := hm 18529 (by decide)
  have q18530 := lw_id s18530 (hm 18530 (by decide))
  have q18531 := lw_id s18531 (hm 18531 (by decide))
  have q18532 := lw_id s18532 (hm 18532 (by decide))
  have q18533 := lw_id s18533 (hm 18533 (by decide))
  have q18534 := lw_id s18534 (hm 18534 (by decide))
  have q18535 := lw_id s18535 (hm 18535 (by decide))
  have hj : σ 12804 = 1 := by omega
  exact Or.inr (Or.inr (Or.inr ⟨by omega, by omega, hok, by omega, by omega, ⟨fun _ => (by have := g22.1 0 (by omega); omega), fun h => absurd h (by omega), fun h => absurd h (by omega), fun h => absurd h (by omega), fun h => absurd h (by omega), fun h => absurd h (by omega), fun h => absurd h (by omega), fun h => absurd h (by omega)⟩, ⟨Or.inr ⟨by omega, q18528⟩, Or.inl ⟨hj, by omega⟩, Or.inr ⟨by omega, q18530⟩, Or.inr ⟨by omega, q18531⟩, Or.inr ⟨by omega, q18532⟩, Or.inr ⟨by omega, q18533⟩, Or.inr ⟨by omega, q18534⟩, Or.inr ⟨by omega, q18535⟩⟩⟩))
theorem lw_pm_15 {as : List rv_A} {σ σ' : Nat → Int} {o : rv_O} {x : Int32} {a1 a2 : Int} {A : Nat → Nat → Int} {τ : Nat → Int} (hx : o.1 = some (.inl x)) (h1 : lw_av as 1 = a1) (h2 : lw_av as 2 = a2) (hb : ∀ s, (sx_sr s).1 ≤ σ s ∧ σ s ≤ (sx_sr s).2) (hG : sx_GG σ' A) (hW : lw_W ([(18509, 1, 1099511627770), (18510, 0, 34359738367)], [((-1), [(12804, 1)]), (1, [(12804, (-1))]), ((-295), [(19001, 1)]), (497, [(19001, (-1))]), (0, [(19002, 1)]), (9, [(19002, (-1))]), (0, [(12804, 1)])], [(12800, (0, [])), (12804, (1, [(12804, 1)])), (18462, (0, [])), (18463, (0, [])), (18464, (0, [])), (18465, ((-1), [])), (18466, (0, [])), (18467, (0, [])), (18468, (0, [])), (18469, ((-1), [])), (18470, ((-1), [])), (18471, ((-1), [])), (18472, (0, [])), (18473, (0, [])), (18509, (0, [(1000000, 1)])), (18510, (0, [(1000001, 1)])), (18511, (0, [(19001, 1)])), (18512, (0, [])), (18513, (1, [])), (18517, (0, [(19001, 1)])), (18518, (1, [])), (18519, ((-1), [])), (18529, (0, [(19001, 1)]))], some (false, (0, [(12804, 1)]))) as σ σ' τ o) : lw_pm_C a1 a2 x.toInt σ σ' := by
  unfold lw_pm_C
  have bM : 0 ≤ σ 12804 ∧ σ 12804 ≤ 8 := by
    have h0 := hb 12804
    rw [show sx_sr 12804 = (0, 8) from by decide +kernel] at h0
    exact h0
  obtain ⟨-, -, -, -, -, -, -, -, -, -, -, -, -, -, -, -, -, -, -, g19, g20, -, g22, -, g24⟩ := hG
  obtain ⟨hs, ht, hf, hr, hm, hw⟩ := hW
  have e1 : τ 19001 = a1 := by rw [ht 19001 (by decide) (by decide)]; exact h1
  have e2 : τ 19002 = a2 := by rw [ht 19002 (by decide) (by decide)]; exact h2
  have s133 : τ 133 = σ 133 := hs 133 (by decide)
  have s134 : τ 134 = σ 134 := hs 134 (by decide)
  have s10250 : τ 10250 = σ 10250 := hs 10250 (by decide)
  have s12804 : τ 12804 = σ 12804 := hs 12804 (by decide)
  have s12805 : τ 12805 = σ 12805 := hs 12805 (by decide)
  have s12814 : τ 12814 = σ 12814 := hs 12814 (by decide)
  have s18520 : τ 18520 = σ 18520 := hs 18520 (by decide)
  have s18521 : τ 18521 = σ 18521 := hs 18521 (by decide)
  have s18522 : τ 18522 = σ 18522 := hs 18522 (by decide)
  have s18523 : τ 18523 = σ 18523 := hs 18523 (by decide)
  have s18524 : τ 18524 = σ 18524 := hs 18524 (by decide)
  have s18525 : τ 18525 = σ 18525 := hs 18525 (by decide)
  have s18526 : τ 18526 = σ 18526 := hs 18526 (by decide)
  have s18527 : τ 18527 = σ 18527 := hs 18527 (by decide)
  have s18528 : τ 18528 = σ 18528 := hs 18528 (by decide)
  have s18529 : τ 18529 = σ 18529 := hs 18529 (by decide)
  have s18530 : τ 18530 = σ 18530 := hs 18530 (by decide)
  have s18531 : τ 18531 = σ 18531 := hs 18531 (by decide)
  have s18532 : τ 18532 = σ 18532 := hs 18532 (by decide)
  have s18533 : τ 18533 = σ 18533 := hs 18533 (by decide)
  have s18534 : τ 18534 = σ 18534 := hs 18534 (by decide)
  have s18535 : τ 18535 = σ 18535 := hs 18535 (by decide)
  clear ht hb h1 h2
  rw [hx] at hr
  clear hx
  obtain ⟨y, hy, hv⟩ := hr
  cases hy
  replace hv : x.toInt = 0 + (1 * τ 12804 + 0) := hv
  have sm : σ' 133 = σ 133 ∧ σ' 134 = σ 134 ∧ σ' 12805 = σ 12805 ∧ σ' 10250 = σ 10250 ∧ σ' 12814 = σ 12814 ∧ σ' 18520 = σ 18520 ∧ σ' 18521 = σ 18521 ∧ σ' 18522 = σ 18522 ∧ σ' 18523 = σ 18523 ∧ σ' 18524 = σ 18524 ∧ σ' 18525 = σ 18525 ∧ σ' 18526 = σ 18526 ∧ σ' 18527 = σ 18527 := ⟨lw_id s133 (hm 133 (by decide)), lw_id s134 (hm 134 (by decide)), lw_id s12805 (hm 12805 (by decide)), lw_id s10250 (hm 10250 (by decide)), lw_id s12814 (hm 12814 (by decide)), lw_id s18520 (hm 18520 (by decide)), lw_id s18521 (hm 18521 (by decide)), lw_id s18522 (hm 18522 (by decide)), lw_id s18523 (hm 18523 (by decide)), lw_id s18524 (hm 18524 (by decide)), lw_id s18525 (hm 18525 (by decide)), lw_id s18526 (hm 18526 (by decide)), lw_id s18527 (hm 18527 (by decide))⟩
  refine ⟨?_, sm⟩
  clear sm
  have f0 : 0 ≤ (-1) + (1 * τ 12804 + 0) := hf _ (List.Mem.head _)
  have f1 : 0 ≤ 1 + ((-1) * τ 12804 + 0) := hf _ (List.Mem.tail _ (List.Mem.head _))
  have f2 : 0 ≤ (-295) + (1 * τ 19001 + 0) := hf _ (List.Mem.tail _ (List.Mem.tail _ (List.Mem.head _)))
  have f3 : 0 ≤ 497 + ((-1) * τ 19001 + 0) := hf _ (List.Mem.tail _ (List.Mem.tail _ (List.Mem.tail _ (List.Mem.head _))))
  have f4 : 0 ≤ 0 + (1 * τ 19002 + 0) := hf _ (List.Mem.tail _ (List.Mem.tail _ (List.Mem.tail _ (List.Mem.tail _ (List.Mem.head _)))))
  have f5 : 0 ≤ 9 + ((-1) * τ 19002 + 0) := hf _ (List.Mem.tail _ (List.Mem.tail _ (List.Mem.tail _ (List.Mem.tail _ (List.Mem.tail _ (List.Mem.head _))))))
  have f6 : 0 ≤ 0 + (1 * τ 12804 + 0) := hf _ (List.Mem.tail _ (List.Mem.tail _ (List.Mem.tail _ (List.Mem.tail _ (List.Mem.tail _ (List.Mem.tail _ (List.Mem.head _)))))))
  have m18511 : σ' 18511 = 0 + (1 * τ 19001 + 0) := hm 18511 (by decide)
  have m18512 : σ' 18512 = 0 + 0 := hm 18512 (by decide)
  have m18513 : σ' 18513 = 1 + 0 := hm 18513 (by decide)
  have hok : lw_OK a1 a2 := by
    refine ⟨?_, by omega, by omega, ⟨by omega, by omega, by omega, by omega, by omega, by omega, by omega, by omega⟩, by omega, by omega⟩
    have h0 := g20.1 (by omega)
    rw [show σ' 18511 = a1 by omega, show σ' 18512 = 0 by omega] at h0
    exact h0.mpr sx_gdn_0
  have m18517 : σ' 18517 = 0 + (1 * τ 19001 + 0) := hm 18517 (by decide)
  have m18518 : σ' 18518 = 1 + 0 := hm 18518 (by decide)
  have m12804 : σ' 12804 = 1 + (1 * τ 12804 + 0) := hm 12804 (by decide)
  obtain ⟨n0, n1, n2, n3, n4, n5, n6, n7⟩ := g24
  have q18528 := lw_id s18528 (hm 18528 (by decide))
  have m18529 : σ' 18529 = 0 + (1 * τ 19001 + 0) := hm 18529 (by decide)
  have q18530 := lw_id s18530 (hm 18530 (by decide))
  have q18531 := lw_id s18531 (hm 18531 (by decide))
  have q18532 := lw_id s18532 (hm 18532 (by decide))
  have q18533 := lw_id s18533 (hm 18533 (by decide))
  have q18534 := lw_id s18534 (hm 18534 (by decide))
  have q18535 := lw_id s18535 (hm 18535 (by decide))
  have hj : σ 12804 = 1 := by omega
  exact Or.inr (Or.inr (Or.inr ⟨by omega, by omega, hok, by omega, by omega, ⟨fun _ => (by have := g22.1 0 (by omega); omega), fun h => absurd h (by omega), fun h => absurd h (by omega), fun h => absurd h (by omega), fun h => absurd h (by omega), fun h => absurd h (by omega), fun h => absurd h (by omega), fun h => absurd h (by omega)⟩, ⟨Or.inr ⟨by omega, q18528⟩, Or.inl ⟨hj, by omega⟩, Or.inr ⟨by omega, q18530⟩, Or.inr ⟨by omega, q18531⟩, Or.inr ⟨by omega, q18532⟩, Or.inr ⟨by omega, q18533⟩, Or.inr ⟨by omega, q18534⟩, Or.inr ⟨by omega, q18535⟩⟩⟩))
theorem lw_pm_16 {as : List rv_A} {σ σ' : Nat → Int} {o : rv_O} {x : Int32} {a1 a2 : Int} {A : Nat → Nat → Int} {τ : Nat → Int} (hx : o.1 = some (.inl x)) (h1 : lw_av as 1 = a1) (h2 : lw_av as 2 = a2) (hb : ∀ s, (sx_sr s).1 ≤ σ s ∧ σ s ≤ (sx_sr s).2) (hG : sx_GG σ' A) (hW : lw_W ([(18509, 1, 1099511627770), (18510, 0, 34359738367)], [((-1), [(12804, 1)]), (1, [(12804, (-1))]), ((-499), [(19001, 1)]), (1155, [(19001, (-1))]), (0, [(19002, 1)]), (9, [(19002, (-1))]), (0, [(12804, 1)])], [(12800, (0, [])), (12804, (1, [(12804, 1)])), (18462, (0, [])), (18463, (0, [])), (18464, (0, [])), (18465, ((-1), [])), (18466, (0, [])), (18467, (0, [])), (18468, (0, [])), (18469, ((-1), [])), (18470, ((-1), [])), (18471, ((-1), [])), (18472, (0, [])), (18473, (0, [])), (18509, (0, [(1000000, 1)])), (18510, (0, [(1000001, 1)])), (18511, (0, [(19001, 1)])), (18512, (0, [])), (18513, (1, [])), (18517, (0, [(19001, 1)])), (18518, (1, [])), (18519, ((-1), [])), (18529, (0, [(19001, 1)]))], some (false, (0, [(12804, 1)]))) as σ σ' τ o) : lw_pm_C a1 a2 x.toInt σ σ' := by
  unfold lw_pm_C
  have bM : 0 ≤ σ 12804 ∧ σ 12804 ≤ 8 := by
    have h0 := hb 12804
    rw [show sx_sr 12804 = (0, 8) from by decide +kernel] at h0
    exact h0
  obtain ⟨-, -, -, -, -, -, -, -, -, -, -, -, -, -, -, -, -, -, -, g19, g20, -, g22, -, g24⟩ := hG
  obtain ⟨hs, ht, hf, hr, hm, hw⟩ := hW
  have e1 : τ 19001 = a1 := by rw [ht 19001 (by decide) (by decide)]; exact h1
  have e2 : τ 19002 = a2 := by rw [ht 19002 (by decide) (by decide)]; exact h2
  have s133 : τ 133 = σ 133 := hs 133 (by decide)
  have s134 : τ 134 = σ 134 := hs 134 (by decide)
  have s10250 : τ 10250 = σ 10250 := hs 10250 (by decide)
  have s12804 : τ 12804 = σ 12804 := hs 12804 (by decide)
  have s12805 : τ 12805 = σ 12805 := hs 12805 (by decide)
  have s12814 : τ 12814 = σ 12814 := hs 12814 (by decide)
  have s18520 : τ 18520 = σ 18520 := hs 18520 (by decide)
  have s18521 : τ 18521 = σ 18521 := hs 18521 (by decide)
  have s18522 : τ 18522 = σ 18522 := hs 18522 (by decide)
  have s18523 : τ 18523 = σ 18523 := hs 18523 (by decide)
  have s18524 : τ 18524 = σ 18524 := hs 18524 (by decide)
  have s18525 : τ 18525 = σ 18525 := hs 18525 (by decide)
  have s18526 : τ 18526 = σ 18526 := hs 18526 (by decide)
  have s18527 : τ 18527 = σ 18527 := hs 18527 (by decide)
  have s18528 : τ 18528 = σ 18528 := hs 18528 (by decide)
  have s18529 : τ 18529 = σ 18529 := hs 18529 (by decide)
  have s18530 : τ 18530 = σ 18530 := hs 18530 (by decide)
  have s18531 : τ 18531 = σ 18531 := hs 18531 (by decide)
  have s18532 : τ 18532 = σ 18532 := hs 18532 (by decide)
  have s18533 : τ 18533 = σ 18533 := hs 18533 (by decide)
  have s18534 : τ 18534 = σ 18534 := hs 18534 (by decide)
  have s18535 : τ 18535 = σ 18535 := hs 18535 (by decide)
  clear ht hb h1 h2
  rw [hx] at hr
  clear hx
  obtain ⟨y, hy, hv⟩ := hr
  cases hy
  replace hv : x.toInt = 0 + (1 * τ 12804 + 0) := hv
  have sm : σ' 133 = σ 133 ∧ σ' 134 = σ 134 ∧ σ' 12805 = σ 12805 ∧ σ' 10250 = σ 10250 ∧ σ' 12814 = σ 12814 ∧ σ' 18520 = σ 18520 ∧ σ' 18521 = σ 18521 ∧ σ' 18522 = σ 18522 ∧ σ' 18523 = σ 18523 ∧ σ' 18524 = σ 18524 ∧ σ' 18525 = σ 18525 ∧ σ' 18526 = σ 18526 ∧ σ' 18527 = σ 18527 := ⟨lw_id s133 (hm 133 (by decide)), lw_id s134 (hm 134 (by decide)), lw_id s12805 (hm 12805 (by decide)), lw_id s10250 (hm 10250 (by decide)), lw_id s12814 (hm 12814 (by decide)), lw_id s18520 (hm 18520 (by decide)), lw_id s18521 (hm 18521 (by decide)), lw_id s18522 (hm 18522 (by decide)), lw_id s18523 (hm 18523 (by decide)), lw_id s18524 (hm 18524 (by decide)), lw_id s18525 (hm 18525 (by decide)), lw_id s18526 (hm 18526 (by decide)), lw_id s18527 (hm 18527 (by decide))⟩
  refine ⟨?_, sm⟩
  clear sm
  have f0 : 0 ≤ (-1) + (1 * τ 12804 + 0) := hf _ (List.Mem.head _)
  have f1 : 0 ≤ 1 + ((-1) * τ 12804 + 0) := hf _ (List.Mem.tail _ (List.Mem.head _))
  have f2 : 0 ≤ (-499) + (1 * τ 19001 + 0) := hf _ (List.Mem.tail _ (List.Mem.tail _ (List.Mem.head _)))
  have f3 : 0 ≤ 1155 + ((-1) * τ 19001 + 0) := hf _ (List.Mem.tail _ (List.Mem.tail _ (List.Mem.tail _ (List.Mem.head _))))
  have f4 : 0 ≤ 0 + (1 * τ 19002 + 0) := hf _ (List.Mem.tail _ (List.Mem.tail _ (List.Mem.tail _ (List.Mem.tail _ (List.Mem.head _)))))
  have f5 : 0 ≤ 9 + ((-1) * τ 19002 + 0) := hf _ (List.Mem.tail _ (List.Mem.tail _ (List.Mem.tail _ (List.Mem.tail _ (List.Mem.tail _ (List.Mem.head _))))))
  have f6 : 0 ≤ 0 + (1 * τ 12804 + 0) := hf _ (List.Mem.tail _ (List.Mem.tail _ (List.Mem.tail _ (List.Mem.tail _ (List.Mem.tail _ (List.Mem.tail _ (List.Mem.head _)))))))
  have m18511 : σ' 18511 = 0 + (1 * τ 19001 + 0) := hm 18511 (by decide)
  have m18512 : σ' 18512 = 0 + 0 := hm 18512 (by decide)
  have m18513 : σ' 18513 = 1 + 0 := hm 18513 (by decide)
  have hok : lw_OK a1 a2 := by
    refine ⟨?_, by omega, by omega, ⟨by omega, by omega, by omega, by omega, by omega, by omega, by omega, by omega⟩, by omega, by omega⟩
    have h0 := g20.1 (by omega)
    rw [show σ' 18511 = a1 by omega, show σ' 18512 = 0 by omega] at h0
    exact h0.mpr sx_gdn_0
  have m18517 : σ' 18517 = 0 + (1 * τ 19001 + 0) := hm 18517 (by decide)
  have m18518 : σ' 18518 = 1 + 0 := hm 18518 (by decide)
  have m12804 : σ' 12804 = 1 + (1 * τ 12804 + 0) := hm 12804 (by decide)
  obtain ⟨n0, n1, n2, n3, n4, n5, n6, n7⟩ := g24
  have q18528 := lw_id s18528 (hm 18528 (by decide))
  have m18529 : σ' 18529 = 0 + (1 * τ 19001 + 0) := hm 18529 (by decide)
  have q18530 := lw_id s18530 (hm 18530 (by decide))
  have q18531 := lw_id s18531 (hm 18531 (by decide))
  have q18532 := lw_id s18532 (hm 18532 (by decide))
  have q18533 := lw_id s18533 (hm 18533 (by decide))
  have q18534 := lw_id s18534 (hm 18534 (by decide))
  have q18535 := lw_id s18535 (hm 18535 (by decide))
  have hj : σ 12804 = 1 := by omega
  exact Or.inr (Or.inr (Or.inr ⟨by omega, by omega, hok, by omega, by omega, ⟨fun _ => (by have := g22.1 0 (by omega); omega), fun h => absurd h (by omega), fun h => absurd h (by omega), fun h => absurd h (by omega), fun h => absurd h (by omega), fun h => absurd h (by omega), fun h => absurd h (by omega), fun h => absurd h (by omega)⟩, ⟨Or.inr ⟨by omega, q18528⟩, Or.inl ⟨hj, by omega⟩, Or.inr ⟨by omega, q18530⟩, Or.inr ⟨by omega, q18531⟩, Or.inr ⟨by omega, q18532⟩, Or.inr ⟨by omega, q18533⟩, Or.inr ⟨by omega, q18534⟩, Or.inr ⟨by omega, q18535⟩⟩⟩))
theorem lw_pm_17 {as : List rv_A} {σ σ' : Nat → Int} {o : rv_O} {x : Int32} {a1 a2 : Int} {A : Nat → Nat → Int} {τ : Nat → Int} (hx : o.1 = some (.inl x)) (h1 : lw_av as 1 = a1) (h2 : lw_av as 2 = a2) (hb : ∀ s, (sx_sr s).1 ≤ σ s ∧ σ s ≤ (sx_sr s).2) (hG : sx_GG σ' A) (hW : lw_W ([(18509, 1, 1099511627770), (18510, 0, 34359738367)], [((-1), [(12804, 1)]), (1, [(12804, (-1))]), ((-632646), [(19001, 1)]), (1099511627770, [(19001, (-1))]), (0, [(19002, 1)]), (9, [(19002, (-1))]), (0, [(12804, 1)])], [(12800, (0, [])), (12804, (1, [(12804, 1)])), (18462, (0, [])), (18463, (0, [])), (18464, (0, [])), (18465, ((-1), [])), (18466, (0, [])), (18467, (0, [])), (18468, (0, [])), (18469, ((-1), [])), (18470, ((-1), [])), (18471, ((-1), [])), (18472, (0, [])), (18473, (0, [])), (18509, (0, [(1000000, 1)])), (18510, (0, [(1000001, 1)])), (18511, (0, [(19001, 1)])), (18512, (0, [])), (18513, (1, [])), (18517, (0, [(19001, 1)])), (18518, (1, [])), (18519, ((-1), [])), (18529, (0, [(19001, 1)]))], some (false, (0, [(12804, 1)]))) as σ σ' τ o) : lw_pm_C a1 a2 x.toInt σ σ' := by
  unfold lw_pm_C
  have bM : 0 ≤ σ 12804 ∧ σ 12804 ≤ 8 := by
    have h0 := hb 12804
    rw [show sx_sr 12804 = (0, 8) from by decide +kernel] at h0
    exact h0
  obtain ⟨-, -, -, -, -, -, -, -, -, -, -, -, -, -, -, -, -, -, -, g19, g20, -, g22, -, g24⟩ := hG
  obtain ⟨hs, ht, hf, hr, hm, hw⟩ := hW
  have e1 : τ 19001 = a1 := by rw [ht 19001 (by decide) (by decide)]; exact h1
  have e2 : τ 19002 = a2 := by rw [ht 19002 (by decide) (by decide)]; exact h2
  have s133 : τ 133 = σ 133 := hs 133 (by decide)
  have s134 : τ 134 = σ 134 := hs 134 (by decide)
  have s10250 : τ 10250 = σ 10250 := hs 10250 (by decide)
  have s12804 : τ 12804 = σ 12804 := hs 12804 (by decide)
  have s12805 : τ 12805 = σ 12805 := hs 12805 (by decide)
  have s12814 : τ 12814 = σ 12814 := hs 12814 (by decide)
  have s18520 : τ 18520 = σ 18520 := hs 18520 (by decide)
  have s18521 : τ 18521 = σ 18521 := hs 18521 (by decide)
  have s18522 : τ 18522 = σ 18522 := hs 18522 (by decide)
  have s18523 : τ 18523 = σ 18523 := hs 18523 (by decide)
  have s18524 : τ 18524 = σ 18524 := hs 18524 (by decide)
  have s18525 : τ 18525 = σ 18525 := hs 18525 (by decide)
  have s18526 : τ 18526 = σ 18526 := hs 18526 (by decide)
  have s18527 : τ 18527 = σ 18527 := hs 18527 (by decide)
  have s18528 : τ 18528 = σ 18528 := hs 18528 (by decide)
  have s18529 : τ 18529 = σ 18529 := hs 18529 (by decide)
  have s18530 : τ 18530 = σ 18530 := hs 18530 (by decide)
  have s18531 : τ 18531 = σ 18531 := hs 18531 (by decide)
  have s18532 : τ 18532 = σ 18532 := hs 18532 (by decide)
  have s18533 : τ 18533 = σ 18533 := hs 18533 (by decide)
  have s18534 : τ 18534 = σ 18534 := hs 18534 (by decide)
  have s18535 : τ 18535 = σ 18535 := hs 18535 (by decide)
  clear ht hb h1 h2
  rw [hx] at hr
  clear hx
  obtain ⟨y, hy, hv⟩ := hr
  cases hy
  replace hv : x.toInt = 0 + (1 * τ 12804 + 0) := hv
  have sm : σ' 133 = σ 133 ∧ σ' 134 = σ 134 ∧ σ' 12805 = σ 12805 ∧ σ' 10250 = σ 10250 ∧ σ' 12814 = σ 12814 ∧ σ' 18520 = σ 18520 ∧ σ' 18521 = σ 18521 ∧ σ' 18522 = σ 18522 ∧ σ' 18523 = σ 18523 ∧ σ' 18524 = σ 18524 ∧ σ' 18525 = σ 18525 ∧ σ' 18526 = σ 18526 ∧ σ' 18527 = σ 18527 := ⟨lw_id s133 (hm 133 (by decide)), lw_id s134 (hm 134 (by decide)), lw_id s12805 (hm 12805 (by decide)), lw_id s10250 (hm 10250 (by decide)), lw_id s12814 (hm 12814 (by decide)), lw_id s18520 (hm 18520 (by decide)), lw_id s18521 (hm 18521 (by decide)), lw_id s18522 (hm 18522 (by decide)), lw_id s18523 (hm 18523 (by decide)), lw_id s18524 (hm 18524 (by decide)), lw_id s18525 (hm 18525 (by decide)), lw_id s18526 (hm 18526 (by decide)), lw_id s18527 (hm 18527 (by decide))⟩
  refine ⟨?_, sm⟩
  clear sm
  have f0 : 0 ≤ (-1) + (1 * τ 12804 + 0) := hf _ (List.Mem.head _)
  have f1 : 0 ≤ 1 + ((-1) * τ 12804 + 0) := hf _ (List.Mem.tail _ (List.Mem.head _))
  have f2 : 0 ≤ (-632646) + (1 * τ 19001 + 0) := hf _ (List.Mem.tail _ (List.Mem.tail _ (List.Mem.head _)))
  have f3 : 0 ≤ 1099511627770 + ((-1) * τ 19001 + 0) := hf _ (List.Mem.tail _ (List.Mem.tail _ (List.Mem.tail _ (List.Mem.head _))))
  have f4 : 0 ≤ 0 + (1 * τ 19002 + 0) := hf _ (List.Mem.tail _ (List.Mem.tail _ (List.Mem.tail _ (List.Mem.tail _ (List.Mem.head _)))))
  have f5 : 0 ≤ 9 + ((-1) * τ 19002 + 0) := hf _ (List.Mem.tail _ (List.Mem.tail _ (List.Mem.tail _ (List.Mem.tail _ (List.Mem.tail _ (List.Mem.head _))))))
  have f6 : 0 ≤ 0 + (1 * τ 12804 + 0) := hf _ (List.Mem.tail _ (List.Mem.tail _ (List.Mem.tail _ (List.Mem.tail _ (List.Mem.tail _ (List.Mem.tail _ (List.Mem.head _)))))))
  have m18511 : σ' 18511 = 0 + (1 * τ 19001 + 0) := hm 18511 (by decide)
  have m18512 : σ' 18512 = 0 + 0 := hm 18512 (by decide)
  have m18513 : σ' 18513 = 1 + 0 := hm 18513 (by decide)
  have hok : lw_OK a1 a2 := by
    refine ⟨?_, by omega, by omega, ⟨by omega, by omega, by omega, by omega, by omega, by omega, by omega, by omega⟩, by omega, by omega⟩
    have h0 := g20.1 (by omega)
    rw [show σ' 18511 = a1 by omega, show σ' 18512 = 0 by omega] at h0
    exact h0.mpr sx_gdn_0
  have m18517 : σ' 18517 = 0 + (1 * τ 19001 + 0) := hm 18517 (by decide)
  have m18518 : σ' 18518 = 1 + 0 := hm 18518 (by decide)
  have m12804 : σ' 12804 = 1 + (1 * τ 12804 + 0) := hm 12804 (by decide)
  obtain ⟨n0, n1, n2, n3, n4, n5, n6, n7⟩ := g24
  have q18528 := lw_id s18528 (hm 18528 (by decide))
  have m18529 : σ' 18529 = 0 + (1 * τ 19001 + 0) := hm 18529 (by decide)
  have q18530 := lw_id s18530 (hm 18530 (by decide))
  have q18531 := lw_id s18531 (hm 18531 (by decide))
  have q18532 := lw_id s18532 (hm 18532 (by decide))
  have q18533 := lw_id s18533 (hm 18533 (by decide))
  have q18534 := lw_id s18534 (hm 18534 (by decide))
  have q18535 := lw_id s18535 (hm 18535 (by decide))
  have hj : σ 12804 = 1 := by omega
  exact Or.inr (Or.inr (Or.inr ⟨by omega, by omega, hok, by omega, by omega, ⟨fun _ => (by have := g22.1 0 (by omega); omega), fun h => absurd h (by omega), fun h => absurd h (by omega), fun h => absurd h (by omega), fun h => absurd h (by omega), fun h => absurd h (by omega), fun h => absurd h (by omega), fun h => absurd h (by omega)⟩, ⟨Or.inr ⟨by omega, q18528⟩, Or.inl ⟨hj, by omega⟩, Or.inr ⟨by omega, q18530⟩, Or.inr ⟨by omega, q18531⟩, Or.inr ⟨by omega, q18532⟩, Or.inr ⟨by omega, q18533⟩, Or.inr ⟨by omega, q18534⟩, Or.inr ⟨by omega, q18535⟩⟩⟩))
theorem lw_pm_18 {as : List rv_A} {σ σ' : Nat → Int} {o : rv_O} {x : Int32} {a1 a2 : Int} {A : Nat → Nat → Int} {τ : Nat → Int} (hx : o.1 = some (.inl x)) (h1 : lw_av as 1 = a1) (h2 : lw_av as 2 = a2) (hb : ∀ s, (sx_sr s).1 ≤ σ s ∧ σ s ≤ (sx_sr s).2) (hG : sx_GG σ' A) (hW : lw_W ([(18509, 1, 1099511627770), (18510, 0, 34359738367)], [((-2), [(12804, 1)]), (2, [(12804, (-1))]), ((-1), [(19001, 1)]), (293, [(19001, (-1))]), (0, [(19002, 1)]), (9, [(19002, (-1))]), (0, [(12804, 1)])], [(12800, (0, [])), (12804, (1, [(12804, 1)])), (18462, (0, [])), (18463, (0, [])), (18464, (0, [])), (18465, ((-1), [])), (18466, (0, [])), (18467, (0, [])), (18468, (0, [])), (18469, ((-1), [])), (18470, ((-1), [])), (18471, ((-1), [])), (18472, (0, [])), (18473, (0, [])), (18509, (0, [(1000000, 1)])), (18510, (0, [(1000001, 1)])), (18511, (0, [(19001, 1)])), (18512, (0, [])), (18513, (1, [])), (18517, (0, [(19001, 1)])), (18518, (2, [])), (18519, ((-1), [])), (18530, (0, [(19001, 1)]))], some (false, (0, [(12804, 1)]))) as σ σ' τ o) : lw_pm_C a1 a2 x.toInt σ σ' := by
  unfold lw_pm_C
  have bM : 0 ≤ σ 12804 ∧ σ 12804 ≤ 8 := by
    have h0 := hb 12804
    rw [show sx_sr 12804 = (0, 8) from by decide +kernel] at h0
    exact h0
  obtain ⟨-, -, -, -, -, -, -, -, -, -, -, -, -, -, -, -, -, -, -, g19, g20, -, g22, -, g24⟩ := hG
  obtain ⟨hs, ht, hf, hr, hm, hw⟩ := hW
  have e1 : τ 19001 = a1 := by rw [ht 19001 (by decide) (by decide)]; exact h1
  have e2 : τ 19002 = a2 := by rw [ht 19002 (by decide) (by decide)]; exact h2
  have s133 : τ 133 = σ 133 := hs 133 (by decide)
  have s134 : τ 134 = σ 134 := hs 134 (by decide)
  have s10250 : τ 10250 = σ 10250 := hs 10250 (by decide)
  have s12804 : τ 12804 = σ 12804 := hs 12804 (by decide)
  have s12805 : τ 12805 = σ 12805 := hs 12805 (by decide)
  have s12814 : τ 12814 = σ 12814 := hs 12814 (by decide)
  have s18520 : τ 18520 = σ 18520 := hs 18520 (by decide)
  have s18521 : τ 18521 = σ 18521 := hs 18521 (by decide)
  have s18522 : τ 18522 = σ 18522 := hs 18522 (by decide)
  have s18523 : τ 18523 = σ 18523 := hs 18523 (by decide)
  have s18524 : τ 18524 = σ 18524 := hs 18524 (by decide)
  have s18525 : τ 18525 = σ 18525 := hs 18525 (by decide)
  have s18526 : τ 18526 = σ 18526 := hs 18526 (by decide)
  have s18527 : τ 18527 = σ 18527 := hs 18527 (by decide)
  have s18528 : τ 18528 = σ 18528 := hs 18528 (by decide)
  have s18529 : τ 18529 = σ 18529 := hs 18529 (by decide)
  have s18530 : τ 18530 = σ 18530 := hs 18530 (by decide)
  have s18531 : τ 18531 = σ 18531 := hs 18531 (by decide)
  have s18532 : τ 18532 = σ 18532 := hs 18532 (by decide)
  have s18533 : τ 18533 = σ 18533 := hs 18533 (by decide)
  have s18534 : τ 18534 = σ 18534 := hs 18534 (by decide)
  have s18535 : τ 18535 = σ 18535 := hs 18535 (by decide)
  clear ht hb h1 h2
  rw [hx] at hr
  clear hx
  obtain ⟨y, hy, hv⟩ := hr
  cases hy
  replace hv : x.toInt = 0 + (1 * τ 12804 + 0) := hv
  have sm : σ' 133 = σ 133 ∧ σ' 134 = σ 134 ∧ σ' 12805 = σ 12805 ∧ σ' 10250 = σ 10250 ∧ σ' 12814 = σ 12814 ∧ σ' 18520 = σ 18520 ∧ σ' 18521 = σ 18521 ∧ σ' 18522 = σ 18522 ∧ σ' 18523 = σ 18523 ∧ σ' 18524 = σ 18524 ∧ σ' 18525 = σ 18525 ∧ σ' 18526 = σ 18526 ∧ σ' 18527 = σ 18527 := ⟨lw_id s133 (hm 133 (by decide)), lw_id s134 (hm 134 (by decide)), lw_id s12805 (hm 12805 (by decide)), lw_id s10250 (hm 10250 (by decide)), lw_id s12814 (hm 12814 (by decide)), lw_id s18520 (hm 18520 (by decide)), lw_id s18521 (hm 18521 (by decide)), lw_id s18522 (hm 18522 (by decide)), lw_id s18523 (hm 18523 (by decide)), lw_id s18524 (hm 18524 (by decide)), lw_id s18525 (hm 18525 (by decide)), lw_id s18526 (hm 18526 (by decide)), lw_id s18527 (hm 18527 (by decide))⟩
  refine ⟨?_, sm⟩
  clear sm
  have f0 : 0 ≤ (-2) + (1 * τ 12804 + 0) := hf _ (List.Mem.head _)
  have f1 : 0 ≤ 2 + ((-1) * τ 12804 + 0) := hf _ (List.Mem.tail _ (List.Mem.head _))
  have f2 : 0 ≤ (-1) + (1 * τ 19001 + 0) := hf _ (List.Mem.tail _ (List.Mem.tail _ (List.Mem.head _)))
  have f3 : 0 ≤ 293 + ((-1) * τ 19001 + 0) := hf _ (List.Mem.tail _ (List.Mem.tail _ (List.Mem.tail _ (List.Mem.head _))))
  have f4 : 0 ≤ 0 + (1 * τ 19002 + 0) := hf _ (List.Mem.tail _ (List.Mem.tail _ (List.Mem.tail _ (List.Mem.tail _ (List.Mem.head _)))))
  have f5 : 0 ≤ 9 + ((-1) * τ 19002 + 0) := hf _ (List.Mem.tail _ (List.Mem.tail _ (List.Mem.tail _ (List.Mem.tail _ (List.Mem.tail _ (List.Mem.head _))))))
  have f6 : 0 ≤ 0 + (1 * τ 12804 + 0) := hf _ (List.Mem.tail _ (List.Mem.tail _ (List.Mem.tail _ (List.Mem.tail _ (List.Mem.tail _ (List.Mem.tail _ (List.Mem.head _)))))))
  have m18511 : σ' 18511 = 0 + (1 * τ 19001 + 0) := hm 18511 (by decide)
  have m18512 : σ' 18512 = 0 + 0 := hm 18512 (by decide)
  have m18513 : σ' 18513 = 1 + 0 := hm 18513 (by decide)
  have hok : lw_OK a1 a2 := by
    refine ⟨?_, by omega, by omega, ⟨by omega, by omega, by omega, by omega, by omega, by omega, by omega, by omega⟩, by omega, by omega⟩
    have h0 := g20.1 (by omega)
    rw [show σ' 18511 = a1 by omega, show σ' 18512 = 0 by omega] at h0
    exact h0.mpr sx_gdn_0
  have m18517 : σ' 18517 = 0 + (1 * τ 19001 + 0) := hm 18517 (by decide)
  have m18518 : σ' 18518 = 2 + 0 := hm 18518 (by decide)
  have m12804 : σ' 12804 = 1 + (1 * τ 12804 + 0) := hm 12804 (by decide)
  obtain ⟨n0, n1, n2, n3, n4, n5, n6, n7⟩ := g24
  have q18528 := lw_id s18528 (hm 18528 (by decide))
  have q18529 := lw_id s18529 (hm 18529 (by decide))
  have m18530 : σ' 18530 = 0 + (1 * τ 19001 + 0) := hm 18530 (by decide)
  have q18531 := lw_id s18531 (hm 18531 (by decide))
  have q18532 := lw_id s18532 (hm 18532 (by decide))
  have q18533 := lw_id s18533 (hm 18533 (by decide))
  have q18534 := lw_id s18534 (hm 18534 (by decide))
  have q18535 := lw_id s18535 (hm 18535 (by decide))
  have hj : σ 12804 = 2 := by omega
  exact Or.inr (Or.inr (Or.inr ⟨by omega, by omega, hok, by omega, by omega, ⟨fun _ => (by have := g22.1 0 (by omega); omega), fun _ => (by have := g22.1 1 (by omega); omega), fun h => absurd h (by omega), fun h => absurd h (by omega), fun h => absurd h (by omega), fun h => absurd h (by omega), fun h => absurd h (by omega), fun h => absurd h (by omega)⟩, ⟨Or.inr ⟨by omega, q18528⟩, Or.inr ⟨by omega, q18529⟩, Or.inl ⟨hj, by omega⟩, Or.inr ⟨by omega, q18531⟩, Or.inr ⟨by omega, q18532⟩, Or.inr ⟨by omega, q18533⟩, Or.inr ⟨by omega, q18534⟩, Or.inr ⟨by omega, q18535⟩⟩⟩))
theorem lw_pm_19 {as : List rv_A} {σ σ' : Nat → Int} {o : rv_O} {x : Int32} {a1 a2 : Int} {A : Nat → Nat → Int} {τ : Nat → Int} (hx : o.1 = some (.inl x)) (h1 : lw_av as 1 = a1) (h2 : lw_av as 2 = a2) (hb : ∀ s, (sx_sr s).1 ≤ σ s ∧ σ s ≤ (sx_sr s).2) (hG : sx_GG σ' A) (hW : lw_W ([(18509, 1, 1099511627770), (18510, 0, 34359738367)], [((-2), [(12804, 1)]), (2, [(12804, (-1))]), ((-11567), [(19001, 1)]), (14835, [(19001, (-1))]), (0, [(19002, 1)]), (9, [(19002, (-1))]), (0, [(12804, 1)])], [(12800, (0, [])), (12804, (1, [(12804, 1)])), (18462, (0, [])), (18463, (0, [])), (18464, (0, [])), (18465, ((-1), [])), (18466, (0, [])), (18467, (0, [])), (18468, (0, [])), (18469, ((-1), [])), (18470, ((-1), [])), (18471, ((-1), [])), (18472, (0, [])), (18473, (0, [])), (18509, (0, [(1000000, 1)])), (18510, (0, [(1000001, 1)])), (18511, (0, [(19001, 1)])), (18512, (0, [])), (18513, (1, [])), (18517, (0, [(19001, 1)])), (18518, (2, [])), (18519, ((-1), [])), (18530, (0, [(19001, 1)]))], some (false, (0, [(12804, 1)]))) as σ σ' τ o) : lw_pm_C a1 a2 x.toInt σ σ' := by
  unfold lw_pm_C
  have bM : 0 ≤ σ 12804 ∧ σ 12804 ≤ 8 := by
    have h0 := hb 12804
    rw [show sx_sr 12804 = (0, 8) from by decide +kernel] at h0
    exact h0
  obtain ⟨-, -, -, -, -, -, -, -, -, -, -, -, -, -, -, -, -, -, -, g19, g20, -, g22, -, g24⟩ := hG
  obtain ⟨hs, ht, hf, hr, hm, hw⟩ := hW
  have e1 : τ 19001 = a1 := by rw [ht 19001 (by decide) (by decide)]; exact h1
  have e2 : τ 19002 = a2 := by rw [ht 19002 (by decide) (by decide)]; exact h2
  have s133 : τ 133 = σ 133 := hs 133 (by decide)
  have s134 : τ 134 = σ 134 := hs 134 (by decide)
  have s10250 : τ 10250 = σ 10250 := hs 10250 (by decide)
  have s12804 : τ 12804 = σ 12804 := hs 12804 (by decide)
  have s12805 : τ 12805 = σ 12805 := hs 12805 (by decide)
  have s12814 : τ 12814 = σ 12814 := hs 12814 (by decide)
  have s18520 : τ 18520 = σ 18520 := hs 18520 (by decide)
  have s18521 : τ 18521 = σ 18521 := hs 18521 (by decide)
  have s18522 : τ 18522 = σ 18522 := hs 18522 (by decide)
  have s18523 : τ 18523 = σ 18523 := hs 18523 (by decide)
  have s18524 : τ 18524 = σ 18524 := hs 18524 (by decide)
  have s18525 : τ 18525 = σ 18525 := hs 18525 (by decide)
  have s18526 : τ 18526 = σ 18526 := hs 18526 (by decide)
  have s18527 : τ 18527 = σ 18527 := hs 18527 (by decide)
  have s18528 : τ 18528 = σ 18528 := hs 18528 (by decide)
  have s18529 : τ 18529 = σ 18529 := hs 18529 (by decide)
  have s18530 : τ 18530 = σ 18530 := hs 18530 (by decide)
  have s18531 : τ 18531 = σ 18531 := hs 18531 (by decide)
  have s18532 : τ 18532 = σ 18532 := hs 18532 (by decide)
  have s18533 : τ 18533 = σ 18533 := hs 18533 (by decide)
  have s18534 : τ 18534 = σ 18534 := hs 18534 (by decide)
  have s18535 : τ 18535 = σ 18535 := hs 18535 (by decide)
  clear ht hb h1 h2
  rw [hx] at hr
  clear hx
  obtain ⟨y, hy, hv⟩ := hr
  cases hy
  replace hv : x.toInt = 0 + (1 * τ 12804 + 0) := hv
  have sm : σ' 133 = σ 133 ∧ σ' 134 = σ 134 ∧ σ' 12805 = σ 12805 ∧ σ' 10250 = σ 10250 ∧ σ' 12814 = σ 12814 ∧ σ' 18520 = σ 18520 ∧ σ' 18521 = σ 18521 ∧ σ' 18522 = σ 18522 ∧ σ' 18523 = σ 18523 ∧ σ' 18524 = σ 18524 ∧ σ' 18525 = σ 18525 ∧ σ' 18526 = σ 18526 ∧ σ' 18527 = σ 18527 := ⟨lw_id s133 (hm 133 (by decide)), lw_id s134 (hm 134 (by decide)), lw_id s12805 (hm 12805 (by decide)), lw_id s10250 (hm 10250 (by decide)), lw_id s12814 (hm 12814 (by decide)), lw_id s18520 (hm 18520 (by decide)), lw_id s18521 (hm 18521 (by decide)), lw_id s18522 (hm 18522 (by decide)), lw_id s18523 (hm 18523 (by decide)), lw_id s18524 (hm 18524 (by decide)), lw_id s18525 (hm 18525 (by decide)), lw_id s18526 (hm 18526 (by decide)), lw_id s18527 (hm 18527 (by decide))⟩
  refine ⟨?_, sm⟩
  clear sm
  have f0 : 0 ≤ (-2) + (1 * τ 12804 + 0) := hf _ (List.Mem.head _)
  have f1 : 0 ≤ 2 + ((-1) * τ 12804 + 0) := hf _ (List.Mem.tail _ (List.Mem.head _))
  have f2 : 0 ≤ (-11567) + (1 * τ 19001 + 0) := hf _ (List.Mem.tail _ (List.Mem.tail _ (List.Mem.head _)))
  have f3 : 0 ≤ 14835 + ((-1) * τ 19001 + 0) := hf _ (List.Mem.tail _ (List.Mem.tail _ (List.Mem.tail _ (List.Mem.head _))))
  have f4 : 0 ≤ 0 + (1 * τ 19002 + 0) := hf _ (List.Mem.tail _ (List.Mem.tail _ (List.Mem.tail _ (List.Mem.tail _ (List.Mem.head _)))))
  have f5 : 0 ≤ 9 + ((-1) * τ 19002 + 0) := hf _ (List.Mem.tail _ (List.Mem.tail _ (List.Mem.tail _ (List.Mem.tail _ (List.Mem.tail _ (List.Mem.head _))))))
  have f6 : 0 ≤ 0 + (1 * τ 12804 + 0) := hf _ (List.Mem.tail _ (List.Mem.tail _ (List.Mem.tail _ (List.Mem.tail _ (List.Mem.tail _ (List.Mem.tail _ (List.Mem.head _)))))))
  have m18511 : σ' 18511 = 0 + (1 * τ 19001 + 0) := hm 18511 (by decide)
  have m18512 : σ' 18512 = 0 + 0 := hm 18512 (by decide)
  have m18513 : σ' 18513 = 1 + 0 := hm 18513 (by decide)
  have hok : lw_OK a1 a2 := by
    refine ⟨?_, by omega, by omega, ⟨by omega, by omega, by omega, by omega, by omega, by omega, by omega, by omega⟩, by omega, by omega⟩
    have h0 := g20.1 (by omega)
    rw [show σ' 18511 = a1 by omega, show σ' 18512 = 0 by omega] at h0
    exact h0.mpr sx_gdn_0
  have m18517 : σ' 18517 = 0 + (1 * τ 19001 + 0) := hm 18517 (by decide)
  have m18518 : σ' 18518 = 2 + 0 := hm 18518 (by decide)
  have m12804 : σ' 12804 = 1 + (1 * τ 12804 + 0) := hm 12804 (by decide)
  obtain ⟨n0, n1, n2, n3, n4, n5, n6, n7⟩ := g24
  have q18528 := lw_id s18528 (hm 18528 (by decide))
  have q18529 := lw_id s18529 (hm 18529 (by decide))
  have m18530 : σ' 18530 = 0 + (1 * τ 19001 + 0) := hm 18530 (by decide)
  have q18531 := lw_id s18531 (hm 18531 (by decide))
  have q18532 := lw_id s18532 (hm 18532 (by decide))
  have q18533 := lw_id s18533 (hm 18533 (by decide))
  have q18534 := lw_id s18534 (hm 18534 (by decide))
  have q18535 := lw_id s18535 (hm 18535 (by decide))
  have hj : σ 12804 = 2 := by omega
  exact Or.inr (Or.inr (Or.inr ⟨by omega, by omega, hok, by omega, by omega, ⟨fun _ => (by have := g22.1 0 (by omega); omega), fun _ => (by have := g22.1 1 (by omega); omega), fun h => absurd h (by omega), fun h => absurd h (by omega), fun h => absurd h (by omega), fun h => absurd h (by omega), fun h => absurd h (by omega), fun h => absurd h (by omega)⟩, ⟨Or.inr ⟨by omega, q18528⟩, Or.inr ⟨by omega, q18529⟩, Or.inl ⟨hj, by omega⟩, Or.inr ⟨by omega, q18531⟩, Or.inr ⟨by omega, q18532⟩, Or.inr ⟨by omega, q18533⟩, Or.inr ⟨by omega, q18534⟩, Or.inr ⟨by omega, q18535⟩⟩⟩))
theorem lw_pm_20 {as : List rv_A} {σ σ' : Nat → Int} {o : rv_O} {x : Int32} {a1 a2 : Int} {A : Nat → Nat → Int} {τ : Nat → Int} (hx : o.1 = some (.inl x)) (h1 : lw_av as 1 = a1) (h2 : lw_av as 2 = a2) (hb : ∀ s, (sx_sr s).1 ≤ σ s ∧ σ s ≤ (sx_sr s).2) (hG : sx_GG σ' A) (hW : lw_W ([(18509, 1, 1099511627770), (18510, 0, 34359738367)], [((-2), [(12804, 1)]), (2, [(12804, (-1))]), ((-1157), [(19001, 1)]), (1475, [(19001, (-1))]), (0, [(19002, 1)]), (9, [(19002, (-1))]), (0, [(12804, 1)])], [(12800, (0, [])), (12804, (1, [(12804, 1)])), (18462, (0, [])), (18463, (0, [])), (18464, (0, [])), (18465, ((-1), [])), (18466, (0, [])), (18467, (0, [])), (18468, (0, [])), (18469, ((-1), [])), (18470, ((-1), [])), (18471, ((-1), [])), (18472, (0, [])), (18473, (0, [])), (18509, (0, [(1000000, 1)])), (18510, (0, [(1000001, 1)])), (18511, (0, [(19001, 1)])), (18512, (0, [])), (18513, (1, [])), (18517, (0, [(19001, 1)])), (18518, (2, [])), (18519, ((-1), [])), (18530, (0, [(19001, 1)]))], some (false, (0, [(12804, 1)]))) as σ σ' τ o) : lw_pm_C a1 a2 x.toInt σ σ' := by
  unfold lw_pm_C
  have bM : 0 ≤ σ 12804 ∧ σ 12804 ≤ 8 := by
    have h0 := hb 12804
    rw [show sx_sr 12804 = (0, 8) from by decide +kernel] at h0
    exact h0
  obtain ⟨-, -, -, -, -, -, -, -, -, -, -, -, -, -, -, -, -, -, -, g19, g20, -, g22, -, g24⟩ := hG
  obtain ⟨hs, ht, hf, hr, hm, hw⟩ := hW
  have e1 : τ 19001 = a1 := by rw [ht 19001 (by decide) (by decide)]; exact h1
  have e2 : τ 19002 = a2 := by rw [ht 19002 (by decide) (by decide)]; exact h2
  have s133 : τ 133 = σ 133 := hs 133 (by decide)
  have s134 : τ 134 = σ 134 := hs 134 (by decide)
  have s10250 : τ 10250 = σ 10250 := hs 10250 (by decide)
  have s12804 : τ 12804 = σ 12804 := hs 12804 (by decide)
  have s12805 : τ 12805 = σ 12805 := hs 12805 (by decide)
  have s12814 : τ 12814 = σ 12814 := hs 12814 (by decide)
  have s18520 : τ 18520 = σ 18520 := hs 18520 (by decide)
  have s18521 : τ 18521 = σ 18521 := hs 18521 (by decide)
  have s18522 : τ 18522 = σ 18522 := hs 18522 (by decide)
  have s18523 : τ 18523 = σ 18523 := hs 18523 (by decide)
  have s18524 : τ 18524 = σ 18524 := hs 18524 (by decide)
  have s18525 : τ 18525 = σ 18525 := hs 18525 (by decide)
  have s18526 : τ 18526 = σ 18526 := hs 18526 (by decide)
  have s18527 : τ 18527 = σ 18527 := hs 18527 (by decide)
  have s18528 : τ 18528 = σ 18528 := hs 18528 (by decide)
  have s18529 : τ 18529 = σ 18529 := hs 18529 (by decide)
  have s18530 : τ 18530 = σ 18530 := hs 18530 (by decide)
  have s18531 : τ 18531 = σ 18531 := hs 18531 (by decide)
  have s18532 : τ 18532 = σ 18532 := hs 18532 (by decide)
  have s18533 : τ 18533 = σ 18533 := hs 18533 (by decide)
  have s18534 : τ 18534 = σ 18534 := hs 18534 (by decide)
  have s18535 : τ 18535 = σ 18535 := hs 18535 (by decide)
  clear ht hb h1 h2
  rw [hx] at hr
  clear hx
  obtain ⟨y, hy, hv⟩ := hr
  cases hy
  replace hv : x.toInt = 0 + (1 * τ 12804 + 0) := hv
  have sm : σ' 133 = σ 133 ∧ σ' 134 = σ 134 ∧ σ' 12805 = σ 12805 ∧ σ' 10250 = σ 10250 ∧ σ' 12814 = σ 12814 ∧ σ' 18520 = σ 18520 ∧ σ' 18521 = σ 18521 ∧ σ' 18522 = σ 18522 ∧ σ' 18523 = σ 18523 ∧ σ' 18524 = σ 18524 ∧ σ' 18525 = σ 18525 ∧ σ' 18526 = σ 18526 ∧ σ' 18527 = σ 18527 := ⟨lw_id s133 (hm 133 (by decide)), lw_id s134 (hm 134 (by decide)), lw_id s12805 (hm 12805 (by decide)), lw_id s10250 (hm 10250 (by decide)), lw_id s12814 (hm 12814 (by decide)), lw_id s18520 (hm 18520 (by decide)), lw_id s18521 (hm 18521 (by decide)), lw_id s18522 (hm 18522 (by decide)), lw_id s18523 (hm 18523 (by decide)), lw_id s18524 (hm 18524 (by decide)), lw_id s18525 (hm 18525 (by decide)), lw_id s18526 (hm 18526 (by decide)), lw_id s18527 (hm 18527 (by decide))⟩
  refine ⟨?_, sm⟩
  clear sm
  have f0 : 0 ≤ (-2) + (1 * τ 12804 + 0) := hf _ (List.Mem.head _)
  have f1 : 0 ≤ 2 + ((-1) * τ 12804 + 0) := hf _ (List.Mem.tail _ (List.Mem.head _))
  have f2 : 0 ≤ (-1157) + (1 * τ 19001 + 0) := hf _ (List.Mem.tail _ (List.Mem.tail _ (List.Mem.head _)))
  have f3 : 0 ≤ 1475 + ((-1) * τ 19001 + 0) := hf _ (List.Mem.tail _ (List.Mem.tail _ (List.Mem.tail _ (List.Mem.head _))))
  have f4 : 0 ≤ 0 + (1 * τ 19002 + 0) := hf _ (List.Mem.tail _ (List.Mem.tail _ (List.Mem.tail _ (List.Mem.tail _ (List.Mem.head _)))))
  have f5 : 0 ≤ 9 + ((-1) * τ 19002 + 0) := hf _ (List.Mem.tail _ (List.Mem.tail _ (List.Mem.tail _ (List.Mem.tail _ (List.Mem.tail _ (List.Mem.head _))))))
  have f6 : 0 ≤ 0 + (1 * τ 12804 + 0) := hf _ (List.Mem.tail _ (List.Mem.tail _ (List.Mem.tail _ (List.Mem.tail _ (List.Mem.tail _ (List.Mem.tail _ (List.Mem.head _)))))))
  have m18511 : σ' 18511 = 0 + (1 * τ 19001 + 0) := hm 18511 (by decide)
  have m18512 : σ' 18512 = 0 + 0 := hm 18512 (by decide)
  have m18513 : σ' 18513 = 1 + 0 := hm 18513 (by decide)
  have hok : lw_OK a1 a2 := by
    refine ⟨?_, by omega, by omega, ⟨by omega, by omega, by omega, by omega, by omega, by omega, by omega, by omega⟩, by omega, by omega⟩
    have h0 := g20.1 (by omega)
    rw [show σ' 18511 = a1 by omega, show σ' 18512 = 0 by omega] at h0
    exact h0.mpr sx_gdn_0
  have m18517 : σ' 18517 = 0 + (1 * τ 19001 + 0) := hm 18517 (by decide)
  have m18518 : σ' 18518 = 2 + 0 := hm 18518 (by decide)
  have m12804 : σ' 12804 = 1 + (1 * τ 12804 + 0) := hm 12804 (by decide)
  obtain ⟨n0, n1, n2, n3, n4, n5, n6, n7⟩ := g24
  have q18528 := lw_id s18528 (hm 18528 (by decide))
  have q18529 := lw_id s18529 (hm 18529 (by decide))
  have m18530 : σ' 18530 = 0 + (1 * τ 19001 + 0) := hm 18530 (by decide)
  have q18531 := lw_id s18531 (hm 18531 (by decide))
  have q18532 := lw_id s18532 (hm 18532 (by decide))
  have q18533 := lw_id s18533 (hm 18533 (by decide))
  have q18534 := lw_id s18534 (hm 18534 (by decide))
  have q18535 := lw_id s18535 (hm 18535 (by decide))
  have hj : σ 12804 = 2 := by omega
  exact Or.inr (Or.inr (Or.inr ⟨by omega, by omega, hok, by omega, by omega, ⟨fun _ => (by have := g22.1 0 (by omega); omega), fun _ => (by have := g22.1 1 (by omega); omega), fun h => absurd h (by omega), fun h => absurd h (by omega), fun h => absurd h (by omega), fun h => absurd h (by omega), fun h => absurd h (by omega), fun h => absurd h (by omega)⟩, ⟨Or.inr ⟨by omega, q18528⟩, Or.inr ⟨by omega, q18529⟩, Or.inl ⟨hj, by omega⟩, Or.inr ⟨by omega, q18531⟩, Or.inr ⟨by omega, q18532⟩, Or.inr ⟨by omega, q18533⟩, Or.inr ⟨by omega, q18534⟩, Or.inr ⟨by omega, q18535⟩⟩⟩))
theorem lw_pm_21 {as : List rv_A} {σ σ' : Nat → Int} {o : rv_O} {x : Int32} {a1 a2 : Int} {A : Nat → Nat → Int} {τ : Nat → Int} (hx : o.1 = some (.inl x)) (h1 : lw_av as 1 = a1) (h2 : lw_av as 2 = a2) (hb : ∀ s, (sx_sr s).1 ≤ σ s ∧ σ s ≤ (sx_sr s).2) (hG : sx_GG σ' A) (hW : lw_W ([(18509, 1, 1099511627770), (18510, 0, 34359738367)], [((-2), [(12804, 1)]), (2, [(12804, (-1))]), ((-1477), [(19001, 1)]), (2097, [(19001, (-1))]), (0, [(19002, 1)]), (9, [(19002, (-1))]), (0, [(12804, 1)])], [(12800, (0, [])), (12804, (1, [(12804, 1)])), (18462, (0, [])), (18463, (0, [])), (18464, (0, [])), (18465, ((-1), [])), (18466, (0, [])), (18467, (0, [])), (18468, (0, [])), (18469, ((-1), [])), (18470, ((-1), [])), (18471, ((-1), [])), (18472, (0, [])), (18473, (0, [])), (18509, (0, [(1000000, 1)])), (18510, (0, [(1000001, 1)])), (18511, (0, [(19001, 1)])), (18512, (0, [])), (18513, (1, [])), (18517, (0, [(19001, 1)])), (18518, (2, [])), (18519, ((-1), [])), (18530, (0, [(19001, 1)]))], some (false, (0, [(12804, 1)]))) as σ σ' τ o) : lw_pm_C a1 a2 x.toInt σ σ' := by
  unfold lw_pm_C
  have bM : 0 ≤ σ 12804 ∧ σ 12804 ≤ 8 := by
    have h0 := hb 12804
    rw [show sx_sr 12804 = (0, 8) from by decide +kernel] at h0
    exact h0
  obtain ⟨-, -, -, -, -, -, -, -, -, -, -, -, -, -, -, -, -, -, -, g19, g20, -, g22, -, g24⟩ := hG
  obtain ⟨hs, ht, hf, hr, hm, hw⟩ := hW
  have e1 : τ 19001 = a1 := by rw [ht 19001 (by decide) (by decide)]; exact h1
  have e2 : τ 19002 = a2 := by rw [ht 19002 (by decide) (by decide)]; exact h2
  have s133 : τ 133 = σ 133 := hs 133 (by decide)
  have s134 : τ 134 = σ 134 := hs 134 (by decide)
  have s10250 : τ 10250 = σ 10250 := hs 10250 (by decide)
  have s12804 : τ 12804 = σ 12804 := hs 12804 (by decide)
  have s12805 : τ 12805 = σ 12805 := hs 12805 (by decide)
  have s12814 : τ 12814 = σ 12814 := hs 12814 (by decide)
  have s18520 : τ 18520 = σ 18520 := hs 18520 (by decide)
  have s18521 : τ 18521 = σ 18521 := hs 18521 (by decide)
  have s18522 : τ 18522 = σ 18522 := hs 18522 (by decide)
  have s18523 : τ 18523 = σ 18523 := hs 18523 (by decide)
  have s18524 : τ 18524 = σ 18524 := hs 18524 (by decide)
  have s18525 : τ 18525 = σ 18525 := hs 18525 (by decide)
  have s18526 : τ 18526 = σ 18526 := hs 18526 (by decide)
  have s18527 : τ 18527 = σ 18527 := hs 18527 (by decide)
  have s18528 : τ 18528 = σ 18528 := hs 18528 (by decide)
  have s18529 : τ 18529 = σ 18529 := hs 18529 (by decide)
  have s18530 : τ 18530 = σ 18530 := hs 18530 (by decide)
  have s18531 : τ 18531 = σ 18531 := hs 18531 (by decide)
  have s18532 : τ 18532 = σ 18532 := hs 18532 (by decide)
  have s18533 : τ 18533 = σ 18533 := hs 18533 (by decide)
  have s18534 : τ 18534 = σ 18534 := hs 18534 (by decide)
  have s18535 : τ 18535 = σ 18535 := hs 18535 (by decide)
  clear ht hb h1 h2
  rw [hx] at hr
  clear hx
  obtain ⟨y, hy, hv⟩ := hr
  cases hy
  replace hv : x.toInt = 0 + (1 * τ 12804 + 0) := hv
  have sm : σ' 133 = σ 133 ∧ σ' 134 = σ 134 ∧ σ' 12805 = σ 12805 ∧ σ' 10250 = σ 10250 ∧ σ' 12814 = σ 12814 ∧ σ' 18520 = σ 18520 ∧ σ' 18521 = σ 18521 ∧ σ' 18522 = σ 18522 ∧ σ' 18523 = σ 18523 ∧ σ' 18524 = σ 18524 ∧ σ' 18525 = σ 18525 ∧ σ' 18526 = σ 18526 ∧ σ' 18527 = σ 18527 := ⟨lw_id s133 (hm 133 (by decide)), lw_id s134 (hm 134 (by decide)), lw_id s12805 (hm 12805 (by decide)), lw_id s10250 (hm 10250 (by decide)), lw_id s12814 (hm 12814 (by decide)), lw_id s18520 (hm 18520 (by decide)), lw_id s18521 (hm 18521 (by decide)), lw_id s18522 (hm 18522 (by decide)), lw_id s18523 (hm 18523 (by decide)), lw_id s18524 (hm 18524 (by decide)), lw_id s18525 (hm 18525 (by decide)), lw_id s18526 (hm 18526 (by decide)), lw_id s18527 (hm 18527 (by decide))⟩
  refine ⟨?_, sm⟩
  clear sm
  have f0 : 0 ≤ (-2) + (1 * τ 12804 + 0) := hf _ (List.Mem.head _)
  have f1 : 0 ≤ 2 + ((-1) * τ 12804 + 0) := hf _ (List.Mem.tail _ (List.Mem.head _))
  have f2 : 0 ≤ (-1477) + (1 * τ 19001 + 0) := hf _ (List.Mem.tail _ (List.Mem.tail _ (List.Mem.head _)))
  have f3 : 0 ≤ 2097 + ((-1) * τ 19001 + 0) := hf _ (List.Mem.tail _ (List.Mem.tail _ (List.Mem.tail _ (List.Mem.head _))))
  have f4 : 0 ≤ 0 + (1 * τ 19002 + 0) := hf _ (List.Mem.tail _ (List.Mem.tail _ (List.Mem.tail _ (List.Mem.tail _ (List.Mem.head _)))))
  have f5 : 0 ≤ 9 + ((-1) * τ 19002 + 0) := hf _ (List.Mem.tail _ (List.Mem.tail _ (List.Mem.tail _ (List.Mem.tail _ (List.Mem.tail _ (List.Mem.head _))))))
  have f6 : 0 ≤ 0 + (1 * τ 12804 + 0) := hf _ (List.Mem.tail _ (List.Mem.tail _ (List.Mem.tail _ (List.Mem.tail _ (List.Mem.tail _ (List.Mem.tail _ (List.Mem.head _)))))))
  have m18511 : σ' 18511 = 0 + (1 * τ 19001 + 0) := hm 18511 (by decide)
  have m18512 : σ' 18512 = 0 + 0 := hm 18512 (by decide)
  have m18513 : σ' 18513 = 1 + 0 := hm 18513 (by decide)
  have hok : lw_OK a1 a2 := by
    refine ⟨?_, by omega, by omega, ⟨by omega, by omega, by omega, by omega, by omega, by omega, by omega, by omega⟩, by omega, by omega⟩
    have h0 := g20.1 (by omega)
    rw [show σ' 18511 = a1 by omega, show σ' 18512 = 0 by omega] at h0
    exact h0.mpr sx_gdn_0
  have m18517 : σ' 18517 = 0 + (1 * τ 19001 + 0) := hm 18517 (by decide)
  have m18518 : σ' 18518 = 2 + 0 := hm 18518 (by decide)
  have m12804 : σ' 12804 = 1 + (1 * τ 12804 + 0) := hm 12804 (by decide)
  obtain ⟨n0, n1, n2, n3, n4, n5, n6, n7⟩ := g24
  have q18528 := lw_id s18528 (hm 18528 (by decide))
  have q18529 := lw_id s18529 (hm 18529 (by decide))
  have m18530 : σ' 18530 = 0 + (1 * τ 19001 + 0) := hm 18530 (by decide)
  have q18531 := lw_id s18531 (hm 18531 (by decide))
  have q18532 := lw_id s18532 (hm 18532 (by decide))
  have q18533 := lw_id s18533 (hm 18533 (by decide))
  have q18534 := lw_id s18534 (hm 18534 (by decide))
  have q18535 := lw_id s18535 (hm 18535 (by decide))
  have hj : σ 12804 = 2 := by omega
  exact Or.inr (Or.inr (Or.inr ⟨by omega, by omega, hok, by omega, by omega, ⟨fun _ => (by have := g22.1 0 (by omega); omega), fun _ => (by have := g22.1 1 (by omega); omega), fun h => absurd h (by omega), fun h => absurd h (by omega), fun h => absurd h (by omega), fun h => absurd h (by omega), fun h => absurd h (by omega), fun h => absurd h (by omega)⟩, ⟨Or.inr ⟨by omega, q18528⟩, Or.inr ⟨by omega, q18529⟩, Or.inl ⟨hj, by omega⟩, Or.inr ⟨by omega, q18531⟩, Or.inr ⟨by omega, q18532⟩, Or.inr ⟨by omega, q18533⟩, Or.inr ⟨by omega, q18534⟩, Or.inr ⟨by omega, q18535⟩⟩⟩))
theorem lw_pm_22 {as : List rv_A} {σ σ' : Nat → Int} {o : rv_O} {x : Int32} {a1 a2 : Int} {A : Nat → Nat → Int} {τ : Nat → Int} (hx : o.1 = some (.inl x)) (h1 : lw_av as 1 = a1) (h2 : lw_av as 2 = a2) (hb : ∀ s, (sx_sr s).1 ≤ σ s ∧ σ s ≤ (sx_sr s).2) (hG : sx_GG σ' A) (hW : lw_W ([(18509, 1, 1099511627770), (18510, 0, 34359738367)], [((-2), [(12804, 1)]), (2, [(12804, (-1))]), ((-14837), [(19001, 1)]), (632644, [(19001, (-1))]), (0, [(19002, 1)]), (9, [(19002, (-1))]), (0, [(12804, 1)])], [(12800, (0, [])), (12804, (1, [(12804, 1)])), (18462, (0, [])), (18463, (0, [])), (18464, (0, [])), (18465, ((-1), [])), (18466, (0, [])), (18467, (0, [])), (18468, (0, [])), (18469, ((-1), [])), (18470, ((-1), [])), (18471, ((-1), [])), (18472, (0, [])), (18473, (0, [])), (18509, (0, [(1000000, 1)])), (18510, (0, [(1000001, 1)])), (18511, (0, [(19001, 1)])), (18512, (0, [])), (18513, (1, [])), (18517, (0, [(19001, 1)])), (18518, (2, [])), (18519, ((-1), [])), (18530, (0, [(19001, 1)]))], some (false, (0, [(12804, 1)]))) as σ σ' τ o) : lw_pm_C a1 a2 x.toInt σ σ' := by
  unfold lw_pm_C
  have bM : 0 ≤ σ 12804 ∧ σ 12804 ≤ 8 := by
    have h0 := hb 12804
    rw [show sx_sr 12804 = (0, 8) from by decide +kernel] at h0
    exact h0
  obtain ⟨-, -, -, -, -, -, -, -, -, -, -, -, -, -, -, -, -, -, -, g19, g20, -, g22, -, g24⟩ := hG
  obtain ⟨hs, ht, hf, hr, hm, hw⟩ := hW
  have e1 : τ 19001 = a1 := by rw [ht 19001 (by decide) (by decide)]; exact h1
  have e2 : τ 19002 = a2 := by rw [ht 19002 (by decide) (by decide)]; exact h2
  have s133 : τ 133 = σ 133 := hs 133 (by decide)
  have s134 : τ 134 = σ 134 := hs 134 (by decide)
  have s10250 : τ 10250 = σ 10250 := hs 10250 (by decide)
  have s12804 : τ 12804 = σ 12804 := hs 12804 (by decide)
  have s12805 : τ 12805 = σ 12805 := hs 12805 (by decide)
  have s12814 : τ 12814 = σ 12814 := hs 12814 (by decide)
  have s18520 : τ 18520 = σ 18520 := hs 18520 (by decide)
  have s18521 : τ 18521 = σ 18521 := hs 18521 (by decide)
  have s18522 : τ 18522 = σ 18522 := hs 18522 (by decide)
  have s18523 : τ 18523 = σ 18523 := hs 18523 (by decide)
  have s18524 : τ 18524 = σ 18524 := hs 18524 (by decide)
  have s18525 : τ 18525 = σ 18525 := hs 18525 (by decide)
  have s18526 : τ 18526 = σ 18526 := hs 18526 (by decide)
  have s18527 : τ 18527 = σ 18527 := hs 18527 (by decide)
  have s18528 : τ 18528 = σ 18528 := hs 18528 (by decide)
  have s18529 : τ 18529 = σ 18529 := hs 18529 (by decide)
  have s18530 : τ 18530 = σ 18530 := hs 18530 (by decide)
  have s18531 : τ 18531 = σ 18531 := hs 18531 (by decide)
  have s18532 : τ 18532 = σ 18532 := hs 18532 (by decide)
  have s18533 : τ 18533 = σ 18533 := hs 18533 (by decide)
  have s18534 : τ 18534 = σ 18534 := hs 18534 (by decide)
  have s18535 : τ 18535 = σ 18535 := hs 18535 (by decide)
  clear ht hb h1 h2
  rw [hx] at hr
  clear hx
  obtain ⟨y, hy, hv⟩ := hr
  cases hy
  replace hv : x.toInt = 0 + (1 * τ 12804 + 0) := hv
  have sm : σ' 133 = σ 133 ∧ σ' 134 = σ 134 ∧ σ' 12805 = σ 12805 ∧ σ' 10250 = σ 10250 ∧ σ' 12814 = σ 12814 ∧ σ' 18520 = σ 18520 ∧ σ' 18521 = σ 18521 ∧ σ' 18522 = σ 18522 ∧ σ' 18523 = σ 18523 ∧ σ' 18524 = σ 18524 ∧ σ' 18525 = σ 18525 ∧ σ' 18526 = σ 18526 ∧ σ' 18527 = σ 18527 := ⟨lw_id s133 (hm 133 (by decide)), lw_id s134 (hm 134 (by decide)), lw_id s12805 (hm 12805 (by decide)), lw_id s10250 (hm 10250 (by decide)), lw_id s12814 (hm 12814 (by decide)), lw_id s18520 (hm 18520 (by decide)), lw_id s18521 (hm 18521 (by decide)), lw_id s18522 (hm 18522 (by decide)), lw_id s18523 (hm 18523 (by decide)), lw_id s18524 (hm 18524 (by decide)), lw_id s18525 (hm 18525 (by decide)), lw_id s18526 (hm 18526 (by decide)), lw_id s18527 (hm 18527 (by decide))⟩
  refine ⟨?_, sm⟩
  clear sm
  have f0 : 0 ≤ (-2) + (1 * τ 12804 + 0) := hf _ (List.Mem.head _)
  have f1 : 0 ≤ 2 + ((-1) * τ 12804 + 0) := hf _ (List.Mem.tail _ (List.Mem.head _))
  have f2 : 0 ≤ (-14837) + (1 * τ 19001 + 0) := hf _ (List.Mem.tail _ (List.Mem.tail _ (List.Mem.head _)))
  have f3 : 0 ≤ 632644 + ((-1) * τ 19001 + 0) := hf _ (List.Mem.tail _ (List.Mem.tail _ (List.Mem.tail _ (List.Mem.head _))))
  have f4 : 0 ≤ 0 + (1 * τ 19002 + 0) := hf _ (List.Mem.tail _ (List.Mem.tail _ (List.Mem.tail _ (List.Mem.tail _ (List.Mem.head _)))))
  have f5 : 0 ≤ 9 + ((-1) * τ 19002 + 0) := hf _ (List.Mem.tail _ (List.Mem.tail _ (List.Mem.tail _ (List.Mem.tail _ (List.Mem.tail _ (List.Mem.head _))))))
  have f6 : 0 ≤ 0 + (1 * τ 12804 + 0) := hf _ (List.Mem.tail _ (List.Mem.tail _ (List.Mem.tail _ (List.Mem.tail _ (List.Mem.tail _ (List.Mem.tail _ (List.Mem.head _)))))))
  have m18511 : σ' 18511 = 0 + (1 * τ 19001 + 0) := hm 18511 (by decide)
  have m18512 : σ' 18512 = 0 + 0 := hm 18512 (by decide)
  have m18513 : σ' 18513 = 1 + 0 := hm 18513 (by decide)
  have hok : lw_OK a1 a2 := by
    refine ⟨?_, by omega, by omega, ⟨by omega, by omega, by omega, by omega, by omega, by omega, by omega, by omega⟩, by omega, by omega⟩
    have h0 := g20.1 (by omega)
    rw [show σ' 18511 = a1 by omega, show σ' 18512 = 0 by omega] at h0
    exact h0.mpr sx_gdn_0
  have m18517 : σ' 18517 = 0 + (1 * τ 19001 + 0) := hm 18517 (by decide)
  have m18518 : σ' 18518 = 2 + 0 := hm 18518 (by decide)
  have m12804 : σ' 12804 = 1 + (1 * τ 12804 + 0) := hm 12804 (by decide)
  obtain ⟨n0, n1, n2, n3, n4, n5, n6, n7⟩ := g24
  have q18528 := lw_id s18528 (hm 18528 (by decide))
  have q18529 := lw_id s18529 (hm 18529 (by decide))
  have m18530 : σ' 18530 = 0 + (1 * τ 19001 + 0) := hm 18530 (by decide)
  have q18531 := lw_id s18531 (hm 18531 (by decide))
  have q18532 := lw_id s18532 (hm 18532 (by decide))
  have q18533 := lw_id s18533 (hm 18533 (by decide))
  have q18534 := lw_id s18534 (hm 18534 (by decide))
  have q18535 := lw_id s18535 (hm 18535 (by decide))
  have hj : σ 12804 = 2 := by omega
  exact Or.inr (Or.inr (Or.inr ⟨by omega, by omega, hok, by omega, by omega, ⟨fun _ => (by have := g22.1 0 (by omega); omega), fun _ => (by have := g22.1 1 (by omega); omega), fun h => absurd h (by omega), fun h => absurd h (by omega), fun h => absurd h (by omega), fun h => absurd h (by omega), fun h => absurd h (by omega), fun h => absurd h (by omega)⟩, ⟨Or.inr ⟨by omega, q18528⟩, Or.inr ⟨by omega, q18529⟩, Or.inl ⟨hj, by omega⟩, Or.inr ⟨by omega, q18531⟩, Or.inr ⟨by omega, q18532⟩, Or.inr ⟨by omega, q18533⟩, Or.inr ⟨by omega, q18534⟩, Or.inr ⟨by omega, q18535⟩⟩⟩))
