/-! THE NEW RULES HOLD -/
theorem sx_p_l_BD0 : sx_okr sx_HH false 5 sx_r_l_BD0 := by
  intro γ A j y hG hR hj hlo hhi hl hn
  rw [show (sx_cell.get 5).2.2.1 = 8 from by decide +kernel] at hj
  rw [show (sx_cell.get 5).2.2.2.1 = 0 from by decide +kernel] at hlo
  rw [show (sx_cell.get 5).2.2.2.2.1 = 255 from by decide +kernel] at hhi
  have hy : A 5 j = y := hl rfl
  have n0 : 0 ≤ (-1) + (1 * γ 18595 + 0) := hn _ (List.Mem.head _)
  have n1 : 0 ≤ 1 + ((-1) * γ 18595 + 0) := hn _ (List.Mem.tail _ (List.Mem.head _))
  have n2 : 0 ≤ 0 + (1 * (j : Int) + 0) := hn _ (List.Mem.tail _ (List.Mem.tail _ (List.Mem.head _)))
  have n3 : 0 ≤ 0 + ((-1) * (j : Int) + 0) := hn _ (List.Mem.tail _ (List.Mem.tail _ (List.Mem.tail _ (List.Mem.head _))))
  clear hn
  obtain ⟨g0, g1, g2, g3, g4, g5, g6, g7, g8, g9, g10, g11, g12, g13, g14, g15, g16, g17, g18, g19, g20, g21, g22, g23, g24, g25, g26, g27, g28, g29, g30, g31, g32, g33, g34, g35, g36⟩ := id hG
  have r_BD0 := sx_gr_BD0 hR
  have r_QM := sx_gr_QM hR
  have hQ : γ 18595 = 1 := by omega
  obtain ⟨t0, t1, t2, t3, t4, t5, t6, t7⟩ := g1
  have e : j = 0 := by omega
  subst e
  exact sx_q_l_BD0_0 hG (by omega)
theorem sx_p_l_BD1 : sx_okr sx_HH false 5 sx_r_l_BD1 := by
  intro γ A j y hG hR hj hlo hhi hl hn
  rw [show (sx_cell.get 5).2.2.1 = 8 from by decide +kernel] at hj
  rw [show (sx_cell.get 5).2.2.2.1 = 0 from by decide +kernel] at hlo
  rw [show (sx_cell.get 5).2.2.2.2.1 = 255 from by decide +kernel] at hhi
  have hy : A 5 j = y := hl rfl
  have n0 : 0 ≤ (-1) + (1 * γ 18595 + 0) := hn _ (List.Mem.head _)
  have n1 : 0 ≤ 1 + ((-1) * γ 18595 + 0) := hn _ (List.Mem.tail _ (List.Mem.head _))
  have n2 : 0 ≤ (-1) + (1 * (j : Int) + 0) := hn _ (List.Mem.tail _ (List.Mem.tail _ (List.Mem.head _)))
  have n3 : 0 ≤ 1 + ((-1) * (j : Int) + 0) := hn _ (List.Mem.tail _ (List.Mem.tail _ (List.Mem.tail _ (List.Mem.head _))))
  clear hn
  obtain ⟨g0, g1, g2, g3, g4, g5, g6, g7, g8, g9, g10, g11, g12, g13, g14, g15, g16, g17, g18, g19, g20, g21, g22, g23, g24, g25, g26, g27, g28, g29, g30, g31, g32, g33, g34, g35, g36⟩ := id hG
  have r_BD1 := sx_gr_BD1 hR
  have r_QM := sx_gr_QM hR
  have hQ : γ 18595 = 1 := by omega
  obtain ⟨t0, t1, t2, t3, t4, t5, t6, t7⟩ := g1
  have e : j = 1 := by omega
  subst e
  exact sx_q_l_BD1_0 hG (by omega)
theorem sx_p_l_BD2 : sx_okr sx_HH false 5 sx_r_l_BD2 := by
  intro γ A j y hG hR hj hlo hhi hl hn
  rw [show (sx_cell.get 5).2.2.1 = 8 from by decide +kernel] at hj
  rw [show (sx_cell.get 5).2.2.2.1 = 0 from by decide +kernel] at hlo
  rw [show (sx_cell.get 5).2.2.2.2.1 = 255 from by decide +kernel] at hhi
  have hy : A 5 j = y := hl rfl
  have n0 : 0 ≤ (-1) + (1 * γ 18595 + 0) := hn _ (List.Mem.head _)
  have n1 : 0 ≤ 1 + ((-1) * γ 18595 + 0) := hn _ (List.Mem.tail _ (List.Mem.head _))
  have n2 : 0 ≤ (-2) + (1 * (j : Int) + 0) := hn _ (List.Mem.tail _ (List.Mem.tail _ (List.Mem.head _)))
  have n3 : 0 ≤ 2 + ((-1) * (j : Int) + 0) := hn _ (List.Mem.tail _ (List.Mem.tail _ (List.Mem.tail _ (List.Mem.head _))))
  clear hn
  obtain ⟨g0, g1, g2, g3, g4, g5, g6, g7, g8, g9, g10, g11, g12, g13, g14, g15, g16, g17, g18, g19, g20, g21, g22, g23, g24, g25, g26, g27, g28, g29, g30, g31, g32, g33, g34, g35, g36⟩ := id hG
  have r_BD2 := sx_gr_BD2 hR
  have r_QM := sx_gr_QM hR
  have hQ : γ 18595 = 1 := by omega
  obtain ⟨t0, t1, t2, t3, t4, t5, t6, t7⟩ := g1
  have e : j = 2 := by omega
  subst e
  exact sx_q_l_BD2_0 hG (by omega)
theorem sx_p_l_BD3 : sx_okr sx_HH false 5 sx_r_l_BD3 := by
  intro γ A j y hG hR hj hlo hhi hl hn
  rw [show (sx_cell.get 5).2.2.1 = 8 from by decide +kernel] at hj
  rw [show (sx_cell.get 5).2.2.2.1 = 0 from by decide +kernel] at hlo
  rw [show (sx_cell.get 5).2.2.2.2.1 = 255 from by decide +kernel] at hhi
  have hy : A 5 j = y := hl rfl
  have n0 : 0 ≤ (-1) + (1 * γ 18595 + 0) := hn _ (List.Mem.head _)
  have n1 : 0 ≤ 1 + ((-1) * γ 18595 + 0) := hn _ (List.Mem.tail _ (List.Mem.head _))
  have n2 : 0 ≤ (-3) + (1 * (j : Int) + 0) := hn _ (List.Mem.tail _ (List.Mem.tail _ (List.Mem.head _)))
  have n3 : 0 ≤ 3 + ((-1) * (j : Int) + 0) := hn _ (List.Mem.tail _ (List.Mem.tail _ (List.Mem.tail _ (List.Mem.head _))))
  clear hn
  obtain ⟨g0, g1, g2, g3, g4, g5, g6, g7, g8, g9, g10, g11, g12, g13, g14, g15, g16, g17, g18, g19, g20, g21, g22, g23, g24, g25, g26, g27, g28, g29, g30, g31, g32, g33, g34, g35, g36⟩ := id hG
  have r_BD3 := sx_gr_BD3 hR
  have r_QM := sx_gr_QM hR
  have hQ : γ 18595 = 1 := by omega
  obtain ⟨t0, t1, t2, t3, t4, t5, t6, t7⟩ := g1
  have e : j = 3 := by omega
  subst e
  exact sx_q_l_BD3_0 hG (by omega)
theorem sx_p_l_BD4 : sx_okr sx_HH false 5 sx_r_l_BD4 := by
  intro γ A j y hG hR hj hlo hhi hl hn
  rw [show (sx_cell.get 5).2.2.1 = 8 from by decide +kernel] at hj
  rw [show (sx_cell.get 5).2.2.2.1 = 0 from by decide +kernel] at hlo
  rw [show (sx_cell.get 5).2.2.2.2.1 = 255 from by decide +kernel] at hhi
  have hy : A 5 j = y := hl rfl
  have n0 : 0 ≤ (-1) + (1 * γ 18595 + 0) := hn _ (List.Mem.head _)
  have n1 : 0 ≤ 1 + ((-1) * γ 18595 + 0) := hn _ (List.Mem.tail _ (List.Mem.head _))
  have n2 : 0 ≤ (-4) + (1 * (j : Int) + 0) := hn _ (List.Mem.tail _ (List.Mem.tail _ (List.Mem.head _)))
  have n3 : 0 ≤ 4 + ((-1) * (j : Int) + 0) := hn _ (List.Mem.tail _ (List.Mem.tail _ (List.Mem.tail _ (List.Mem.head _))))
  clear hn
  obtain ⟨g0, g1, g2, g3, g4, g5, g6, g7, g8, g9, g10, g11, g12, g13, g14, g15, g16, g17, g18, g19, g20, g21, g22, g23, g24, g25, g26, g27, g28, g29, g30, g31, g32, g33, g34, g35, g36⟩ := id hG
  have r_BD4 := sx_gr_BD4 hR
  have r_QM := sx_gr_QM hR
  have hQ : γ 18595 = 1 := by omega
  obtain ⟨t0, t1, t2, t3, t4, t5, t6, t7⟩ := g1
  have e : j = 4 := by omega
  subst e
  exact sx_q_l_BD4_0 hG (by omega)
theorem sx_p_l_BD5 : sx_okr sx_HH false 5 sx_r_l_BD5 := by
  intro γ A j y hG hR hj hlo hhi hl hn
  rw [show (sx_cell.get 5).2.2.1 = 8 from by decide +kernel] at hj
  rw [show (sx_cell.get 5).2.2.2.1 = 0 from by decide +kernel] at hlo
  rw [show (sx_cell.get 5).2.2.2.2.1 = 255 from by decide +kernel] at hhi
  have hy : A 5 j = y := hl rfl
  have n0 : 0 ≤ (-1) + (1 * γ 18595 + 0) := hn _ (List.Mem.head _)
  have n1 : 0 ≤ 1 + ((-1) * γ 18595 + 0) := hn _ (List.Mem.tail _ (List.Mem.head _))
  have n2 : 0 ≤ (-5) + (1 * (j : Int) + 0) := hn _ (List.Mem.tail _ (List.Mem.tail _ (List.Mem.head _)))
  have n3 : 0 ≤ 5 + ((-1) * (j : Int) + 0) := hn _ (List.Mem.tail _ (List.Mem.tail _ (List.Mem.tail _ (List.Mem.head _))))
  clear hn
  obtain ⟨g0, g1, g2, g3, g4, g5, g6, g7, g8, g9, g10, g11, g12, g13, g14, g15, g16, g17, g18, g19, g20, g21, g22, g23, g24, g25, g26, g27, g28, g29, g30, g31, g32, g33, g34, g35, g36⟩ := id hG
  have r_BD5 := sx_gr_BD5 hR
  have r_QM := sx_gr_QM hR
  have hQ : γ 18595 = 1 := by omega
  obtain ⟨t0, t1, t2, t3, t4, t5, t6, t7⟩ := g1
  have e : j = 5 := by omega
  subst e
  exact sx_q_l_BD5_0 hG (by omega)
theorem sx_p_l_BD6 : sx_okr sx_HH false 5 sx_r_l_BD6 := by
  intro γ A j y hG hR hj hlo hhi hl hn
  rw [show (sx_cell.get 5).2.2.1 = 8 from by decide +kernel] at hj
  rw [show (sx_cell.get 5).2.2.2.1 = 0 from by decide +kernel] at hlo
  rw [show (sx_cell.get 5).2.2.2.2.1 = 255 from by decide +kernel] at hhi
  have hy : A 5 j = y := hl rfl
  have n0 : 0 ≤ (-1) + (1 * γ 18595 + 0) := hn _ (List.Mem.head _)
  have n1 : 0 ≤ 1 + ((-1) * γ 18595 + 0) := hn _ (List.Mem.tail _ (List.Mem.head _))
  have n2 : 0 ≤ (-6) + (1 * (j : Int) + 0) := hn _ (List.Mem.tail _ (List.Mem.tail _ (List.Mem.head _)))
  have n3 : 0 ≤ 6 + ((-1) * (j : Int) + 0) := hn _ (List.Mem.tail _ (List.Mem.tail _ (List.Mem.tail _ (List.Mem.head _))))
  clear hn
  obtain ⟨g0, g1, g2, g3, g4, g5, g6, g7, g8, g9, g10, g11, g12, g13, g14, g15, g16, g17, g18, g19, g20, g21, g22, g23, g24, g25, g26, g27, g28, g29, g30, g31, g32, g33, g34, g35, g36⟩ := id hG
  have r_BD6 := sx_gr_BD6 hR
  have r_QM := sx_gr_QM hR
  have hQ : γ 18595 = 1 := by omega
  obtain ⟨t0, t1, t2, t3, t4, t5, t6, t7⟩ := g1
  have e : j = 6 := by omega
  subst e
  exact sx_q_l_BD6_0 hG (by omega)
theorem sx_p_l_BD7 : sx_okr sx_HH false 5 sx_r_l_BD7 := by
  intro γ A j y hG hR hj hlo hhi hl hn
  rw [show (sx_cell.get 5).2.2.1 = 8 from by decide +kernel] at hj
  rw [show (sx_cell.get 5).2.2.2.1 = 0 from by decide +kernel] at hlo
  rw [show (sx_cell.get 5).2.2.2.2.1 = 255 from by decide +kernel] at hhi
  have hy : A 5 j = y := hl rfl
  have n0 : 0 ≤ (-1) + (1 * γ 18595 + 0) := hn _ (List.Mem.head _)
  have n1 : 0 ≤ 1 + ((-1) * γ 18595 + 0) := hn _ (List.Mem.tail _ (List.Mem.head _))
  have n2 : 0 ≤ (-7) + (1 * (j : Int) + 0) := hn _ (List.Mem.tail _ (List.Mem.tail _ (List.Mem.head _)))
  have n3 : 0 ≤ 7 + ((-1) * (j : Int) + 0) := hn _ (List.Mem.tail _ (List.Mem.tail _ (List.Mem.tail _ (List.Mem.head _))))
  clear hn
  obtain ⟨g0, g1, g2, g3, g4, g5, g6, g7, g8, g9, g10, g11, g12, g13, g14, g15, g16, g17, g18, g19, g20, g21, g22, g23, g24, g25, g26, g27, g28, g29, g30, g31, g32, g33, g34, g35, g36⟩ := id hG
  have r_BD7 := sx_gr_BD7 hR
  have r_QM := sx_gr_QM hR
  have hQ : γ 18595 = 1 := by omega
  obtain ⟨t0, t1, t2, t3, t4, t5, t6, t7⟩ := g1
  have e : j = 7 := by omega
  subst e
  exact sx_q_l_BD7_0 hG (by omega)
theorem sx_p_l_BDm : sx_okr sx_HH false 5 sx_r_l_BDm := by
  intro γ A j y hG hR hj hlo hhi hl hn
  rw [show (sx_cell.get 5).2.2.1 = 8 from by decide +kernel] at hj
  rw [show (sx_cell.get 5).2.2.2.1 = 0 from by decide +kernel] at hlo
  rw [show (sx_cell.get 5).2.2.2.2.1 = 255 from by decide +kernel] at hhi
  have hy : A 5 j = y := hl rfl
  have n0 : 0 ≤ (-2) + (1 * γ 18595 + 0) := hn _ (List.Mem.head _)
  have n1 : 0 ≤ 2 + ((-1) * γ 18595 + 0) := hn _ (List.Mem.tail _ (List.Mem.head _))
  clear hn
  obtain ⟨g0, g1, g2, g3, g4, g5, g6, g7, g8, g9, g10, g11, g12, g13, g14, g15, g16, g17, g18, g19, g20, g21, g22, g23, g24, g25, g26, g27, g28, g29, g30, g31, g32, g33, g34, g35, g36⟩ := id hG
  have r_BD0 := sx_gr_BD0 hR
  have r_BD1 := sx_gr_BD1 hR
  have r_BD2 := sx_gr_BD2 hR
  have r_BD3 := sx_gr_BD3 hR
  have r_BD4 := sx_gr_BD4 hR
  have r_BD5 := sx_gr_BD5 hR
  have r_BD6 := sx_gr_BD6 hR
  have r_BD7 := sx_gr_BD7 hR
  have r_QM := sx_gr_QM hR
  obtain ⟨t0, t1, t2, t3, t4, t5, t6, t7⟩ := g1
  rcases (show j = 0 ∨ j = 1 ∨ j = 2 ∨ j = 3 ∨ j = 4 ∨ j = 5 ∨ j = 6 ∨ j = 7 by omega) with rfl | rfl | rfl | rfl | rfl | rfl | rfl | rfl
  · exact sx_q_l_BDm_0 hG (by omega) (by omega) (by omega)
  · exact sx_q_l_BDm_1 hG (by omega) (by omega) (by omega)
  · exact sx_q_l_BDm_2 hG (by omega) (by omega) (by omega)
  · exact sx_q_l_BDm_3 hG (by omega) (by omega) (by omega)
  · exact sx_q_l_BDm_4 hG (by omega) (by omega) (by omega)
  · exact sx_q_l_BDm_5 hG (by omega) (by omega) (by omega)
  · exact sx_q_l_BDm_6 hG (by omega) (by omega) (by omega)
  · exact sx_q_l_BDm_7 hG (by omega) (by omega) (by omega)
theorem sx_p_l_BDz : sx_okr sx_HH false 5 sx_r_l_BDz := by
  intro γ A j y hG hR hj hlo hhi hl hn
  rw [show (sx_cell.get 5).2.2.1 = 8 from by decide +kernel] at hj
  rw [show (sx_cell.get 5).2.2.2.1 = 0 from by decide +kernel] at hlo
  rw [show (sx_cell.get 5).2.2.2.2.1 = 255 from by decide +kernel] at hhi
  have hy : A 5 j = y := hl rfl
  clear hn
  obtain ⟨g0, g1, g2, g3, g4, g5, g6, g7, g8, g9, g10, g11, g12, g13, g14, g15, g16, g17, g18, g19, g20, g21, g22, g23, g24, g25, g26, g27, g28, g29, g30, g31, g32, g33, g34, g35, g36⟩ := id hG
  exact sx_q_l_BDz_0 hG
theorem sx_p_l_AP0 : sx_okr sx_HH false 6 sx_r_l_AP0 := by
  intro γ A j y hG hR hj hlo hhi hl hn
  rw [show (sx_cell.get 6).2.2.1 = 8 from by decide +kernel] at hj
  rw [show (sx_cell.get 6).2.2.2.1 = 0 from by decide +kernel] at hlo
  rw [show (sx_cell.get 6).2.2.2.2.1 = 255 from by decide +kernel] at hhi
  have hy : A 6 j = y := hl rfl
  have n0 : 0 ≤ (-1) + (1 * γ 18595 + 0) := hn _ (List.Mem.head _)
  have n1 : 0 ≤ 1 + ((-1) * γ 18595 + 0) := hn _ (List.Mem.tail _ (List.Mem.head _))
  have n2 : 0 ≤ 0 + (1 * (j : Int) + 0) := hn _ (List.Mem.tail _ (List.Mem.tail _ (List.Mem.head _)))
  have n3 : 0 ≤ 0 + ((-1) * (j : Int) + 0) := hn _ (List.Mem.tail _ (List.Mem.tail _ (List.Mem.tail _ (List.Mem.head _))))
  clear hn
  obtain ⟨g0, g1, g2, g3, g4, g5, g6, g7, g8, g9, g10, g11, g12, g13, g14, g15, g16, g17, g18, g19, g20, g21, g22, g23, g24, g25, g26, g27, g28, g29, g30, g31, g32, g33, g34, g35, g36⟩ := id hG
  have r_AP0 := sx_gr_AP0 hR
  have r_QM := sx_gr_QM hR
  have hQ : γ 18595 = 1 := by omega
  obtain ⟨t0, t1, t2, t3, t4, t5, t6, t7⟩ := g0
  have e : j = 0 := by omega
  subst e
  exact sx_q_l_AP0_0 hG (by omega)
theorem sx_p_l_AP1 : sx_okr sx_HH false 6 sx_r_l_AP1 := by
  intro γ A j y hG hR hj hlo hhi hl hn
  rw [show (sx_cell.get 6).2.2.1 = 8 from by decide +kernel] at hj
  rw [show (sx_cell.get 6).2.2.2.1 = 0 from by decide +kernel] at hlo
  rw [show (sx_cell.get 6).2.2.2.2.1 = 255 from by decide +kernel] at hhi
  have hy : A 6 j = y := hl rfl
  have n0 : 0 ≤ (-1) + (1 * γ 18595 + 0) := hn _ (List.Mem.head _)
  have n1 : 0 ≤ 1 + ((-1) * γ 18595 + 0) := hn _ (List.Mem.tail _ (List.Mem.head _))
  have n2 : 0 ≤ (-1) + (1 * (j : Int) + 0) := hn _ (List.Mem.tail _ (List.Mem.tail _ (List.Mem.head _)))
  have n3 : 0 ≤ 1 + ((-1) * (j : Int) + 0) := hn _ (List.Mem.tail _ (List.Mem.tail _ (List.Mem.tail _ (List.Mem.head _))))
  clear hn
  obtain ⟨g0, g1, g2, g3, g4, g5, g6, g7, g8, g9, g10, g11, g12, g13, g14, g15, g16, g17, g18, g19, g20, g21, g22, g23, g24, g25, g26, g27, g28, g29, g30, g31, g32, g33, g34, g35, g36⟩ := id hG
  have r_AP1 := sx_gr_AP1 hR
  have r_QM := sx_gr_QM hR
  have hQ : γ 18595 = 1 := by omega
  obtain ⟨t0, t1, t2, t3, t4, t5, t6, t7⟩ := g0
  have e : j = 1 := by omega
  subst e
  exact sx_q_l_AP1_0 hG (by omega)
theorem sx_p_l_AP2 : sx_okr sx_HH false 6 sx_r_l_AP2 := by
  intro γ A j y hG hR hj hlo hhi hl hn
  rw [show (sx_cell.get 6).2.2.1 = 8 from by decide +kernel] at hj
  rw [show (sx_cell.get 6).2.2.2.1 = 0 from by decide +kernel] at hlo
  rw [show (sx_cell.get 6).2.2.2.2.1 = 255 from by decide +kernel] at hhi
  have hy : A 6 j = y := hl rfl
  have n0 : 0 ≤ (-1) + (1 * γ 18595 + 0) := hn _ (List.Mem.head _)
  have n1 : 0 ≤ 1 + ((-1) * γ 18595 + 0) := hn _ (List.Mem.tail _ (List.Mem.head _))
  have n2 : 0 ≤ (-2) + (1 * (j : Int) + 0) := hn _ (List.Mem.tail _ (List.Mem.tail _ (List.Mem.head _)))
  have n3 : 0 ≤ 2 + ((-1) * (j : Int) + 0) := hn _ (List.Mem.tail _ (List.Mem.tail _ (List.Mem.tail _ (List.Mem.head _))))
  clear hn
  obtain ⟨g0, g1, g2, g3, g4, g5, g6, g7, g8, g9, g10, g11, g12, g13, g14, g15, g16, g17, g18, g19, g20, g21, g22, g23, g24, g25, g26, g27, g28, g29, g30, g31, g32, g33, g34, g35, g36⟩ := id hG
  have r_AP2 := sx_gr_AP2 hR
  have r_QM := sx_gr_QM hR
  have hQ : γ 18595 = 1 := by omega
  obtain ⟨t0, t1, t2, t3, t4, t5, t6, t7⟩ := g0
  have e : j = 2 := by omega
  subst e
  exact sx_q_l_AP2_0 hG (by omega)
theorem sx_p_l_AP3 : sx_okr sx_HH false 6 sx_r_l_AP3 := by
  intro γ A j y hG hR hj hlo hhi hl hn
  rw [show (sx_cell.get 6).2.2.1 = 8 from by decide +kernel] at hj
  rw [show (sx_cell.get 6).2.2.2.1 = 0 from by decide +kernel] at hlo
  rw [show (sx_cell.get 6).2.2.2.2.1 = 255 from by decide +kernel] at hhi
  have hy : A 6 j = y := hl rfl
  have n0 : 0 ≤ (-1) + (1 * γ 18595 + 0) := hn _ (List.Mem.head _)
  have n1 : 0 ≤ 1 + ((-1) * γ 18595 + 0) := hn _ (List.Mem.tail _ (List.Mem.head _))
  have n2 : 0 ≤ (-3) + (1 * (j : Int) + 0) := hn _ (List.Mem.tail _ (List.Mem.tail _ (List.Mem.head _)))
  have n3 : 0 ≤ 3 + ((-1) * (j : Int) + 0) := hn _ (List.Mem.tail _ (List.Mem.tail _ (List.Mem.tail _ (List.Mem.head _))))
  clear hn
  obtain ⟨g0, g1, g2, g3, g4, g5, g6, g7, g8, g9, g10, g11, g12, g13, g14, g15, g16, g17, g18, g19, g20, g21, g22, g23, g24, g25, g26, g27, g28, g29, g30, g31, g32, g33, g34, g35, g36⟩ := id hG
  have r_AP3 := sx_gr_AP3 hR
  have r_QM := sx_gr_QM hR
  have hQ : γ 18595 = 1 := by omega
  obtain ⟨t0, t1, t2, t3, t4, t5, t6, t7⟩ := g0
  have e : j = 3 := by omega
  subst e
  exact sx_q_l_AP3_0 hG (by omega)
theorem sx_p_l_AP4 : sx_okr sx_HH false 6 sx_r_l_AP4 := by
  intro γ A j y hG hR hj hlo hhi hl hn
  rw [show (sx_cell.get 6).2.2.1 = 8 from by decide +kernel] at hj
  rw [show (sx_cell.get 6).2.2.2.1 = 0 from by decide +kernel] at hlo
  rw [show (sx_cell.get 6).2.2.2.2.1 = 255 from by decide +kernel] at hhi
  have hy : A 6 j = y := hl rfl
  have n0 : 0 ≤ (-1) + (1 * γ 18595 + 0) := hn _ (List.Mem.head _)
  have n1 : 0 ≤ 1 + ((-1) * γ 18595 + 0) := hn _ (List.Mem.tail _ (List.Mem.head _))
  have n2 : 0 ≤ (-4) + (1 * (j : Int) + 0) := hn _ (List.Mem.tail _ (List.Mem.tail _ (List.Mem.head _)))
  have n3 : 0 ≤ 4 + ((-1) * (j : Int) + 0) := hn _ (List.Mem.tail _ (List.Mem.tail _ (List.Mem.tail _ (List.Mem.head _))))
  clear hn
  obtain ⟨g0, g1, g2, g3, g4, g5, g6, g7, g8, g9, g10, g11, g12, g13, g14, g15, g16, g17, g18, g19, g20, g21, g22, g23, g24, g25, g26, g27, g28, g29, g30, g31, g32, g33, g34, g35, g36⟩ := id hG
  have r_AP4 := sx_gr_AP4 hR
  have r_QM := sx_gr_QM hR
  have hQ : γ 18595 = 1 := by omega
  obtain ⟨t0, t1, t2, t3, t4, t5, t6, t7⟩ := g0
  have e : j = 4 := by omega
  subst e
  exact sx_q_l_AP4_0 hG (by omega)
theorem sx_p_l_AP5 : sx_okr sx_HH false 6 sx_r_l_AP5 := by
  intro γ A j y hG hR hj hlo hhi hl hn
  rw [show (sx_cell.get 6).2.2.1 = 8 from by decide +kernel] at hj
  rw [show (sx_cell.get 6).2.2.2.1 = 0 from by decide +kernel] at hlo
  rw [show (sx_cell.get 6).2.2.2.2.1 = 255 from by decide +kernel] at hhi
  have hy : A 6 j = y := hl rfl
  have n0 : 0 ≤ (-1) + (1 * γ 18595 + 0) := hn _ (List.Mem.head _)
  have n1 : 0 ≤ 1 + ((-1) * γ 18595 + 0) := hn _ (List.Mem.tail _ (List.Mem.head _))
  have n2 : 0 ≤ (-5) + (1 * (j : Int) + 0) := hn _ (List.Mem.tail _ (List.Mem.tail _ (List.Mem.head _)))
  have n3 : 0 ≤ 5 + ((-1) * (j : Int) + 0) := hn _ (List.Mem.tail _ (List.Mem.tail _ (List.Mem.tail _ (List.Mem.head _))))
  clear hn
  obtain ⟨g0, g1, g2, g3, g4, g5, g6, g7, g8, g9, g10, g11, g12, g13, g14, g15, g16, g17, g18, g19, g20, g21, g22, g23, g24, g25, g26, g27, g28, g29, g30, g31, g32, g33, g34, g35, g36⟩ := id hG
  have r_AP5 := sx_gr_AP5 hR
  have r_QM := sx_gr_QM hR
  have hQ : γ 18595 = 1 := by omega
  obtain ⟨t0, t1, t2, t3, t4, t5, t6, t7⟩ := g0
  have e : j = 5 := by omega
  subst e
  exact sx_q_l_AP5_0 hG (by omega)
theorem sx_p_l_AP6 : sx_okr sx_HH false 6 sx_r_l_AP6 := by
  intro γ A j y hG hR hj hlo hhi hl hn
  rw [show (sx_cell.get 6).2.2.1 = 8 from by decide +kernel] at hj
  rw [show (sx_cell.get 6).2.2.2.1 = 0 from by decide +kernel] at hlo
  rw [show (sx_cell.get 6).2.2.2.2.1 = 255 from by decide +kernel] at hhi
  have hy : A 6 j = y := hl rfl
  have n0 : 0 ≤ (-1) + (1 * γ 18595 + 0) := hn _ (List.Mem.head _)
  have n1 : 0 ≤ 1 + ((-1) * γ 18595 + 0) := hn _ (List.Mem.tail _ (List.Mem.head _))
  have n2 : 0 ≤ (-6) + (1 * (j : Int) + 0) := hn _ (List.Mem.tail _ (List.Mem.tail _ (List.Mem.head _)))
  have n3 : 0 ≤ 6 + ((-1) * (j : Int) + 0) := hn _ (List.Mem.tail _ (List.Mem.tail _ (List.Mem.tail _ (List.Mem.head _))))
  clear hn
  obtain ⟨g0, g1, g2, g3, g4, g5, g6, g7, g8, g9, g10, g11, g12, g13, g14, g15, g16, g17, g18, g19, g20, g21, g22, g23, g24, g25, g26, g27, g28, g29, g30, g31, g32, g33, g34, g35, g36⟩ := id hG
  have r_AP6 := sx_gr_AP6 hR
  have r_QM := sx_gr_QM hR
  have hQ : γ 18595 = 1 := by omega
  obtain ⟨t0, t1, t2, t3, t4, t5, t6, t7⟩ := g0
  have e : j = 6 := by omega
  subst e
  exact sx_q_l_AP6_0 hG (by omega)
theorem sx_p_l_AP7 : sx_okr sx_HH false 6 sx_r_l_AP7 := by
  intro γ A j y hG hR hj hlo hhi hl hn
  rw [show (sx_cell.get 6).2.2.1 = 8 from by decide +kernel] at hj
  rw [show (sx_cell.get 6).2.2.2.1 = 0 from by decide +kernel] at hlo
  rw [show (sx_cell.get 6).2.2.2.2.1 = 255 from by decide +kernel] at hhi
  have hy : A 6 j = y := hl rfl
  have n0 : 0 ≤ (-1) + (1 * γ 18595 + 0) := hn _ (List.Mem.head _)
  have n1 : 0 ≤ 1 + ((-1) * γ 18595 + 0) := hn _ (List.Mem.tail _ (List.Mem.head _))
  have n2 : 0 ≤ (-7) + (1 * (j : Int) + 0) := hn _ (List.Mem.tail _ (List.Mem.tail _ (List.Mem.head _)))
  have n3 : 0 ≤ 7 + ((-1) * (j : Int) + 0) := hn _ (List.Mem.tail _ (List.Mem.tail _ (List.Mem.tail _ (List.Mem.head _))))
  clear hn
  obtain ⟨g0, g1, g2, g3, g4, g5, g6, g7, g8, g9, g10, g11, g12, g13, g14, g15, g16, g17, g18, g19, g20, g21, g22, g23, g24, g25, g26, g27, g28, g29, g30, g31, g32, g33, g34, g35, g36⟩ := id hG
  have r_AP7 := sx_gr_AP7 hR
  have r_QM := sx_gr_QM hR
  have hQ : γ 18595 = 1 := by omega
  obtain ⟨t0, t1, t2, t3, t4, t5, t6, t7⟩ := g0
  have e : j = 7 := by omega
  subst e
  exact sx_q_l_AP7_0 hG (by omega)
theorem sx_p_l_APm : sx_okr sx_HH false 6 sx_r_l_APm := by
  intro γ A j y hG hR hj hlo hhi hl hn
  rw [show (sx_cell.get 6).2.2.1 = 8 from by decide +kernel] at hj
  rw [show (sx_cell.get 6).2.2.2.1 = 0 from by decide +kernel] at hlo
  rw [show (sx_cell.get 6).2.2.2.2.1 = 255 from by decide +kernel] at hhi
  have hy : A 6 j = y := hl rfl
  have n0 : 0 ≤ (-2) + (1 * γ 18595 + 0) := hn _ (List.Mem.head _)
  have n1 : 0 ≤ 2 + ((-1) * γ 18595 + 0) := hn _ (List.Mem.tail _ (List.Mem.head _))
  clear hn
  obtain ⟨g0, g1, g2, g3, g4, g5, g6, g7, g8, g9, g10, g11, g12, g13, g14, g15, g16, g17, g18, g19, g20, g21, g22, g23, g24, g25, g26, g27, g28, g29, g30, g31, g32, g33, g34, g35, g36⟩ := id hG
  have r_AP0 := sx_gr_AP0 hR
  have r_AP1 := sx_gr_AP1 hR
  have r_AP2 := sx_gr_AP2 hR
  have r_AP3 := sx_gr_AP3 hR
  have r_AP4 := sx_gr_AP4 hR
  have r_AP5 := sx_gr_AP5 hR
  have r_AP6 := sx_gr_AP6 hR
  have r_AP7 := sx_gr_AP7 hR
  have r_QM := sx_gr_QM hR
  obtain ⟨t0, t1, t2, t3, t4, t5, t6, t7⟩ := g0
  rcases (show j = 0 ∨ j = 1 ∨ j = 2 ∨ j = 3 ∨ j = 4 ∨ j = 5 ∨ j = 6 ∨ j = 7 by omega) with rfl | rfl | rfl | rfl | rfl | rfl | rfl | rfl
  · exact sx_q_l_APm_0 hG (by omega) (by omega) (by omega)
  · exact sx_q_l_APm_1 hG (by omega) (by omega) (by omega)
  · exact sx_q_l_APm_2 hG (by omega) (by omega) (by omega)
  · exact sx_q_l_APm_3 hG (by omega) (by omega) (by omega)
  · exact sx_q_l_APm_4 hG (by omega) (by omega) (by omega)
  · exact sx_q_l_APm_5 hG (by omega) (by omega) (by omega)
  · exact sx_q_l_APm_6 hG (by omega) (by omega) (by omega)
  · exact sx_q_l_APm_7 hG (by omega) (by omega) (by omega)
theorem sx_p_l_APz : sx_okr sx_HH false 6 sx_r_l_APz := by
  intro γ A j y hG hR hj hlo hhi hl hn
  rw [show (sx_cell.get 6).2.2.1 = 8 from by decide +kernel] at hj
  rw [show (sx_cell.get 6).2.2.2.1 = 0 from by decide +kernel] at hlo
  rw [show (sx_cell.get 6).2.2.2.2.1 = 255 from by decide +kernel] at hhi
  have hy : A 6 j = y := hl rfl
  clear hn
  obtain ⟨g0, g1, g2, g3, g4, g5, g6, g7, g8, g9, g10, g11, g12, g13, g14, g15, g16, g17, g18, g19, g20, g21, g22, g23, g24, g25, g26, g27, g28, g29, g30, g31, g32, g33, g34, g35, g36⟩ := id hG
  exact sx_q_l_APz_0 hG
theorem sx_p_l_MA0 : sx_okr sx_HH false 106 sx_r_l_MA0 := by
  intro γ A j y hG hR hj hlo hhi hl hn
  rw [show (sx_cell.get 106).2.2.1 = 12 from by decide +kernel] at hj
  rw [show (sx_cell.get 106).2.2.2.1 = 0 from by decide +kernel] at hlo
  rw [show (sx_cell.get 106).2.2.2.2.1 = 7 from by decide +kernel] at hhi
  have hy : A 106 j = y := hl rfl
  have n0 : 0 ≤ (-1) + (1 * γ 18595 + 0) := hn _ (List.Mem.head _)
  have n1 : 0 ≤ 1 + ((-1) * γ 18595 + 0) := hn _ (List.Mem.tail _ (List.Mem.head _))
  have n2 : 0 ≤ 0 + (1 * (j : Int) + 0) := hn _ (List.Mem.tail _ (List.Mem.tail _ (List.Mem.head _)))
  have n3 : 0 ≤ 0 + ((-1) * (j : Int) + 0) := hn _ (List.Mem.tail _ (List.Mem.tail _ (List.Mem.tail _ (List.Mem.head _))))
  clear hn
  obtain ⟨g0, g1, g2, g3, g4, g5, g6, g7, g8, g9, g10, g11, g12, g13, g14, g15, g16, g17, g18, g19, g20, g21, g22, g23, g24, g25, g26, g27, g28, g29, g30, g31, g32, g33, g34, g35, g36⟩ := id hG
  have r_MA0 := sx_gr_MA0 hR
  have r_QM := sx_gr_QM hR
  have hQ : γ 18595 = 1 := by omega
  obtain ⟨t0, t1, t2, t3, t4, t5, t6, t7, t8, t9, t10, t11⟩ := g2
  have e : j = 0 := by omega
  subst e
  exact sx_q_l_MA0_0 hG (by omega)
theorem sx_p_l_MA1 : sx_okr sx_HH false 106 sx_r_l_MA1 := by
  intro γ A j y hG hR hj hlo hhi hl hn
  rw [show (sx_cell.get 106).2.2.1 = 12 from by decide +kernel] at hj
  rw [show (sx_cell.get 106).2.2.2.1 = 0 from by decide +kernel] at hlo
  rw [show (sx_cell.get 106).2.2.2.2.1 = 7 from by decide +kernel] at hhi
  have hy : A 106 j = y := hl rfl
  have n0 : 0 ≤ (-1) + (1 * γ 18595 + 0) := hn _ (List.Mem.head _)
  have n1 : 0 ≤ 1 + ((-1) * γ 18595 + 0) := hn _ (List.Mem.tail _ (List.Mem.head _))
  have n2 : 0 ≤ (-1) + (1 * (j : Int) + 0) := hn _ (List.Mem.tail _ (List.Mem.tail _ (List.Mem.head _)))
  have n3 : 0 ≤ 1 + ((-1) * (j : Int) + 0) := hn _ (List.Mem.tail _ (List.Mem.tail _ (List.Mem.tail _ (List.Mem.head _))))
  clear hn
  obtain ⟨g0, g1, g2, g3, g4, g5, g6, g7, g8, g9, g10, g11, g12, g13, g14, g15, g16, g17, g18, g19, g20, g21, g22, g23, g24, g25, g26, g27, g28, g29, g30, g31, g32, g33, g34, g35, g36⟩ := id hG
  have r_MA1 := sx_gr_MA1 hR
  have r_QM := sx_gr_QM hR
  have hQ : γ 18595 = 1 := by omega
  obtain ⟨t0, t1, t2, t3, t4, t5, t6, t7, t8, t9, t10, t11⟩ := g2
  have e : j = 1 := by omega
  subst e
  exact sx_q_l_MA1_0 hG (by omega)
theorem sx_p_l_MA2 : sx_okr sx_HH false 106 sx_r_l_MA2 := by
  intro γ A j y hG hR hj hlo hhi hl hn
  rw [show (sx_cell.get 106).2.2.1 = 12 from by decide +kernel] at hj
  rw [show (sx_cell.get 106).2.2.2.1 = 0 from by decide +kernel] at hlo
  rw [show (sx_cell.get 106).2.2.2.2.1 = 7 from by decide +kernel] at hhi
  have hy : A 106 j = y := hl rfl
  have n0 : 0 ≤ (-1) + (1 * γ 18595 + 0) := hn _ (List.Mem.head _)
  have n1 : 0 ≤ 1 + ((-1) * γ 18595 + 0) := hn _ (List.Mem.tail _ (List.Mem.head _))
  have n2 : 0 ≤ (-2) + (1 * (j : Int) + 0) := hn _ (List.Mem.tail _ (List.Mem.tail _ (List.Mem.head _)))
  have n3 : 0 ≤ 2 + ((-1) * (j : Int) + 0) := hn _ (List.Mem.tail _ (List.Mem.tail _ (List.Mem.tail _ (List.Mem.head _))))
  clear hn
  obtain ⟨g0, g1, g2, g3, g4, g5, g6, g7, g8, g9, g10, g11, g12, g13, g14, g15, g16, g17, g18, g19, g20, g21, g22, g23, g24, g25, g26, g27, g28, g29, g30, g31, g32, g33, g34, g35, g36⟩ := id hG
  have r_MA2 := sx_gr_MA2 hR
  have r_QM := sx_gr_QM hR
  have hQ : γ 18595 = 1 := by omega
  obtain ⟨t0, t1, t2, t3, t4, t5, t6, t7, t8, t9, t10, t11⟩ := g2
  have e : j = 2 := by omega
  subst e
  exact sx_q_l_MA2_0 hG (by omega)
theorem sx_p_l_MA3 : sx_okr sx_HH false 106 sx_r_l_MA3 := by
  intro γ A j y hG hR hj hlo hhi hl hn
  rw [show (sx_cell.get 106).2.2.1 = 12 from by decide +kernel] at hj
  rw [show (sx_cell.get 106).2.2.2.1 = 0 from by decide +kernel] at hlo
  rw [show (sx_cell.get 106).2.2.2.2.1 = 7 from by decide +kernel] at hhi
  have hy : A 106 j = y := hl rfl
  have n0 : 0 ≤ (-1) + (1 * γ 18595 + 0) := hn _ (List.Mem.head _)
  have n1 : 0 ≤ 1 + ((-1) * γ 18595 + 0) := hn _ (List.Mem.tail _ (List.Mem.head _))
  have n2 : 0 ≤ (-3) + (1 * (j : Int) + 0) := hn _ (List.Mem.tail _ (List.Mem.tail _ (List.Mem.head _)))
  have n3 : 0 ≤ 3 + ((-1) * (j : Int) + 0) := hn _ (List.Mem.tail _ (List.Mem.tail _ (List.Mem.tail _ (List.Mem.head _))))
  clear hn
  obtain ⟨g0, g1, g2, g3, g4, g5, g6, g7, g8, g9, g10, g11, g12, g13, g14, g15, g16, g17, g18, g19, g20, g21, g22, g23, g24, g25, g26, g27, g28, g29, g30, g31, g32, g33, g34, g35, g36⟩ := id hG
  have r_MA3 := sx_gr_MA3 hR
  have r_QM := sx_gr_QM hR
  have hQ : γ 18595 = 1 := by omega
  obtain ⟨t0, t1, t2, t3, t4, t5, t6, t7, t8, t9, t10, t11⟩ := g2
  have e : j = 3 := by omega
  subst e
  exact sx_q_l_MA3_0 hG (by omega)
theorem sx_p_l_MA4 : sx_okr sx_HH false 106 sx_r_l_MA4 := by
  intro γ A j y hG hR hj hlo hhi hl hn
  rw [show (sx_cell.get 106).2.2.1 = 12 from by decide +kernel] at hj
  rw [show (sx_cell.get 106).2.2.2.1 = 0 from by decide +kernel] at hlo
  rw [show (sx_cell.get 106).2.2.2.2.1 = 7 from by decide +kernel] at hhi
  have hy : A 106 j = y := hl rfl
  have n0 : 0 ≤ (-1) + (1 * γ 18595 + 0) := hn _ (List.Mem.head _)
  have n1 : 0 ≤ 1 + ((-1) * γ 18595 + 0) := hn _ (List.Mem.tail _ (List.Mem.head _))
  have n2 : 0 ≤ (-4) + (1 * (j : Int) + 0) := hn _ (List.Mem.tail _ (List.Mem.tail _ (List.Mem.head _)))
  have n3 : 0 ≤ 4 + ((-1) * (j : Int) + 0) := hn _ (List.Mem.tail _ (List.Mem.tail _ (List.Mem.tail _ (List.Mem.head _))))
  clear hn
  obtain ⟨g0, g1, g2, g3, g4, g5, g6, g7, g8, g9, g10, g11, g12, g13, g14, g15, g16, g17, g18, g19, g20, g21, g22, g23, g24, g25, g26, g27, g28, g29, g30, g31, g32, g33, g34, g35, g36⟩ := id hG
  have r_MA4 := sx_gr_MA4 hR
  have r_QM := sx_gr_QM hR
  have hQ : γ 18595 = 1 := by omega
  obtain ⟨t0, t1, t2, t3, t4, t5, t6, t7, t8, t9, t10, t11⟩ := g2
  have e : j = 4 := by omega
  subst e
  exact sx_q_l_MA4_0 hG (by omega)
theorem sx_p_l_MA5 : sx_okr sx_HH false 106 sx_r_l_MA5 := by
  intro γ A j y hG hR hj hlo hhi hl hn
  rw [show (sx_cell.get 106).2.2.1 = 12 from by decide +kernel] at hj
  rw [show (sx_cell.get 106).2.2.2.1 = 0 from by decide +kernel] at hlo
  rw [show (sx_cell.get 106).2.2.2.2.1 = 7 from by decide +kernel] at hhi
  have hy : A 106 j = y := hl rfl
  have n0 : 0 ≤ (-1) + (1 * γ 18595 + 0) := hn _ (List.Mem.head _)
  have n1 : 0 ≤ 1 + ((-1) * γ 18595 + 0) := hn _ (List.Mem.tail _ (List.Mem.head _))
  have n2 : 0 ≤ (-5) + (1 * (j : Int) + 0) := hn _ (List.Mem.tail _ (List.Mem.tail _ (List.Mem.head _)))
  have n3 : 0 ≤ 5 + ((-1) * (j : Int) + 0) := hn _ (List.Mem.tail _ (List.Mem.tail _ (List.Mem.tail _ (List.Mem.head _))))
  clear hn
  obtain ⟨g0, g1, g2, g3, g4, g5, g6, g7, g8, g9, g10, g11, g12, g13, g14, g15, g16, g17, g18, g19, g20, g21, g22, g23, g24, g25, g26, g27, g28, g29, g30, g31, g32, g33, g34, g35, g36⟩ := id hG
  have r_MA5 := sx_gr_MA5 hR
  have r_QM := sx_gr_QM hR
  have hQ : γ 18595 = 1 := by omega
  obtain ⟨t0, t1, t2, t3, t4, t5, t6, t7, t8, t9, t10, t11⟩ := g2
  have e : j = 5 := by omega
  subst e
  exact sx_q_l_MA5_0 hG (by omega)
theorem sx_p_l_MA6 : sx_okr sx_HH false 106 sx_r_l_MA6 := by
  intro γ A j y hG hR hj hlo hhi hl hn
  rw [show (sx_cell.get 106).2.2.1 = 12 from by decide +kernel] at hj
  rw [show (sx_cell.get 106).2.2.2.1 = 0 from by decide +kernel] at hlo
  rw [show (sx_cell.get 106).2.2.2.2.1 = 7 from by decide +kernel] at hhi
  have hy : A 106 j = y := hl rfl
  have n0 : 0 ≤ (-1) + (1 * γ 18595 + 0) := hn _ (List.Mem.head _)
  have n1 : 0 ≤ 1 + ((-1) * γ 18595 + 0) := hn _ (List.Mem.tail _ (List.Mem.head _))
  have n2 : 0 ≤ (-6) + (1 * (j : Int) + 0) := hn _ (List.Mem.tail _ (List.Mem.tail _ (List.Mem.head _)))
  have n3 : 0 ≤ 6 + ((-1) * (j : Int) + 0) := hn _ (List.Mem.tail _ (List.Mem.tail _ (List.Mem.tail _ (List.Mem.head _))))
  clear hn
  obtain ⟨g0, g1, g2, g3, g4, g5, g6, g7, g8, g9, g10, g11, g12, g13, g14, g15, g16, g17, g18, g19, g20, g21, g22, g23, g24, g25, g26, g27, g28, g29, g30, g31, g32, g33, g34, g35, g36⟩ := id hG
  have r_MA6 := sx_gr_MA6 hR
  have r_QM := sx_gr_QM hR
  have hQ : γ 18595 = 1 := by omega
  obtain ⟨t0, t1, t2, t3, t4, t5, t6, t7, t8, t9, t10, t11⟩ := g2
  have e : j = 6 := by omega
  subst e
  exact sx_q_l_MA6_0 hG (by omega)
theorem sx_p_l_MA7 : sx_okr sx_HH false 106 sx_r_l_MA7 := by
  intro γ A j y hG hR hj hlo hhi hl hn
  rw [show (sx_cell.get 106).2.2.1 = 12 from by decide +kernel] at hj
  rw [show (sx_cell.get 106).2.2.2.1 = 0 from by decide +kernel] at hlo
  rw [show (sx_cell.get 106).2.2.2.2.1 = 7 from by decide +kernel] at hhi
  have hy : A 106 j = y := hl rfl
  have n0 : 0 ≤ (-1) + (1 * γ 18595 + 0) := hn _ (List.Mem.head _)
  have n1 : 0 ≤ 1 + ((-1) * γ 18595 + 0) := hn _ (List.Mem.tail _ (List.Mem.head _))
  have n2 : 0 ≤ (-7) + (1 * (j : Int) + 0) := hn _ (List.Mem.tail _ (List.Mem.tail _ (List.Mem.head _)))
  have n3 : 0 ≤ 7 + ((-1) * (j : Int) + 0) := hn _ (List.Mem.tail _ (List.Mem.tail _ (List.Mem.tail _ (List.Mem.head _))))
  clear hn
  obtain ⟨g0, g1, g2, g3, g4, g5, g6, g7, g8, g9, g10, g11, g12, g13, g14, g15, g16, g17, g18, g19, g20, g21, g22, g23, g24, g25, g26, g27, g28, g29, g30, g31, g32, g33, g34, g35, g36⟩ := id hG
  have r_MA7 := sx_gr_MA7 hR
  have r_QM := sx_gr_QM hR
  have hQ : γ 18595 = 1 := by omega
  obtain ⟨t0, t1, t2, t3, t4, t5, t6, t7, t8, t9, t10, t11⟩ := g2
  have e : j = 7 := by omega
  subst e
  exact sx_q_l_MA7_0 hG (by omega)
theorem sx_p_l_MA8 : sx_okr sx_HH false 106 sx_r_l_MA8 := by
  intro γ A j y hG hR hj hlo hhi hl hn
  rw [show (sx_cell.get 106).2.2.1 = 12 from by decide +kernel] at hj
  rw [show (sx_cell.get 106).2.2.2.1 = 0 from by decide +kernel] at hlo
  rw [show (sx_cell.get 106).2.2.2.2.1 = 7 from by decide +kernel] at hhi
  have hy : A 106 j = y := hl rfl
  have n0 : 0 ≤ (-1) + (1 * γ 18595 + 0) := hn _ (List.Mem.head _)
  have n1 : 0 ≤ 1 + ((-1) * γ 18595 + 0) := hn _ (List.Mem.tail _ (List.Mem.head _))
  have n2 : 0 ≤ (-8) + (1 * (j : Int) + 0) := hn _ (List.Mem.tail _ (List.Mem.tail _ (List.Mem.head _)))
  have n3 : 0 ≤ 8 + ((-1) * (j : Int) + 0) := hn _ (List.Mem.tail _ (List.Mem.tail _ (List.Mem.tail _ (List.Mem.head _))))
  clear hn
  obtain ⟨g0, g1, g2, g3, g4, g5, g6, g7, g8, g9, g10, g11, g12, g13, g14, g15, g16, g17, g18, g19, g20, g21, g22, g23, g24, g25, g26, g27, g28, g29, g30, g31, g32, g33, g34, g35, g36⟩ := id hG
  have r_MA8 := sx_gr_MA8 hR
  have r_QM := sx_gr_QM hR
  have hQ : γ 18595 = 1 := by omega
  obtain ⟨t0, t1, t2, t3, t4, t5, t6, t7, t8, t9, t10, t11⟩ := g2
  have e : j = 8 := by omega
  subst e
  exact sx_q_l_MA8_0 hG (by omega)
theorem sx_p_l_MA9 : sx_okr sx_HH false 106 sx_r_l_MA9 := by
  intro γ A j y hG hR hj hlo hhi hl hn
  rw [show (sx_cell.get 106).2.2.1 = 12 from by decide +kernel] at hj
  rw [show (sx_cell.get 106).2.2.2.1 = 0 from by decide +kernel] at hlo
  rw [show (sx_cell.get 106).2.2.2.2.1 = 7 from by decide +kernel] at hhi
  have hy : A 106 j = y := hl rfl
  have n0 : 0 ≤ (-1) + (1 * γ 18595 + 0) := hn _ (List.Mem.head _)
  have n1 : 0 ≤ 1 + ((-1) * γ 18595 + 0) := hn _ (List.Mem.tail _ (List.Mem.head _))
  have n2 : 0 ≤ (-9) + (1 * (j : Int) + 0) := hn _ (List.Mem.tail _ (List.Mem.tail _ (List.Mem.head _)))
  have n3 : 0 ≤ 9 + ((-1) * (j : Int) + 0) := hn _ (List.Mem.tail _ (List.Mem.tail _ (List.Mem.tail _ (List.Mem.head _))))
  clear hn
  obtain ⟨g0, g1, g2, g3, g4, g5, g6, g7, g8, g9, g10, g11, g12, g13, g14, g15, g16, g17, g18, g19, g20, g21, g22, g23, g24, g25, g26, g27, g28, g29, g30, g31, g32, g33, g34, g35, g36⟩ := id hG
  have r_MA9 := sx_gr_MA9 hR
  have r_QM := sx_gr_QM hR
  have hQ : γ 18595 = 1 := by omega
  obtain ⟨t0, t1, t2, t3, t4, t5, t6, t7, t8, t9, t10, t11⟩ := g2
  have e : j = 9 := by omega
  subst e
  exact sx_q_l_MA9_0 hG (by omega)
theorem sx_p_l_MA10 : sx_okr sx_HH false 106 sx_r_l_MA10 := by
  intro γ A j y hG hR hj hlo hhi hl hn
  rw [show (sx_cell.get 106).2.2.1 = 12 from by decide +kernel] at hj
  rw [show (sx_cell.get 106).2.2.2.1 = 0 from by decide +kernel] at hlo
  rw [show (sx_cell.get 106).2.2.2.2.1 = 7 from by decide +kernel] at hhi
  have hy : A 106 j = y := hl rfl
  have n0 : 0 ≤ (-1) + (1 * γ 18595 + 0) := hn _ (List.Mem.head _)
  have n1 : 0 ≤ 1 + ((-1) * γ 18595 + 0) := hn _ (List.Mem.tail _ (List.Mem.head _))
  have n2 : 0 ≤ (-10) + (1 * (j : Int) + 0) := hn _ (List.Mem.tail _ (List.Mem.tail _ (List.Mem.head _)))
  have n3 : 0 ≤ 10 + ((-1) * (j : Int) + 0) := hn _ (List.Mem.tail _ (List.Mem.tail _ (List.Mem.tail _ (List.Mem.head _))))
  clear hn
  obtain ⟨g0, g1, g2, g3, g4, g5, g6, g7, g8, g9, g10, g11, g12, g13, g14, g15, g16, g17, g18, g19, g20, g21, g22, g23, g24, g25, g26, g27, g28, g29, g30, g31, g32, g33, g34, g35, g36⟩ := id hG
  have r_MA10 := sx_gr_MA10 hR
  have r_QM := sx_gr_QM hR
  have hQ : γ 18595 = 1 := by omega
  obtain ⟨t0, t1, t2, t3, t4, t5, t6, t7, t8, t9, t10, t11⟩ := g2
  have e : j = 10 := by omega
  subst e
  exact sx_q_l_MA10_0 hG (by omega)
theorem sx_p_l_MA11 : sx_okr sx_HH false 106 sx_r_l_MA11 := by
  intro γ A j y hG hR hj hlo hhi hl hn
  rw [show (sx_cell.get 106).2.2.1 = 12 from by decide +kernel] at hj
  rw [show (sx_cell.get 106).2.2.2.1 = 0 from by decide +kernel] at hlo
  rw [show (sx_cell.get 106).2.2.2.2.1 = 7 from by decide +kernel] at hhi
  have hy : A 106 j = y := hl rfl
  have n0 : 0 ≤ (-1) + (1 * γ 18595 + 0) := hn _ (List.Mem.head _)
  have n1 : 0 ≤ 1 + ((-1) * γ 18595 + 0) := hn _ (List.Mem.tail _ (List.Mem.head _))
  have n2 : 0 ≤ (-11) + (1 * (j : Int) + 0) := hn _ (List.Mem.tail _ (List.Mem.tail _ (List.Mem.head _)))
  have n3 : 0 ≤ 11 + ((-1) * (j : Int) + 0) := hn _ (List.Mem.tail _ (List.Mem.tail _ (List.Mem.tail _ (List.Mem.head _))))
  clear hn
  obtain ⟨g0, g1, g2, g3, g4, g5, g6, g7, g8, g9, g10, g11, g12, g13, g14, g15, g16, g17, g18, g19, g20, g21, g22, g23, g24, g25, g26, g27, g28, g29, g30, g31, g32, g33, g34, g35, g36⟩ := id hG
  have r_MA11 := sx_gr_MA11 hR
  have r_QM := sx_gr_QM hR
  have hQ : γ 18595 = 1 := by omega
  obtain ⟨t0, t1, t2, t3, t4, t5, t6, t7, t8, t9, t10, t11⟩ := g2
  have e : j = 11 := by omega
  subst e
  exact sx_q_l_MA11_0 hG (by omega)
theorem sx_p_l_MAz : sx_okr sx_HH false 106 sx_r_l_MAz := by
  intro γ A j y hG hR hj hlo hhi hl hn
  rw [show (sx_cell.get 106).2.2.1 = 12 from by decide +kernel] at hj
  rw [show (sx_cell.get 106).2.2.2.1 = 0 from by decide +kernel] at hlo
  rw [show (sx_cell.get 106).2.2.2.2.1 = 7 from by decide +kernel] at hhi
  have hy : A 106 j = y := hl rfl
  clear hn
  obtain ⟨g0, g1, g2, g3, g4, g5, g6, g7, g8, g9, g10, g11, g12, g13, g14, g15, g16, g17, g18, g19, g20, g21, g22, g23, g24, g25, g26, g27, g28, g29, g30, g31, g32, g33, g34, g35, g36⟩ := id hG
  exact sx_q_l_MAz_0 hG
theorem sx_p_l_MB0 : sx_okr sx_HH false 107 sx_r_l_MB0 := by
  intro γ A j y hG hR hj hlo hhi hl hn
  rw [show (sx_cell.get 107).2.2.1 = 12 from by decide +kernel] at hj
  rw [show (sx_cell.get 107).2.2.2.1 = 0 from by decide +kernel] at hlo
  rw [show (sx_cell.get 107).2.2.2.2.1 = 7 from by decide +kernel] at hhi
  have hy : A 107 j = y := hl rfl
  have n0 : 0 ≤ (-1) + (1 * γ 18595 + 0) := hn _ (List.Mem.head _)
  have n1 : 0 ≤ 1 + ((-1) * γ 18595 + 0) := hn _ (List.Mem.tail _ (List.Mem.head _))
  have n2 : 0 ≤ 0 + (1 * (j : Int) + 0) := hn _ (List.Mem.tail _ (List.Mem.tail _ (List.Mem.head _)))
  have n3 : 0 ≤ 0 + ((-1) * (j : Int) + 0) := hn _ (List.Mem.tail _ (List.Mem.tail _ (List.Mem.tail _ (List.Mem.head _))))
  clear hn
  obtain ⟨g0, g1, g2, g3, g4, g5, g6, g7, g8, g9, g10, g11, g12, g13, g14, g15, g16, g17, g18, g19, g20, g21, g22, g23, g24, g25, g26, g27, g28, g29, g30, g31, g32, g33, g34, g35, g36⟩ := id hG
  have r_MB0 := sx_gr_MB0 hR
  have r_QM := sx_gr_QM hR
  have hQ : γ 18595 = 1 := by omega
  obtain ⟨t0, t1, t2, t3, t4, t5, t6, t7, t8, t9, t10, t11⟩ := g3
  have e : j = 0 := by omega
  subst e
  exact sx_q_l_MB0_0 hG (by omega)
theorem sx_p_l_MB1 : sx_okr sx_HH false 107 sx_r_l_MB1 := by
  intro γ A j y hG hR hj hlo hhi hl hn
  rw [show (sx_cell.get 107).2.2.1 = 12 from by decide +kernel] at hj
  rw [show (sx_cell.get 107).2.2.2.1 = 0 from by decide +kernel] at hlo
  rw [show (sx_cell.get 107).2.2.2.2.1 = 7 from by decide +kernel] at hhi
  have hy : A 107 j = y := hl rfl
  have n0 : 0 ≤ (-1) + (1 * γ 18595 + 0) := hn _ (List.Mem.head _)
  have n1 : 0 ≤ 1 + ((-1) * γ 18595 + 0) := hn _ (List.Mem.tail _ (List.Mem.head _))
  have n2 : 0 ≤ (-1) + (1 * (j : Int) + 0) := hn _ (List.Mem.tail _ (List.Mem.tail _ (List.Mem.head _)))
  have n3 : 0 ≤ 1 + ((-1) * (j : Int) + 0) := hn _ (List.Mem.tail _ (List.Mem.tail _ (List.Mem.tail _ (List.Mem.head _))))
  clear hn
  obtain ⟨g0, g1, g2, g3, g4, g5, g6, g7, g8, g9, g10, g11, g12, g13, g14, g15, g16, g17, g18, g19, g20, g21, g22, g23, g24, g25, g26, g27, g28, g29, g30, g31, g32, g33, g34, g35, g36⟩ := id hG
  have r_MB1 := sx_gr_MB1 hR
  have r_QM := sx_gr_QM hR
  have hQ : γ 18595 = 1 := by omega
  obtain ⟨t0, t1, t2, t3, t4, t5, t6, t7, t8, t9, t10, t11⟩ := g3
  have e : j = 1 := by omega
  subst e
  exact sx_q_l_MB1_0 hG (by omega)
theorem sx_p_l_MB2 : sx_okr sx_HH false 107 sx_r_l_MB2 := by
  intro γ A j y hG hR hj hlo hhi hl hn
  rw [show (sx_cell.get 107).2.2.1 = 12 from by decide +kernel] at hj
  rw [show (sx_cell.get 107).2.2.2.1 = 0 from by decide +kernel] at hlo
  rw [show (sx_cell.get 107).2.2.2.2.1 = 7 from by decide +kernel] at hhi
  have hy : A 107 j = y := hl rfl
  have n0 : 0 ≤ (-1) + (1 * γ 18595 + 0) := hn _ (List.Mem.head _)
  have n1 : 0 ≤ 1 + ((-1) * γ 18595 + 0) := hn _ (List.Mem.tail _ (List.Mem.head _))
  have n2 : 0 ≤ (-2) + (1 * (j : Int) + 0) := hn _ (List.Mem.tail _ (List.Mem.tail _ (List.Mem.head _)))
  have n3 : 0 ≤ 2 + ((-1) * (j : Int) + 0) := hn _ (List.Mem.tail _ (List.Mem.tail _ (List.Mem.tail _ (List.Mem.head _))))
  clear hn
  obtain ⟨g0, g1, g2, g3, g4, g5, g6, g7, g8, g9, g10, g11, g12, g13, g14, g15, g16, g17, g18, g19, g20, g21, g22, g23, g24, g25, g26, g27, g28, g29, g30, g31, g32, g33, g34, g35, g36⟩ := id hG
  have r_MB2 := sx_gr_MB2 hR
  have r_QM := sx_gr_QM hR
  have hQ : γ 18595 = 1 := by omega
  obtain ⟨t0, t1, t2, t3, t4, t5, t6, t7, t8, t9, t10, t11⟩ := g3
  have e : j = 2 := by omega
  subst e
  exact sx_q_l_MB2_0 hG (by omega)
theorem sx_p_l_MB3 : sx_okr sx_HH false 107 sx_r_l_MB3 := by
  intro γ A j y hG hR hj hlo hhi hl hn
  rw [show (sx_cell.get 107).2.2.1 = 12 from by decide +kernel] at hj
  rw [show (sx_cell.get 107).2.2.2.1 = 0 from by decide +kernel] at hlo
  rw [show (sx_cell.get 107).2.2.2.2.1 = 7 from by decide +kernel] at hhi
  have hy : A 107 j = y := hl rfl
  have n0 : 0 ≤ (-1) + (1 * γ 18595 + 0) := hn _ (List.Mem.head _)
  have n1 : 0 ≤ 1 + ((-1) * γ 18595 + 0) := hn _ (List.Mem.tail _ (List.Mem.head _))
  have n2 : 0 ≤ (-3) + (1 * (j : Int) + 0) := hn _ (List.Mem.tail _ (List.Mem.tail _ (List.Mem.head _)))
  have n3 : 0 ≤ 3 + ((-1) * (j : Int) + 0) := hn _ (List.Mem.tail _ (List.Mem.tail _ (List.Mem.tail _ (List.Mem.head _))))
  clear hn
  obtain ⟨g0, g1, g2, g3, g4, g5, g6, g7, g8, g9, g10, g11, g12, g13, g14, g15, g16, g17, g18, g19, g20, g21, g22, g23, g24, g25, g26, g27, g28, g29, g30, g31, g32, g33, g34, g35, g36⟩ := id hG
  have r_MB3 := sx_gr_MB3 hR
  have r_QM := sx_gr_QM hR
  have hQ : γ 18595 = 1 := by omega
  obtain ⟨t0, t1, t2, t3, t4, t5, t6, t7, t8, t9, t10, t11⟩ := g3
  have e : j = 3 := by omega
  subst e
  exact sx_q_l_MB3_0 hG (by omega)
theorem sx_p_l_MB4 : sx_okr sx_HH false 107 sx_r_l_MB4 := by
  intro γ A j y hG hR hj hlo hhi hl hn
  rw [show (sx_cell.get 107).2.2.1 = 12 from by decide +kernel] at hj
  rw [show (sx_cell.get 107).2.2.2.1 = 0 from by decide +kernel] at hlo
  rw [show (sx_cell.get 107).2.2.2.2.1 = 7 from by decide +kernel] at hhi
  have hy : A 107 j = y := hl rfl
  have n0 : 0 ≤ (-1) + (1 * γ 18595 + 0) := hn _ (List.Mem.head _)
  have n1 : 0 ≤ 1 + ((-1) * γ 18595 + 0) := hn _ (List.Mem.tail _ (List.Mem.head _))
  have n2 : 0 ≤ (-4) + (1 * (j : Int) + 0) := hn _ (List.Mem.tail _ (List.Mem.tail _ (List.Mem.head _)))
  have n3 : 0 ≤ 4 + ((-1) * (j : Int) + 0) := hn _ (List.Mem.tail _ (List.Mem.tail _ (List.Mem.tail _ (List.Mem.head _))))
  clear hn
  obtain ⟨g0, g1, g2, g3, g4, g5, g6, g7, g8, g9, g10, g11, g12, g13, g14, g15, g16, g17, g18, g19, g20, g21, g22, g23, g24, g25, g26, g27, g28, g29, g30, g31, g32, g33, g34, g35, g36⟩ := id hG
  have r_MB4 := sx_gr_MB4 hR
  have r_QM := sx_gr_QM hR
  have hQ : γ 18595 = 1 := by omega
  obtain ⟨t0, t1, t2, t3, t4, t5, t6, t7, t8, t9, t10, t11⟩ := g3
  have e : j = 4 := by omega
  subst e
  exact sx_q_l_MB4_0 hG (by omega)
theorem sx_p_l_MB5 : sx_okr sx_HH false 107 sx_r_l_MB5 := by
  intro γ A j y hG hR hj hlo hhi hl hn
  rw [show (sx_cell.get 107).2.2.1 = 12 from by decide +kernel] at hj
  rw [show (sx_cell.get 107).2.2.2.1 = 0 from by decide +kernel] at hlo
  rw [show (sx_cell.get 107).2.2.2.2.1 = 7 from by decide +kernel] at hhi
  have hy : A 107 j = y := hl rfl
  have n0 : 0 ≤ (-1) + (1 * γ 18595 + 0) := hn _ (List.Mem.head _)
  have n1 : 0 ≤ 1 + ((-1) * γ 18595 + 0) := hn _ (List.Mem.tail _ (List.Mem.head _))
  have n2 : 0 ≤ (-5) + (1 * (j : Int) + 0) := hn _ (List.Mem.tail _ (List.Mem.tail _ (List.Mem.head _)))
  have n3 : 0 ≤ 5 + ((-1) * (j : Int) + 0) := hn _ (List.Mem.tail _ (List.Mem.tail _ (List.Mem.tail _ (List.Mem.head _))))
  clear hn
  obtain ⟨g0, g1, g2, g3, g4, g5, g6, g7, g8, g9, g10, g11, g12, g13, g14, g15, g16, g17, g18, g19, g20, g21, g22, g23, g24, g25, g26, g27, g28, g29, g30, g31, g32, g33, g34, g35, g36⟩ := id hG
  have r_MB5 := sx_gr_MB5 hR
  have r_QM := sx_gr_QM hR
  have hQ : γ 18595 = 1 := by omega
  obtain ⟨t0, t1, t2, t3, t4, t5, t6, t7, t8, t9, t10, t11⟩ := g3
  have e : j = 5 := by omega
  subst e
  exact sx_q_l_MB5_0 hG (by omega)
theorem sx_p_l_MB6 : sx_okr sx_HH false 107 sx_r_l_MB6 := by
  intro γ A j y hG hR hj hlo hhi hl hn
  rw [show (sx_cell.get 107).2.2.1 = 12 from by decide +kernel] at hj
  rw [show (sx_cell.get 107).2.2.2.1 = 0 from by decide +kernel] at hlo
  rw [show (sx_cell.get 107).2.2.2.2.1 = 7 from by decide +kernel] at hhi
  have hy : A 107 j = y := hl rfl
  have n0 : 0 ≤ (-1) + (1 * γ 18595 + 0) := hn _ (List.Mem.head _)
  have n1 : 0 ≤ 1 + ((-1) * γ 18595 + 0) := hn _ (List.Mem.tail _ (List.Mem.head _))
  have n2 : 0 ≤ (-6) + (1 * (j : Int) + 0) := hn _ (List.Mem.tail _ (List.Mem.tail _ (List.Mem.head _)))
  have n3 : 0 ≤ 6 + ((-1) * (j : Int) + 0) := hn _ (List.Mem.tail _ (List.Mem.tail _ (List.Mem.tail _ (List.Mem.head _))))
  clear hn
  obtain ⟨g0, g1, g2, g3, g4, g5, g6, g7, g8, g9, g10, g11, g12, g13, g14, g15, g16, g17, g18, g19, g20, g21, g22, g23, g24, g25, g26, g27, g28, g29, g30, g31, g32, g33, g34, g35, g36⟩ := id hG
  have r_MB6 := sx_gr_MB6 hR
  have r_QM := sx_gr_QM hR
  have hQ : γ 18595 = 1 := by omega
  obtain ⟨t0, t1, t2, t3, t4, t5, t6, t7, t8, t9, t10, t11⟩ := g3
  have e : j = 6 := by omega
  subst e
  exact sx_q_l_MB6_0 hG (by omega)
theorem sx_p_l_MB7 : sx_okr sx_HH false 107 sx_r_l_MB7 := by
  intro γ A j y hG hR hj hlo hhi hl hn
  rw [show (sx_cell.get 107).2.2.1 = 12 from by decide +kernel] at hj
  rw [show (sx_cell.get 107).2.2.2.1 = 0 from by decide +kernel] at hlo
  rw [show (sx_cell.get 107).2.2.2.2.1 = 7 from by decide +kernel] at hhi
  have hy : A 107 j = y := hl rfl
  have n0 : 0 ≤ (-1) + (1 * γ 18595 + 0) := hn _ (List.Mem.head _)
  have n1 : 0 ≤ 1 + ((-1) * γ 18595 + 0) := hn _ (List.Mem.tail _ (List.Mem.head _))
  have n2 : 0 ≤ (-7) + (1 * (j : Int) + 0) := hn _ (List.Mem.tail _ (List.Mem.tail _ (List.Mem.head _)))
  have n3 : 0 ≤ 7 + ((-1) * (j : Int) + 0) := hn _ (List.Mem.tail _ (List.Mem.tail _ (List.Mem.tail _ (List.Mem.head _))))
  clear hn
  obtain ⟨g0, g1, g2, g3, g4, g5, g6, g7, g8, g9, g10, g11, g12, g13, g14, g15, g16, g17, g18, g19, g20, g21, g22, g23, g24, g25, g26, g27, g28, g29, g30, g31, g32, g33, g34, g35, g36⟩ := id hG
  have r_MB7 := sx_gr_MB7 hR
  have r_QM := sx_gr_QM hR
  have hQ : γ 18595 = 1 := by omega
  obtain ⟨t0, t1, t2, t3, t4, t5, t6, t7, t8, t9, t10, t11⟩ := g3
  have e : j = 7 := by omega
  subst e
  exact sx_q_l_MB7_0 hG (by omega)
theorem sx_p_l_MB8 : sx_okr sx_HH false 107 sx_r_l_MB8 := by
  intro γ A j y hG hR hj hlo hhi hl hn
  rw [show (sx_cell.get 107).2.2.1 = 12 from by decide +kernel] at hj
  rw [show (sx_cell.get 107).2.2.2.1 = 0 from by decide +kernel] at hlo
  rw [show (sx_cell.get 107).2.2.2.2.1 = 7 from by decide +kernel] at hhi
  have hy : A 107 j = y := hl rfl
  have n0 : 0 ≤ (-1) + (1 * γ 18595 + 0) := hn _ (List.Mem.head _)
  have n1 : 0 ≤ 1 + ((-1) * γ 18595 + 0) := hn _ (List.Mem.tail _ (List.Mem.head _))
  have n2 : 0 ≤ (-8) + (1 * (j : Int) + 0) := hn _ (List.Mem.tail _ (List.Mem.tail _ (List.Mem.head _)))
  have n3 : 0 ≤ 8 + ((-1) * (j : Int) + 0) := hn _ (List.Mem.tail _ (List.Mem.tail _ (List.Mem.tail _ (List.Mem.head _))))
  clear hn
  obtain ⟨g0, g1, g2, g3, g4, g5, g6, g7, g8, g9, g10, g11, g12, g13, g14, g15, g16, g17, g18, g19, g20, g21, g22, g23, g24, g25, g26, g27, g28, g29, g30, g31, g32, g33, g34, g35, g36⟩ := id hG
  have r_MB8 := sx_gr_MB8 hR
  have r_QM := sx_gr_QM hR
  have hQ : γ 18595 = 1 := by omega
  obtain ⟨t0, t1, t2, t3, t4, t5, t6, t7, t8, t9, t10, t11⟩ := g3
  have e : j = 8 := by omega
  subst e
  exact sx_q_l_MB8_0 hG (by omega)
theorem sx_p_l_MB9 : sx_okr sx_HH false 107 sx_r_l_MB9 := by
  intro γ A j y hG hR hj hlo hhi hl hn
  rw [show (sx_cell.get 107).2.2.1 = 12 from by decide +kernel] at hj
  rw [show (sx_cell.get 107).2.2.2.1 = 0 from by decide +kernel] at hlo
  rw [show (sx_cell.get 107).2.2.2.2.1 = 7 from by decide +kernel] at hhi
  have hy : A 107 j = y := hl rfl
  have n0 : 0 ≤ (-1) + (1 * γ 18595 + 0) := hn _ (List.Mem.head _)
  have n1 : 0 ≤ 1 + ((-1) * γ 18595 + 0) := hn _ (List.Mem.tail _ (List.Mem.head _))
  have n2 : 0 ≤ (-9) + (1 * (j : Int) + 0) := hn _ (List.Mem.tail _ (List.Mem.tail _ (List.Mem.head _)))
  have n3 : 0 ≤ 9 + ((-1) * (j : Int) + 0) := hn _ (List.Mem.tail _ (List.Mem.tail _ (List.Mem.tail _ (List.Mem.head _))))
  clear hn
  obtain ⟨g0, g1, g2, g3, g4, g5, g6, g7, g8, g9, g10, g11, g12, g13, g14, g15, g16, g17, g18, g19, g20, g21, g22, g23, g24, g25, g26, g27, g28, g29, g30, g31, g32, g33, g34, g35, g36⟩ := id hG
  have r_MB9 := sx_gr_MB9 hR
  have r_QM := sx_gr_QM hR
  have hQ : γ 18595 = 1 := by omega
  obtain ⟨t0, t1, t2, t3, t4, t5, t6, t7, t8, t9, t10, t11⟩ := g3
  have e : j = 9 := by omega
  subst e
  exact sx_q_l_MB9_0 hG (by omega)
theorem sx_p_l_MB10 : sx_okr sx_HH false 107 sx_r_l_MB10 := by
  intro γ A j y hG hR hj hlo hhi hl hn
  rw [show (sx_cell.get 107).2.2.1 = 12 from by decide +kernel] at hj
  rw [show (sx_cell.get 107).2.2.2.1 = 0 from by decide +kernel] at hlo
  rw [show (sx_cell.get 107).2.2.2.2.1 = 7 from by decide +kernel] at hhi
  have hy : A 107 j = y := hl rfl
  have n0 : 0 ≤ (-1) + (1 * γ 18595 + 0) := hn _ (List.Mem.head _)
  have n1 : 0 ≤ 1 + ((-1) * γ 18595 + 0) := hn _ (List.Mem.tail _ (List.Mem.head _))
  have n2 : 0 ≤ (-10) + (1 * (j : Int) + 0) := hn _ (List.Mem.tail _ (List.Mem.tail _ (List.Mem.head _)))
  have n3 : 0 ≤ 10 + ((-1) * (j : Int) + 0) := hn _ (List.Mem.tail _ (List.Mem.tail _ (List.Mem.tail _ (List.Mem.head _))))
  clear hn
  obtain ⟨g0, g1, g2, g3, g4, g5, g6, g7, g8, g9, g10, g11, g12, g13, g14, g15, g16, g17, g18, g19, g20, g21, g22, g23, g24, g25, g26, g27, g28, g29, g30, g31, g32, g33, g34, g35, g36⟩ := id hG
  have r_MB10 := sx_gr_MB10 hR
  have r_QM := sx_gr_QM hR
  have hQ : γ 18595 = 1 := by omega
  obtain ⟨t0, t1, t2, t3, t4, t5, t6, t7, t8, t9, t10, t11⟩ := g3
  have e : j = 10 := by omega
  subst e
  exact sx_q_l_MB10_0 hG (by omega)
theorem sx_p_l_MB11 : sx_okr sx_HH false 107 sx_r_l_MB11 := by
  intro γ A j y hG hR hj hlo hhi hl hn
  rw [show (sx_cell.get 107).2.2.1 = 12 from by decide +kernel] at hj
  rw [show (sx_cell.get 107).2.2.2.1 = 0 from by decide +kernel] at hlo
  rw [show (sx_cell.get 107).2.2.2.2.1 = 7 from by decide +kernel] at hhi
  have hy : A 107 j = y := hl rfl
  have n0 : 0 ≤ (-1) + (1 * γ 18595 + 0) := hn _ (List.Mem.head _)
  have n1 : 0 ≤ 1 + ((-1) * γ 18595 + 0) := hn _ (List.Mem.tail _ (List.Mem.head _))
  have n2 : 0 ≤ (-11) + (1 * (j : Int) + 0) := hn _ (List.Mem.tail _ (List.Mem.tail _ (List.Mem.head _)))
  have n3 : 0 ≤ 11 + ((-1) * (j : Int) + 0) := hn _ (List.Mem.tail _ (List.Mem.tail _ (List.Mem.tail _ (List.Mem.head _))))
  clear hn
  obtain ⟨g0, g1, g2, g3, g4, g5, g6, g7, g8, g9, g10, g11, g12, g13, g14, g15, g16, g17, g18, g19, g20, g21, g22, g23, g24, g25, g26, g27, g28, g29, g30, g31, g32, g33, g34, g35, g36⟩ := id hG
  have r_MB11 := sx_gr_MB11 hR
  have r_QM := sx_gr_QM hR
  have hQ : γ 18595 = 1 := by omega
  obtain ⟨t0, t1, t2, t3, t4, t5, t6, t7, t8, t9, t10, t11⟩ := g3
  have e : j = 11 := by omega
  subst e
  exact sx_q_l_MB11_0 hG (by omega)
theorem sx_p_l_MBz : sx_okr sx_HH false 107 sx_r_l_MBz := by
  intro γ A j y hG hR hj hlo hhi hl hn
  rw [show (sx_cell.get 107).2.2.1 = 12 from by decide +kernel] at hj
  rw [show (sx_cell.get 107).2.2.2.1 = 0 from by decide +kernel] at hlo
  rw [show (sx_cell.get 107).2.2.2.2.1 = 7 from by decide +kernel] at hhi
  have hy : A 107 j = y := hl rfl
  clear hn
  obtain ⟨g0, g1, g2, g3, g4, g5, g6, g7, g8, g9, g10, g11, g12, g13, g14, g15, g16, g17, g18, g19, g20, g21, g22, g23, g24, g25, g26, g27, g28, g29, g30, g31, g32, g33, g34, g35, g36⟩ := id hG
  exact sx_q_l_MBz_0 hG
theorem sx_p_l_MT0 : sx_okr sx_HH false 108 sx_r_l_MT0 := by
  intro γ A j y hG hR hj hlo hhi hl hn
  rw [show (sx_cell.get 108).2.2.1 = 12 from by decide +kernel] at hj
  rw [show (sx_cell.get 108).2.2.2.1 = 0 from by decide +kernel] at hlo
  rw [show (sx_cell.get 108).2.2.2.2.1 = 1 from by decide +kernel] at hhi
  have hy : A 108 j = y := hl rfl
  have n0 : 0 ≤ (-1) + (1 * γ 18595 + 0) := hn _ (List.Mem.head _)
  have n1 : 0 ≤ 1 + ((-1) * γ 18595 + 0) := hn _ (List.Mem.tail _ (List.Mem.head _))
  have n2 : 0 ≤ 0 + (1 * (j : Int) + 0) := hn _ (List.Mem.tail _ (List.Mem.tail _ (List.Mem.head _)))
  have n3 : 0 ≤ 0 + ((-1) * (j : Int) + 0) := hn _ (List.Mem.tail _ (List.Mem.tail _ (List.Mem.tail _ (List.Mem.head _))))
  clear hn
  obtain ⟨g0, g1, g2, g3, g4, g5, g6, g7, g8, g9, g10, g11, g12, g13, g14, g15, g16, g17, g18, g19, g20, g21, g22, g23, g24, g25, g26, g27, g28, g29, g30, g31, g32, g33, g34, g35, g36⟩ := id hG
  have r_MT0 := sx_gr_MT0 hR
  have r_QM := sx_gr_QM hR
  have hQ : γ 18595 = 1 := by omega
  obtain ⟨t0, t1, t2, t3, t4, t5, t6, t7, t8, t9, t10, t11⟩ := g4
  have e : j = 0 := by omega
  subst e
  exact sx_q_l_MT0_0 hG (by omega)
theorem sx_p_l_MT1 : sx_okr sx_HH false 108 sx_r_l_MT1 := by
  intro γ A j y hG hR hj hlo hhi hl hn
  rw [show (sx_cell.get 108).2.2.1 = 12 from by decide +kernel] at hj
  rw [show (sx_cell.get 108).2.2.2.1 = 0 from by decide +kernel] at hlo
  rw [show (sx_cell.get 108).2.2.2.2.1 = 1 from by decide +kernel] at hhi
  have hy : A 108 j = y := hl rfl
  have n0 : 0 ≤ (-1) + (1 * γ 18595 + 0) := hn _ (List.Mem.head _)
  have n1 : 0 ≤ 1 + ((-1) * γ 18595 + 0) := hn _ (List.Mem.tail _ (List.Mem.head _))
  have n2 : 0 ≤ (-1) + (1 * (j : Int) + 0) := hn _ (List.Mem.tail _ (List.Mem.tail _ (List.Mem.head _)))
  have n3 : 0 ≤ 1 + ((-1) * (j : Int) + 0) := hn _ (List.Mem.tail _ (List.Mem.tail _ (List.Mem.tail _ (List.Mem.head _))))
  clear hn
  obtain ⟨g0, g1, g2, g3, g4, g5, g6, g7, g8, g9, g10, g11, g12, g13, g14, g15, g16, g17, g18, g19, g20, g21, g22, g23, g24, g25, g26, g27, g28, g29, g30, g31, g32, g33, g34, g35, g36⟩ := id hG
  have r_MT1 := sx_gr_MT1 hR
  have r_QM := sx_gr_QM hR
  have hQ : γ 18595 = 1 := by omega
  obtain ⟨t0, t1, t2, t3, t4, t5, t6, t7, t8, t9, t10, t11⟩ := g4
  have e : j = 1 := by omega
  subst e
  exact sx_q_l_MT1_0 hG (by omega)
theorem sx_p_l_MT2 : sx_okr sx_HH false 108 sx_r_l_MT2 := by
  intro γ A j y hG hR hj hlo hhi hl hn
  rw [show (sx_cell.get 108).2.2.1 = 12 from by decide +kernel] at hj
  rw [show (sx_cell.get 108).2.2.2.1 = 0 from by decide +kernel] at hlo
  rw [show (sx_cell.get 108).2.2.2.2.1 = 1 from by decide +kernel] at hhi
  have hy : A 108 j = y := hl rfl
  have n0 : 0 ≤ (-1) + (1 * γ 18595 + 0) := hn _ (List.Mem.head _)
  have n1 : 0 ≤ 1 + ((-1) * γ 18595 + 0) := hn _ (List.Mem.tail _ (List.Mem.head _))
  have n2 : 0 ≤ (-2) + (1 * (j : Int) + 0) := hn _ (List.Mem.tail _ (List.Mem.tail _ (List.Mem.head _)))
  have n3 : 0 ≤ 2 + ((-1) * (j : Int) + 0) := hn _ (List.Mem.tail _ (List.Mem.tail _ (List.Mem.tail _ (List.Mem.head _))))
  clear hn
  obtain ⟨g0, g1, g2, g3, g4, g5, g6, g7, g8, g9, g10, g11, g12, g13, g14, g15, g16, g17, g18, g19, g20, g21, g22, g23, g24, g25, g26, g27, g28, g29, g30, g31, g32, g33, g34, g35, g36⟩ := id hG
  have r_MT2 := sx_gr_MT2 hR
  have r_QM := sx_gr_QM hR
  have hQ : γ 18595 = 1 := by omega
  obtain ⟨t0, t1, t2, t3, t4, t5, t6, t7, t8, t9, t10, t11⟩ := g4
  have e : j = 2 := by omega
  subst e
  exact sx_q_l_MT2_0 hG (by omega)
theorem sx_p_l_MT3 : sx_okr sx_HH false 108 sx_r_l_MT3 := by
  intro γ A j y hG hR hj hlo hhi hl hn
  rw [show (sx_cell.get 108).2.2.1 = 12 from by decide +kernel] at hj
  rw [show (sx_cell.get 108).2.2.2.1 = 0 from by decide +kernel] at hlo
  rw [show (sx_cell.get 108).2.2.2.2.1 = 1 from by decide +kernel] at hhi
  have hy : A 108 j = y := hl rfl
  have n0 : 0 ≤ (-1) + (1 * γ 18595 + 0) := hn _ (List.Mem.head _)
  have n1 : 0 ≤ 1 + ((-1) * γ 18595 + 0) := hn _ (List.Mem.tail _ (List.Mem.head _))
  have n2 : 0 ≤ (-3) + (1 * (j : Int) + 0) := hn _ (List.Mem.tail _ (List.Mem.tail _ (List.Mem.head _)))
  have n3 : 0 ≤ 3 + ((-1) * (j : Int) + 0) := hn _ (List.Mem.tail _ (List.Mem.tail _ (List.Mem.tail _ (List.Mem.head _))))
  clear hn
  obtain ⟨g0, g1, g2, g3, g4, g5, g6, g7, g8, g9, g10, g11, g12, g13, g14, g15, g16, g17, g18, g19, g20, g21, g22, g23, g24, g25, g26, g27, g28, g29, g30, g31, g32, g33, g34, g35, g36⟩ := id hG
  have r_MT3 := sx_gr_MT3 hR
  have r_QM := sx_gr_QM hR
  have hQ : γ 18595 = 1 := by omega
  obtain ⟨t0, t1, t2, t3, t4, t5, t6, t7, t8, t9, t10, t11⟩ := g4
  have e : j = 3 := by omega
  subst e
  exact sx_q_l_MT3_0 hG (by omega)
theorem sx_p_l_MT4 : sx_okr sx_HH false 108 sx_r_l_MT4 := by
  intro γ A j y hG hR hj hlo hhi hl hn
  rw [show (sx_cell.get 108).2.2.1 = 12 from by decide +kernel] at hj
  rw [show (sx_cell.get 108).2.2.2.1 = 0 from by decide +kernel] at hlo
  rw [show (sx_cell.get 108).2.2.2.2.1 = 1 from by decide +kernel] at hhi
  have hy : A 108 j = y := hl rfl
  have n0 : 0 ≤ (-1) + (1 * γ 18595 + 0) := hn _ (List.Mem.head _)
  have n1 : 0 ≤ 1 + ((-1) * γ 18595 + 0) := hn _ (List.Mem.tail _ (List.Mem.head _))
  have n2 : 0 ≤ (-4) + (1 * (j : Int) + 0) := hn _ (List.Mem.tail _ (List.Mem.tail _ (List.Mem.head _)))
  have n3 : 0 ≤ 4 + ((-1) * (j : Int) + 0) := hn _ (List.Mem.tail _ (List.Mem.tail _ (List.Mem.tail _ (List.Mem.head _))))
  clear hn
  obtain ⟨g0, g1, g2, g3, g4, g5, g6, g7, g8, g9, g10, g11, g12, g13, g14, g15, g16, g17, g18, g19, g20, g21, g22, g23, g24, g25, g26, g27, g28, g29, g30, g31, g32, g33, g34, g35, g36⟩ := id hG
  have r_MT4 := sx_gr_MT4 hR
  have r_QM := sx_gr_QM hR
  have hQ : γ 18595 = 1 := by omega
  obtain ⟨t0, t1, t2, t3, t4, t5, t6, t7, t8, t9, t10, t11⟩ := g4
  have e : j = 4 := by omega
  subst e
  exact sx_q_l_MT4_0 hG (by omega)
theorem sx_p_l_MT5 : sx_okr sx_HH false 108 sx_r_l_MT5 := by
  intro γ A j y hG hR hj hlo hhi hl hn
  rw [show (sx_cell.get 108).2.2.1 = 12 from by decide +kernel] at hj
  rw [show (sx_cell.get 108).2.2.2.1 = 0 from by decide +kernel] at hlo
  rw [show (sx_cell.get 108).2.2.2.2.1 = 1 from by decide +kernel] at hhi
  have hy : A 108 j = y := hl rfl
  have n0 : 0 ≤ (-1) + (1 * γ 18595 + 0) := hn _ (List.Mem.head _)
  have n1 : 0 ≤ 1 + ((-1) * γ 18595 + 0) := hn _ (List.Mem.tail _ (List.Mem.head _))
  have n2 : 0 ≤ (-5) + (1 * (j : Int) + 0) := hn _ (List.Mem.tail _ (List.Mem.tail _ (List.Mem.head _)))
  have n3 : 0 ≤ 5 + ((-1) * (j : Int) + 0) := hn _ (List.Mem.tail _ (List.Mem.tail _ (List.Mem.tail _ (List.Mem.head _))))
  clear hn
  obtain ⟨g0, g1, g2, g3, g4, g5, g6, g7, g8, g9, g10, g11, g12, g13, g14, g15, g16, g17, g18, g19, g20, g21, g22, g23, g24, g25, g26, g27, g28, g29, g30, g31, g32, g33, g34, g35, g36⟩ := id hG
  have r_MT5 := sx_gr_MT5 hR
  have r_QM := sx_gr_QM hR
  have hQ : γ 18595 = 1 := by omega
  obtain ⟨t0, t1, t2, t3, t4, t5, t6, t7, t8, t9, t10, t11⟩ := g4
  have e : j = 5 := by omega
  subst e
  exact sx_q_l_MT5_0 hG (by omega)
theorem sx_p_l_MT6 : sx_okr sx_HH false 108 sx_r_l_MT6 := by
  intro γ A j y hG hR hj hlo hhi hl hn
  rw [show (sx_cell.get 108).2.2.1 = 12 from by decide +kernel] at hj
  rw [show (sx_cell.get 108).2.2.2.1 = 0 from by decide +kernel] at hlo
  rw [show (sx_cell.get 108).2.2.2.2.1 = 1 from by decide +kernel] at hhi
  have hy : A 108 j = y := hl rfl
  have n0 : 0 ≤ (-1) + (1 * γ 18595 + 0) := hn _ (List.Mem.head _)
  have n1 : 0 ≤ 1 + ((-1) * γ 18595 + 0) := hn _ (List.Mem.tail _ (List.Mem.head _))
  have n2 : 0 ≤ (-6) + (1 * (j : Int) + 0) := hn _ (List.Mem.tail _ (List.Mem.tail _ (List.Mem.head _)))
  have n3 : 0 ≤ 6 + ((-1) * (j : Int) + 0) := hn _ (List.Mem.tail _ (List.Mem.tail _ (List.Mem.tail _ (List.Mem.head _))))
  clear hn
  obtain ⟨g0, g1, g2, g3, g4, g5, g6, g7, g8, g9, g10, g11, g12, g13, g14, g15, g16, g17, g18, g19, g20, g21, g22, g23, g24, g25, g26, g27, g28, g29, g30, g31, g32, g33, g34, g35, g36⟩ := id hG
  have r_MT6 := sx_gr_MT6 hR
  have r_QM := sx_gr_QM hR
  have hQ : γ 18595 = 1 := by omega
  obtain ⟨t0, t1, t2, t3, t4, t5, t6, t7, t8, t9, t10, t11⟩ := g4
  have e : j = 6 := by omega
  subst e
  exact sx_q_l_MT6_0 hG (by omega)
theorem sx_p_l_MT7 : sx_okr sx_HH false 108 sx_r_l_MT7 := by
  intro γ A j y hG hR hj hlo hhi hl hn
  rw [show (sx_cell.get 108).2.2.1 = 12 from by decide +kernel] at hj
  rw [show (sx_cell.get 108).2.2.2.1 = 0 from by decide +kernel] at hlo
  rw [show (sx_cell.get 108).2.2.2.2.1 = 1 from by decide +kernel] at hhi
  have hy : A 108 j = y := hl rfl
  have n0 : 0 ≤ (-1) + (1 * γ 18595 + 0) := hn _ (List.Mem.head _)
  have n1 : 0 ≤ 1 + ((-1) * γ 18595 + 0) := hn _ (List.Mem.tail _ (List.Mem.head _))
  have n2 : 0 ≤ (-7) + (1 * (j : Int) + 0) := hn _ (List.Mem.tail _ (List.Mem.tail _ (List.Mem.head _)))
  have n3 : 0 ≤ 7 + ((-1) * (j : Int) + 0) := hn _ (List.Mem.tail _ (List.Mem.tail _ (List.Mem.tail _ (List.Mem.head _))))
  clear hn
  obtain ⟨g0, g1, g2, g3, g4, g5, g6, g7, g8, g9, g10, g11, g12, g13, g14, g15, g16, g17, g18, g19, g20, g21, g22, g23, g24, g25, g26, g27, g28, g29, g30, g31, g32, g33, g34, g35, g36⟩ := id hG
  have r_MT7 := sx_gr_MT7 hR
  have r_QM := sx_gr_QM hR
  have hQ : γ 18595 = 1 := by omega
  obtain ⟨t0, t1, t2, t3, t4, t5, t6, t7, t8, t9, t10, t11⟩ := g4
  have e : j = 7 := by omega
  subst e
  exact sx_q_l_MT7_0 hG (by omega)
theorem sx_p_l_MT8 : sx_okr sx_HH false 108 sx_r_l_MT8 := by
  intro γ A j y hG hR hj hlo hhi hl hn
  rw [show (sx_cell.get 108).2.2.1 = 12 from by decide +kernel] at hj
  rw [show (sx_cell.get 108).2.2.2.1 = 0 from by decide +kernel] at hlo
  rw [show (sx_cell.get 108).2.2.2.2.1 = 1 from by decide +kernel] at hhi
  have hy : A 108 j = y := hl rfl
  have n0 : 0 ≤ (-1) + (1 * γ 18595 + 0) := hn _ (List.Mem.head _)
  have n1 : 0 ≤ 1 + ((-1) * γ 18595 + 0) := hn _ (List.Mem.tail _ (List.Mem.head _))
  have n2 : 0 ≤ (-8) + (1 * (j : Int) + 0) := hn _ (List.Mem.tail _ (List.Mem.tail _ (List.Mem.head _)))
  have n3 : 0 ≤ 8 + ((-1) * (j : Int) + 0) := hn _ (List.Mem.tail _ (List.Mem.tail _ (List.Mem.tail _ (List.Mem.head _))))
  clear hn
  obtain ⟨g0, g1, g2, g3, g4, g5, g6, g7, g8, g9, g10, g11, g12, g13, g14, g15, g16, g17, g18, g19, g20, g21, g22, g23, g24, g25, g26, g27, g28, g29, g30, g31, g32, g33, g34, g35, g36⟩ := id hG
  have r_MT8 := sx_gr_MT8 hR
  have r_QM := sx_gr_QM hR
  have hQ : γ 18595 = 1 := by omega
  obtain ⟨t0, t1, t2, t3, t4, t5, t6, t7, t8, t9, t10, t11⟩ := g4
  have e : j = 8 := by omega
  subst e
  exact sx_q_l_MT8_0 hG (by omega)
theorem sx_p_l_MT9 : sx_okr sx_HH false 108 sx_r_l_MT9 := by
  intro γ A j y hG hR hj hlo hhi hl hn
  rw [show (sx_cell.get 108).2.2.1 = 12 from by decide +kernel] at hj
  rw [show (sx_cell.get 108).2.2.2.1 = 0 from by decide +kernel] at hlo
  rw [show (sx_cell.get 108).2.2.2.2.1 = 1 from by decide +kernel] at hhi
  have hy : A 108 j = y := hl rfl
  have n0 : 0 ≤ (-1) + (1 * γ 18595 + 0) := hn _ (List.Mem.head _)
  have n1 : 0 ≤ 1 + ((-1) * γ 18595 + 0) := hn _ (List.Mem.tail _ (List.Mem.head _))
  have n2 : 0 ≤ (-9) + (1 * (j : Int) + 0) := hn _ (List.Mem.tail _ (List.Mem.tail _ (List.Mem.head _)))
  have n3 : 0 ≤ 9 + ((-1) * (j : Int) + 0) := hn _ (List.Mem.tail _ (List.Mem.tail _ (List.Mem.tail _ (List.Mem.head _))))
  clear hn
  obtain ⟨g0, g1, g2, g3, g4, g5, g6, g7, g8, g9, g10, g11, g12, g13, g14, g15, g16, g17, g18, g19, g20, g21, g22, g23, g24, g25, g26, g27, g28, g29, g30, g31, g32, g33, g34, g35, g36⟩ := id hG
  have r_MT9 := sx_gr_MT9 hR
  have r_QM := sx_gr_QM hR
  have hQ : γ 18595 = 1 := by omega
  obtain ⟨t0, t1, t2, t3, t4, t5, t6, t7, t8, t9, t10, t11⟩ := g4
  have e : j = 9 := by omega
  subst e
  exact sx_q_l_MT9_0 hG (by omega)
theorem sx_p_l_MT10 : sx_okr sx_HH false 108 sx_r_l_MT10 := by
  intro γ A j y hG hR hj hlo hhi hl hn
  rw [show (sx_cell.get 108).2.2.1 = 12 from by decide +kernel] at hj
  rw [show (sx_cell.get 108).2.2.2.1 = 0 from by decide +kernel] at hlo
  rw [show (sx_cell.get 108).2.2.2.2.1 = 1 from by decide +kernel] at hhi
  have hy : A 108 j = y := hl rfl
  have n0 : 0 ≤ (-1) + (1 * γ 18595 + 0) := hn _ (List.Mem.head _)
  have n1 : 0 ≤ 1 + ((-1) * γ 18595 + 0) := hn _ (List.Mem.tail _ (List.Mem.head _))
  have n2 : 0 ≤ (-10) + (1 * (j : Int) + 0) := hn _ (List.Mem.tail _ (List.Mem.tail _ (List.Mem.head _)))
  have n3 : 0 ≤ 10 + ((-1) * (j : Int) + 0) := hn _ (List.Mem.tail _ (List.Mem.tail _ (List.Mem.tail _ (List.Mem.head _))))
  clear hn
  obtain ⟨g0, g1, g2, g3, g4, g5, g6, g7, g8, g9, g10, g11, g12, g13, g14, g15, g16, g17, g18, g19, g20, g21, g22, g23, g24, g25, g26, g27, g28, g29, g30, g31, g32, g33, g34, g35, g36⟩ := id hG
  have r_MT10 := sx_gr_MT10 hR
  have r_QM := sx_gr_QM hR
  have hQ : γ 18595 = 1 := by omega
  obtain ⟨t0, t1, t2, t3, t4, t5, t6, t7, t8, t9, t10, t11⟩ := g4
  have e : j = 10 := by omega
  subst e
  exact sx_q_l_MT10_0 hG (by omega)
theorem sx_p_l_MT11 : sx_okr sx_HH false 108 sx_r_l_MT11 := by
  intro γ A j y hG hR hj hlo hhi hl hn
  rw [show (sx_cell.get 108).2.2.1 = 12 from by decide +kernel] at hj
  rw [show (sx_cell.get 108).2.2.2.1 = 0 from by decide +kernel] at hlo
  rw [show (sx_cell.get 108).2.2.2.2.1 = 1 from by decide +kernel] at hhi
  have hy : A 108 j = y := hl rfl
  have n0 : 0 ≤ (-1) + (1 * γ 18595 + 0) := hn _ (List.Mem.head _)
  have n1 : 0 ≤ 1 + ((-1) * γ 18595 + 0) := hn _ (List.Mem.tail _ (List.Mem.head _))
  have n2 : 0 ≤ (-11) + (1 * (j : Int) + 0) := hn _ (List.Mem.tail _ (List.Mem.tail _ (List.Mem.head _)))
  have n3 : 0 ≤ 11 + ((-1) * (j : Int) + 0) := hn _ (List.Mem.tail _ (List.Mem.tail _ (List.Mem.tail _ (List.Mem.head _))))
  clear hn
  obtain ⟨g0, g1, g2, g3, g4, g5, g6, g7, g8, g9, g10, g11, g12, g13, g14, g15, g16, g17, g18, g19, g20, g21, g22, g23, g24, g25, g26, g27, g28, g29, g30, g31, g32, g33, g34, g35, g36⟩ := id hG
  have r_MT11 := sx_gr_MT11 hR
  have r_QM := sx_gr_QM hR
  have hQ : γ 18595 = 1 := by omega
  obtain ⟨t0, t1, t2, t3, t4, t5, t6, t7, t8, t9, t10, t11⟩ := g4
  have e : j = 11 := by omega
  subst e
  exact sx_q_l_MT11_0 hG (by omega)
theorem sx_p_l_MTz : sx_okr sx_HH false 108 sx_r_l_MTz := by
  intro γ A j y hG hR hj hlo hhi hl hn
  rw [show (sx_cell.get 108).2.2.1 = 12 from by decide +kernel] at hj
  rw [show (sx_cell.get 108).2.2.2.1 = 0 from by decide +kernel] at hlo
  rw [show (sx_cell.get 108).2.2.2.2.1 = 1 from by decide +kernel] at hhi
  have hy : A 108 j = y := hl rfl
  clear hn
  obtain ⟨g0, g1, g2, g3, g4, g5, g6, g7, g8, g9, g10, g11, g12, g13, g14, g15, g16, g17, g18, g19, g20, g21, g22, g23, g24, g25, g26, g27, g28, g29, g30, g31, g32, g33, g34, g35, g36⟩ := id hG
  exact sx_q_l_MTz_0 hG
theorem sx_p_l_LG : sx_okr sx_HH false 130 sx_r_l_LG := by
  intro γ A j y hG hR hj hlo hhi hl hn
  rw [show (sx_cell.get 130).2.2.1 = 256 from by decide +kernel] at hj
  rw [show (sx_cell.get 130).2.2.2.1 = 0 from by decide +kernel] at hlo
  rw [show (sx_cell.get 130).2.2.2.2.1 = 1 from by decide +kernel] at hhi
  have hy : A 130 j = y := hl rfl
  have n0 : 0 ≤ (-1) + (1 * γ 18595 + 0) := hn _ (List.Mem.head _)
  have n1 : 0 ≤ 1 + ((-1) * γ 18595 + 0) := hn _ (List.Mem.tail _ (List.Mem.head _))
  have n2 : 0 ≤ 0 + ((-1) * γ 18596 + (1 * (j : Int) + 0)) := hn _ (List.Mem.tail _ (List.Mem.tail _ (List.Mem.head _)))
  have n3 : 0 ≤ 0 + (1 * γ 18596 + ((-1) * (j : Int) + 0)) := hn _ (List.Mem.tail _ (List.Mem.tail _ (List.Mem.tail _ (List.Mem.head _))))
  clear hn
  obtain ⟨g0, g1, g2, g3, g4, g5, g6, g7, g8, g9, g10, g11, g12, g13, g14, g15, g16, g17, g18, g19, g20, g21, g22, g23, g24, g25, g26, g27, g28, g29, g30, g31, g32, g33, g34, g35, g36⟩ := id hG
  have r_LG := sx_gr_LG hR
  have r_PG := sx_gr_PG hR
  have r_QM := sx_gr_QM hR
  have hQ : γ 18595 = 1 := by omega
  have h1 := g35 hQ (by omega) (by omega)
  rw [show (γ 18596).toNat = j by omega] at h1
  exact sx_q_l_LG_0 hG (by omega)
theorem sx_p_l_LGz : sx_okr sx_HH false 130 sx_r_l_LGz := by
  intro γ A j y hG hR hj hlo hhi hl hn
  rw [show (sx_cell.get 130).2.2.1 = 256 from by decide +kernel] at hj
  rw [show (sx_cell.get 130).2.2.2.1 = 0 from by decide +kernel] at hlo
  rw [show (sx_cell.get 130).2.2.2.2.1 = 1 from by decide +kernel] at hhi
  have hy : A 130 j = y := hl rfl
  clear hn
  obtain ⟨g0, g1, g2, g3, g4, g5, g6, g7, g8, g9, g10, g11, g12, g13, g14, g15, g16, g17, g18, g19, g20, g21, g22, g23, g24, g25, g26, g27, g28, g29, g30, g31, g32, g33, g34, g35, g36⟩ := id hG
  exact sx_q_l_LGz_0 hG
theorem sx_p_s_BDm : sx_okr sx_HH true 5 sx_r_s_BDm := by
  intro γ A j y hG hR hj hlo hhi hl hn
  rw [show (sx_cell.get 5).2.2.1 = 8 from by decide +kernel] at hj
  rw [show (sx_cell.get 5).2.2.2.1 = 0 from by decide +kernel] at hlo
  rw [show (sx_cell.get 5).2.2.2.2.1 = 255 from by decide +kernel] at hhi
  have n0 : 0 ≤ (-2) + (1 * γ 18595 + 0) := hn _ (List.Mem.head _)
  have n1 : 0 ≤ 2 + ((-1) * γ 18595 + 0) := hn _ (List.Mem.tail _ (List.Mem.head _))
  clear hn
  obtain ⟨g0, g1, g2, g3, g4, g5, g6, g7, g8, g9, g10, g11, g12, g13, g14, g15, g16, g17, g18, g19, g20, g21, g22, g23, g24, g25, g26, g27, g28, g29, g30, g31, g32, g33, g34, g35, g36⟩ := id hG
  have r_QM := sx_gr_QM hR
  obtain ⟨t0, t1, t2, t3, t4, t5, t6, t7⟩ := g1
  rcases (show j = 0 ∨ j = 1 ∨ j = 2 ∨ j = 3 ∨ j = 4 ∨ j = 5 ∨ j = 6 ∨ j = 7 by omega) with rfl | rfl | rfl | rfl | rfl | rfl | rfl | rfl
  · exact sx_q_s_BDm_0 hG (by omega) (by omega) ⟨(by rw [sx_au_s rfl]; omega), (by rw [sx_au_o (by decide)]; omega), (by rw [sx_au_o (by decide)]; omega), (by rw [sx_au_o (by decide)]; omega), (by rw [sx_au_o (by decide)]; omega), (by rw [sx_au_o (by decide)]; omega), (by rw [sx_au_o (by decide)]; omega), (by rw [sx_au_o (by decide)]; omega)⟩ (fun h => absurd h (by omega))
  · exact sx_q_s_BDm_1 hG (by omega) (by omega) ⟨(by rw [sx_au_o (by decide)]; omega), (by rw [sx_au_s rfl]; omega), (by rw [sx_au_o (by decide)]; omega), (by rw [sx_au_o (by decide)]; omega), (by rw [sx_au_o (by decide)]; omega), (by rw [sx_au_o (by decide)]; omega), (by rw [sx_au_o (by decide)]; omega), (by rw [sx_au_o (by decide)]; omega)⟩ (fun h => absurd h (by omega))
  · exact sx_q_s_BDm_2 hG (by omega) (by omega) ⟨(by rw [sx_au_o (by decide)]; omega), (by rw [sx_au_o (by decide)]; omega), (by rw [sx_au_s rfl]; omega), (by rw [sx_au_o (by decide)]; omega), (by rw [sx_au_o (by decide)]; omega), (by rw [sx_au_o (by decide)]; omega), (by rw [sx_au_o (by decide)]; omega), (by rw [sx_au_o (by decide)]; omega)⟩ (fun h => absurd h (by omega))
  · exact sx_q_s_BDm_3 hG (by omega) (by omega) ⟨(by rw [sx_au_o (by decide)]; omega), (by rw [sx_au_o (by decide)]; omega), (by rw [sx_au_o (by decide)]; omega), (by rw [sx_au_s rfl]; omega), (by rw [sx_au_o (by decide)]; omega), (by rw [sx_au_o (by decide)]; omega), (by rw [sx_au_o (by decide)]; omega), (by rw [sx_au_o (by decide)]; omega)⟩ (fun h => absurd h (by omega))
  · exact sx_q_s_BDm_4 hG (by omega) (by omega) ⟨(by rw [sx_au_o (by decide)]; omega), (by rw [sx_au_o (by decide)]; omega), (by rw [sx_au_o (by decide)]; omega), (by rw [sx_au_o (by decide)]; omega), (by rw [sx_au_s rfl]; omega), (by rw [sx_au_o (by decide)]; omega), (by rw [sx_au_o (by decide)]; omega), (by rw [sx_au_o (by decide)]; omega)⟩ (fun h => absurd h (by omega))
  · exact sx_q_s_BDm_5 hG (by omega) (by omega) ⟨(by rw [sx_au_o (by decide)]; omega), (by rw [sx_au_o (by decide)]; omega), (by rw [sx_au_o (by decide)]; omega), (by rw [sx_au_o (by decide)]; omega), (by rw [sx_au_o (by decide)]; omega), (by rw [sx_au_s rfl]; omega), (by rw [sx_au_o (by decide)]; omega), (by rw [sx_au_o (by decide)]; omega)⟩ (fun h => absurd h (by omega))
  · exact sx_q_s_BDm_6 hG (by omega) (by omega) ⟨(by rw [sx_au_o (by decide)]; omega), (by rw [sx_au_o (by decide)]; omega), (by rw [sx_au_o (by decide)]; omega), (by rw [sx_au_o (by decide)]; omega), (by rw [sx_au_o (by decide)]; omega), (by rw [sx_au_o (by decide)]; omega), (by rw [sx_au_s rfl]; omega), (by rw [sx_au_o (by decide)]; omega)⟩ (fun h => absurd h (by omega))
  · exact sx_q_s_BDm_7 hG (by omega) (by omega) ⟨(by rw [sx_au_o (by decide)]; omega), (by rw [sx_au_o (by decide)]; omega), (by rw [sx_au_o (by decide)]; omega), (by rw [sx_au_o (by decide)]; omega), (by rw [sx_au_o (by decide)]; omega), (by rw [sx_au_o (by decide)]; omega), (by rw [sx_au_o (by decide)]; omega), (by rw [sx_au_s rfl]; omega)⟩ (fun h => absurd h (by omega))
theorem sx_p_s_BDz : sx_okr sx_HH true 5 sx_r_s_BDz := by
  intro γ A j y hG hR hj hlo hhi hl hn
  rw [show (sx_cell.get 5).2.2.1 = 8 from by decide +kernel] at hj
  rw [show (sx_cell.get 5).2.2.2.1 = 0 from by decide +kernel] at hlo
  rw [show (sx_cell.get 5).2.2.2.2.1 = 255 from by decide +kernel] at hhi
  clear hn
  obtain ⟨g0, g1, g2, g3, g4, g5, g6, g7, g8, g9, g10, g11, g12, g13, g14, g15, g16, g17, g18, g19, g20, g21, g22, g23, g24, g25, g26, g27, g28, g29, g30, g31, g32, g33, g34, g35, g36⟩ := id hG
  obtain ⟨t0, t1, t2, t3, t4, t5, t6, t7⟩ := g1
  rcases (show j = 0 ∨ j = 1 ∨ j = 2 ∨ j = 3 ∨ j = 4 ∨ j = 5 ∨ j = 6 ∨ j = 7 by omega) with rfl | rfl | rfl | rfl | rfl | rfl | rfl | rfl
  · exact sx_q_s_BDz_0 hG (by omega) (by omega) ⟨(by rw [sx_au_s rfl]; omega), (by rw [sx_au_o (by decide)]; omega), (by rw [sx_au_o (by decide)]; omega), (by rw [sx_au_o (by decide)]; omega), (by rw [sx_au_o (by decide)]; omega), (by rw [sx_au_o (by decide)]; omega), (by rw [sx_au_o (by decide)]; omega), (by rw [sx_au_o (by decide)]; omega)⟩ (fun h => absurd h (by decide)) (fun h => absurd h (by decide)) (fun h => absurd h (by decide)) (fun h => absurd h (by decide)) (fun h => absurd h (by decide)) (fun h => absurd h (by decide)) (fun h => absurd h (by decide)) (fun h => absurd h (by decide)) (fun h => absurd h (by decide)) (fun h => absurd h (by decide)) (fun h => absurd h (by decide)) (fun h => absurd h (by decide)) (fun h => absurd h (by decide)) (fun h => absurd h (by decide)) (fun h => absurd h (by decide)) (fun h => absurd h (by decide)) (fun h => absurd h (by decide)) (fun h => absurd h (by decide)) (fun h => absurd h (by decide)) (fun h => absurd h (by decide)) (fun h => absurd h (by decide)) (fun h => absurd h (by decide)) (fun h => absurd h (by decide)) (fun h => absurd h (by decide)) (fun h => absurd h (by decide)) (fun h => absurd h (by decide)) (fun h => absurd h (by decide)) (fun h => absurd h (by decide))
  · exact sx_q_s_BDz_1 hG (by omega) (by omega) ⟨(by rw [sx_au_o (by decide)]; omega), (by rw [sx_au_s rfl]; omega), (by rw [sx_au_o (by decide)]; omega), (by rw [sx_au_o (by decide)]; omega), (by rw [sx_au_o (by decide)]; omega), (by rw [sx_au_o (by decide)]; omega), (by rw [sx_au_o (by decide)]; omega), (by rw [sx_au_o (by decide)]; omega)⟩ (fun h => absurd h (by decide)) (fun h => absurd h (by decide)) (fun h => absurd h (by decide)) (fun h => absurd h (by decide)) (fun h => absurd h (by decide)) (fun h => absurd h (by decide)) (fun h => absurd h (by decide)) (fun h => absurd h (by decide)) (fun h => absurd h (by decide)) (fun h => absurd h (by decide)) (fun h => absurd h (by decide)) (fun h => absurd h (by decide)) (fun h => absurd h (by decide)) (fun h => absurd h (by decide)) (fun h => absurd h (by decide)) (fun h => absurd h (by decide)) (fun h => absurd h (by decide)) (fun h => absurd h (by decide)) (fun h => absurd h (by decide)) (fun h => absurd h (by decide)) (fun h => absurd h (by decide)) (fun h => absurd h (by decide)) (fun h => absurd h (by decide)) (fun h => absurd h (by decide)) (fun h => absurd h (by decide)) (fun h => absurd h (by decide)) (fun h => absurd h (by decide)) (fun h => absurd h (by decide))
  · exact sx_q_s_BDz_2 hG (by omega) (by omega) ⟨(by rw [sx_au_o (by decide)]; omega), (by rw [sx_au_o (by decide)]; omega), (by rw [sx_au_s rfl]; omega), (by rw [sx_au_o (by decide)]; omega), (by rw [sx_au_o (by decide)]; omega), (by rw [sx_au_o (by decide)]; omega), (by rw [sx_au_o (by decide)]; omega), (by rw [sx_au_o (by decide)]; omega)⟩ (fun h => absurd h (by decide)) (fun h => absurd h (by decide)) (fun h => absurd h (by decide)) (fun h => absurd h (by decide)) (fun h => absurd h (by decide)) (fun h => absurd h (by decide)) (fun h => absurd h (by decide)) (fun h => absurd h (by decide)) (fun h => absurd h (by decide)) (fun h => absurd h (by decide)) (fun h => absurd h (by decide)) (fun h => absurd h (by decide)) (fun h => absurd h (by decide)) (fun h => absurd h (by decide)) (fun h => absurd h (by decide)) (fun h => absurd h (by decide)) (fun h => absurd h (by decide)) (fun h => absurd h (by decide)) (fun h => absurd h (by decide)) (fun h => absurd h (by decide)) (fun h => absurd h (by decide)) (fun h => absurd h (by decide)) (fun h => absurd h (by decide)) (fun h => absurd h (by decide)) (fun h => absurd h (by decide)) (fun h => absurd h (by decide)) (fun h => absurd h (by decide)) (fun h => absurd h (by decide))
  · exact sx_q_s_BDz_3 hG (by omega) (by omega) ⟨(by rw [sx_au_o (by decide)]; omega), (by rw [sx_au_o (by decide)]; omega), (by rw [sx_au_o (by decide)]; omega), (by rw [sx_au_s rfl]; omega), (by rw [sx_au_o (by decide)]; omega), (by rw [sx_au_o (by decide)]; omega), (by rw [sx_au_o (by decide)]; omega), (by rw [sx_au_o (by decide)]; omega)⟩ (fun h => absurd h (by decide)) (fun h => absurd h (by decide)) (fun h => absurd h (by decide)) (fun h => absurd h (by decide)) (fun h => absurd h (by decide)) (fun h => absurd h (by decide)) (fun h => absurd h (by decide)) (fun h => absurd h (by decide)) (fun h => absurd h (by decide)) (fun h => absurd h (by decide)) (fun h => absurd h (by decide)) (fun h => absurd h (by decide)) (fun h => absurd h (by decide)) (fun h => absurd h (by decide)) (fun h => absurd h (by decide)) (fun h => absurd h (by decide)) (fun h => absurd h (by decide)) (fun h => absurd h (by decide)) (fun h => absurd h (by decide)) (fun h => absurd h (by decide)) (fun h => absurd h (by decide)) (fun h => absurd h (by decide)) (fun h => absurd h (by decide)) (fun h => absurd h (by decide)) (fun h => absurd h (by decide)) (fun h => absurd h (by decide)) (fun h => absurd h (by decide)) (fun h => absurd h (by decide))
  · exact sx_q_s_BDz_4 hG (by omega) (by omega) ⟨(by rw [sx_au_o (by decide)]; omega), (by rw [sx_au_o (by decide)]; omega), (by rw [sx_au_o (by decide)]; omega), (by rw [sx_au_o (by decide)]; omega), (by rw [sx_au_s rfl]; omega), (by rw [sx_au_o (by decide)]; omega), (by rw [sx_au_o (by decide)]; omega), (by rw [sx_au_o (by decide)]; omega)⟩ (fun h => absurd h (by decide)) (fun h => absurd h (by decide)) (fun h => absurd h (by decide)) (fun h => absurd h (by decide)) (fun h => absurd h (by decide)) (fun h => absurd h (by decide)) (fun h => absurd h (by decide)) (fun h => absurd h (by decide)) (fun h => absurd h (by decide)) (fun h => absurd h (by decide)) (fun h => absurd h (by decide)) (fun h => absurd h (by decide)) (fun h => absurd h (by decide)) (fun h => absurd h (by decide)) (fun h => absurd h (by decide)) (fun h => absurd h (by decide)) (fun h => absurd h (by decide)) (fun h => absurd h (by decide)) (fun h => absurd h (by decide)) (fun h => absurd h (by decide)) (fun h => absurd h (by decide)) (fun h => absurd h (by decide)) (fun h => absurd h (by decide)) (fun h => absurd h (by decide)) (fun h => absurd h (by decide)) (fun h => absurd h (by decide)) (fun h => absurd h (by decide)) (fun h => absurd h (by decide))
  · exact sx_q_s_BDz_5 hG (by omega) (by omega) ⟨(by rw [sx_au_o (by decide)]; omega), (by rw [sx_au_o (by decide)]; omega), (by rw [sx_au_o (by decide)]; omega), (by rw [sx_au_o (by decide)]; omega), (by rw [sx_au_o (by decide)]; omega), (by rw [sx_au_s rfl]; omega), (by rw [sx_au_o (by decide)]; omega), (by rw [sx_au_o (by decide)]; omega)⟩ (fun h => absurd h (by decide)) (fun h => absurd h (by decide)) (fun h => absurd h (by decide)) (fun h => absurd h (by decide)) (fun h => absurd h (by decide)) (fun h => absurd h (by decide)) (fun h => absurd h (by decide)) (fun h => absurd h (by decide)) (fun h => absurd h (by decide)) (fun h => absurd h (by decide)) (fun h => absurd h (by decide)) (fun h => absurd h (by decide)) (fun h => absurd h (by decide)) (fun h => absurd h (by decide)) (fun h => absurd h (by decide)) (fun h => absurd h (by decide)) (fun h => absurd h (by decide)) (fun h => absurd h (by decide)) (fun h => absurd h (by decide)) (fun h => absurd h (by decide)) (fun h => absurd h (by decide)) (fun h => absurd h (by decide)) (fun h => absurd h (by decide)) (fun h => absurd h (by decide)) (fun h => absurd h (by decide)) (fun h => absurd h (by decide)) (fun h => absurd h (by decide)) (fun h => absurd h (by decide))
  · exact sx_q_s_BDz_6 hG (by omega) (by omega) ⟨(by rw [sx_au_o (by decide)]; omega), (by rw [sx_au_o (by decide)]; omega), (by rw [sx_au_o (by decide)]; omega), (by rw [sx_au_o (by decide)]; omega), (by rw [sx_au_o (by decide)]; omega), (by rw [sx_au_o (by decide)]; omega), (by rw [sx_au_s rfl]; omega), (by rw [sx_au_o (by decide)]; omega)⟩ (fun h => absurd h (by decide)) (fun h => absurd h (by decide)) (fun h => absurd h (by decide)) (fun h => absurd h (by decide)) (fun h => absurd h (by decide)) (fun h => absurd h (by decide)) (fun h => absurd h (by decide)) (fun h => absurd h (by decide)) (fun h => absurd h (by decide)) (fun h => absurd h (by decide)) (fun h => absurd h (by decide)) (fun h => absurd h (by decide)) (fun h => absurd h (by decide)) (fun h => absurd h (by decide)) (fun h => absurd h (by decide)) (fun h => absurd h (by decide)) (fun h => absurd h (by decide)) (fun h => absurd h (by decide)) (fun h => absurd h (by decide)) (fun h => absurd h (by decide)) (fun h => absurd h (by decide)) (fun h => absurd h (by decide)) (fun h => absurd h (by decide)) (fun h => absurd h (by decide)) (fun h => absurd h (by decide)) (fun h => absurd h (by decide)) (fun h => absurd h (by decide)) (fun h => absurd h (by decide))
  · exact sx_q_s_BDz_7 hG (by omega) (by omega) ⟨(by rw [sx_au_o (by decide)]; omega), (by rw [sx_au_o (by decide)]; omega), (by rw [sx_au_o (by decide)]; omega), (by rw [sx_au_o (by decide)]; omega), (by rw [sx_au_o (by decide)]; omega), (by rw [sx_au_o (by decide)]; omega), (by rw [sx_au_o (by decide)]; omega), (by rw [sx_au_s rfl]; omega)⟩ (fun h => absurd h (by decide)) (fun h => absurd h (by decide)) (fun h => absurd h (by decide)) (fun h => absurd h (by decide)) (fun h => absurd h (by decide)) (fun h => absurd h (by decide)) (fun h => absurd h (by decide)) (fun h => absurd h (by decide)) (fun h => absurd h (by decide)) (fun h => absurd h (by decide)) (fun h => absurd h (by decide)) (fun h => absurd h (by decide)) (fun h => absurd h (by decide)) (fun h => absurd h (by decide)) (fun h => absurd h (by decide)) (fun h => absurd h (by decide)) (fun h => absurd h (by decide)) (fun h => absurd h (by decide)) (fun h => absurd h (by decide)) (fun h => absurd h (by decide)) (fun h => absurd h (by decide)) (fun h => absurd h (by decide)) (fun h => absurd h (by decide)) (fun h => absurd h (by decide)) (fun h => absurd h (by decide)) (fun h => absurd h (by decide)) (fun h => absurd h (by decide)) (fun h => absurd h (by decide))
theorem sx_p_s_APm : sx_okr sx_HH true 6 sx_r_s_APm := by
  intro γ A j y hG hR hj hlo hhi hl hn
  rw [show (sx_cell.get 6).2.2.1 = 8 from by decide +kernel] at hj
  rw [show (sx_cell.get 6).2.2.2.1 = 0 from by decide +kernel] at hlo
  rw [show (sx_cell.get 6).2.2.2.2.1 = 255 from by decide +kernel] at hhi
  have n0 : 0 ≤ (-2) + (1 * γ 18595 + 0) := hn _ (List.Mem.head _)
  have n1 : 0 ≤ 2 + ((-1) * γ 18595 + 0) := hn _ (List.Mem.tail _ (List.Mem.head _))
  clear hn
  obtain ⟨g0, g1, g2, g3, g4, g5, g6, g7, g8, g9, g10, g11, g12, g13, g14, g15, g16, g17, g18, g19, g20, g21, g22, g23, g24, g25, g26, g27, g28, g29, g30, g31, g32, g33, g34, g35, g36⟩ := id hG
  have r_QM := sx_gr_QM hR
  obtain ⟨t0, t1, t2, t3, t4, t5, t6, t7⟩ := g0
  rcases (show j = 0 ∨ j = 1 ∨ j = 2 ∨ j = 3 ∨ j = 4 ∨ j = 5 ∨ j = 6 ∨ j = 7 by omega) with rfl | rfl | rfl | rfl | rfl | rfl | rfl | rfl
  · exact sx_q_s_APm_0 hG (by omega) (by omega) ⟨(by rw [sx_au_s rfl]; omega), (by rw [sx_au_o (by decide)]; omega), (by rw [sx_au_o (by decide)]; omega), (by rw [sx_au_o (by decide)]; omega), (by rw [sx_au_o (by decide)]; omega), (by rw [sx_au_o (by decide)]; omega), (by rw [sx_au_o (by decide)]; omega), (by rw [sx_au_o (by decide)]; omega)⟩ (fun h => absurd h (by omega))
  · exact sx_q_s_APm_1 hG (by omega) (by omega) ⟨(by rw [sx_au_o (by decide)]; omega), (by rw [sx_au_s rfl]; omega), (by rw [sx_au_o (by decide)]; omega), (by rw [sx_au_o (by decide)]; omega), (by rw [sx_au_o (by decide)]; omega), (by rw [sx_au_o (by decide)]; omega), (by rw [sx_au_o (by decide)]; omega), (by rw [sx_au_o (by decide)]; omega)⟩ (fun h => absurd h (by omega))
  · exact sx_q_s_APm_2 hG (by omega) (by omega) ⟨(by rw [sx_au_o (by decide)]; omega), (by rw [sx_au_o (by decide)]; omega), (by rw [sx_au_s rfl]; omega), (by rw [sx_au_o (by decide)]; omega), (by rw [sx_au_o (by decide)]; omega), (by rw [sx_au_o (by decide)]; omega), (by rw [sx_au_o (by decide)]; omega), (by rw [sx_au_o (by decide)]; omega)⟩ (fun h => absurd h (by omega))
  · exact sx_q_s_APm_3 hG (by omega) (by omega) ⟨(by rw [sx_au_o (by decide)]; omega), (by rw [sx_au_o (by decide)]; omega), (by rw [sx_au_o (by decide)]; omega), (by rw [sx_au_s rfl]; omega), (by rw [sx_au_o (by decide)]; omega), (by rw [sx_au_o (by decide)]; omega), (by rw [sx_au_o (by decide)]; omega), (by rw [sx_au_o (by decide)]; omega)⟩ (fun h => absurd h (by omega))
  · exact sx_q_s_APm_4 hG (by omega) (by omega) ⟨(by rw [sx_au_o (by decide)]; omega), (by rw [sx_au_o (by decide)]; omega), (by rw [sx_au_o (by decide)]; omega), (by rw [sx_au_o (by decide)]; omega), (by rw [sx_au_s rfl]; omega), (by rw [sx_au_o (by decide)]; omega), (by rw [sx_au_o (by decide)]; omega), (by rw [sx_au_o (by decide)]; omega)⟩ (fun h => absurd h (by omega))
  · exact sx_q_s_APm_5 hG (by omega) (by omega) ⟨(by rw [sx_au_o (by decide)]; omega), (by rw [sx_au_o (by decide)]; omega), (by rw [sx_au_o (by decide)]; omega), (by rw [sx_au_o (by decide)]; omega), (by rw [sx_au_o (by decide)]; omega), (by rw [sx_au_s rfl]; omega), (by rw [sx_au_o (by decide)]; omega), (by rw [sx_au_o (by decide)]; omega)⟩ (fun h => absurd h (by omega))
  · exact sx_q_s_APm_6 hG (by omega) (by omega) ⟨(by rw [sx_au_o (by decide)]; omega), (by rw [sx_au_o (by decide)]; omega), (by rw [sx_au_o (by decide)]; omega), (by rw [sx_au_o (by decide)]; omega), (by rw [sx_au_o (by decide)]; omega), (by rw [sx_au_o (by decide)]; omega), (by rw [sx_au_s rfl]; omega), (by rw [sx_au_o (by decide)]; omega)⟩ (fun h => absurd h (by omega))
  · exact sx_q_s_APm_7 hG (by omega) (by omega) ⟨(by rw [sx_au_o (by decide)]; omega), (by rw [sx_au_o (by decide)]; omega), (by rw [sx_au_o (by decide)]; omega), (by rw [sx_au_o (by decide)]; omega), (by rw [sx_au_o (by decide)]; omega), (by rw [sx_au_o (by decide)]; omega), (by rw [sx_au_o (by decide)]; omega), (by rw [sx_au_s rfl]; omega)⟩ (fun h => absurd h (by omega))
theorem sx_p_s_APz : sx_okr sx_HH true 6 sx_r_s_APz := by
  intro γ A j y hG hR hj hlo hhi hl hn
  rw [show (sx_cell.get 6).2.2.1 = 8 from by decide +kernel] at hj
  rw [show (sx_cell.get 6).2.2.2.1 = 0 from by decide +kernel] at hlo
  rw [show (sx_cell.get 6).2.2.2.2.1 = 255 from by decide +kernel] at hhi
  clear hn
  obtain ⟨g0, g1, g2, g3, g4, g5, g6, g7, g8, g9, g10, g11, g12, g13, g14, g15, g16, g17, g18, g19, g20, g21, g22, g23, g24, g25, g26, g27, g28, g29, g30, g31, g32, g33, g34, g35, g36⟩ := id hG
  obtain ⟨t0, t1, t2, t3, t4, t5, t6, t7⟩ := g0
  rcases (show j = 0 ∨ j = 1 ∨ j = 2 ∨ j = 3 ∨ j = 4 ∨ j = 5 ∨ j = 6 ∨ j = 7 by omega) with rfl | rfl | rfl | rfl | rfl | rfl | rfl | rfl
  · exact sx_q_s_APz_0 hG (by omega) (by omega) ⟨(by rw [sx_au_s rfl]; omega), (by rw [sx_au_o (by decide)]; omega), (by rw [sx_au_o (by decide)]; omega), (by rw [sx_au_o (by decide)]; omega), (by rw [sx_au_o (by decide)]; omega), (by rw [sx_au_o (by decide)]; omega), (by rw [sx_au_o (by decide)]; omega), (by rw [sx_au_o (by decide)]; omega)⟩ (fun h => absurd h (by decide)) (fun h => absurd h (by decide)) (fun h => absurd h (by decide)) (fun h => absurd h (by decide)) (fun h => absurd h (by decide)) (fun h => absurd h (by decide)) (fun h => absurd h (by decide)) (fun h => absurd h (by decide)) (fun h => absurd h (by decide)) (fun h => absurd h (by decide)) (fun h => absurd h (by decide)) (fun h => absurd h (by decide)) (fun h => absurd h (by decide)) (fun h => absurd h (by decide)) (fun h => absurd h (by decide)) (fun h => absurd h (by decide)) (fun h => absurd h (by decide)) (fun h => absurd h (by decide)) (fun h => absurd h (by decide)) (fun h => absurd h (by decide)) (fun h => absurd h (by decide)) (fun h => absurd h (by decide)) (fun h => absurd h (by decide)) (fun h => absurd h (by decide)) (fun h => absurd h (by decide)) (fun h => absurd h (by decide)) (fun h => absurd h (by decide)) (fun h => absurd h (by decide))
  · exact sx_q_s_APz_1 hG (by omega) (by omega) ⟨(by rw [sx_au_o (by decide)]; omega), (by rw [sx_au_s rfl]; omega), (by rw [sx_au_o (by decide)]; omega), (by rw [sx_au_o (by decide)]; omega), (by rw [sx_au_o (by decide)]; omega), (by rw [sx_au_o (by decide)]; omega), (by rw [sx_au_o (by decide)]; omega), (by rw [sx_au_o (by decide)]; omega)⟩ (fun h => absurd h (by decide)) (fun h => absurd h (by decide)) (fun h => absurd h (by decide)) (fun h => absurd h (by decide)) (fun h => absurd h (by decide)) (fun h => absurd h (by decide)) (fun h => absurd h (by decide)) (fun h => absurd h (by decide)) (fun h => absurd h (by decide)) (fun h => absurd h (by decide)) (fun h => absurd h (by decide)) (fun h => absurd h (by decide)) (fun h => absurd h (by decide)) (fun h => absurd h (by decide)) (fun h => absurd h (by decide)) (fun h => absurd h (by decide)) (fun h => absurd h (by decide)) (fun h => absurd h (by decide)) (fun h => absurd h (by decide)) (fun h => absurd h (by decide)) (fun h => absurd h (by decide)) (fun h => absurd h (by decide)) (fun h => absurd h (by decide)) (fun h => absurd h (by decide)) (fun h => absurd h (by decide)) (fun h => absurd h (by decide)) (fun h => absurd h (by decide)) (fun h => absurd h (by decide))
  · exact sx_q_s_APz_2 hG (by omega) (by omega) ⟨(by rw [sx_au_o (by decide)]; omega), (by rw [sx_au_o (by decide)]; omega), (by rw [sx_au_s rfl]; omega), (by rw [sx_au_o (by decide)]; omega), (by rw [sx_au_o (by decide)]; omega), (by rw [sx_au_o (by decide)]; omega), (by rw [sx_au_o (by decide)]; omega), (by rw [sx_au_o (by decide)]; omega)⟩ (fun h => absurd h (by decide)) (fun h => absurd h (by decide)) (fun h => absurd h (by decide)) (fun h => absurd h (by decide)) (fun h => absurd h (by decide)) (fun h => absurd h (by decide)) (fun h => absurd h (by decide)) (fun h => absurd h (by decide)) (fun h => absurd h (by decide)) (fun h => absurd h (by decide)) (fun h => absurd h (by decide)) (fun h => absurd h (by decide)) (fun h => absurd h (by decide)) (fun h => absurd h (by decide)) (fun h => absurd h (by decide)) (fun h => absurd h (by decide)) (fun h => absurd h (by decide)) (fun h => absurd h (by decide)) (fun h => absurd h (by decide)) (fun h => absurd h (by decide)) (fun h => absurd h (by decide)) (fun h => absurd h (by decide)) (fun h => absurd h (by decide)) (fun h => absurd h (by decide)) (fun h => absurd h (by decide)) (fun h => absurd h (by decide)) (fun h => absurd h (by decide)) (fun h => absurd h (by decide))
  · exact sx_q_s_APz_3 hG (by omega) (by omega) ⟨(by rw [sx_au_o (by decide)]; omega), (by rw [sx_au_o (by decide)]; omega), (by rw [sx_au_o (by decide)]; omega), (by rw [sx_au_s rfl]; omega), (by rw [sx_au_o (by decide)]; omega), (by rw [sx_au_o (by decide)]; omega), (by rw [sx_au_o (by decide)]; omega), (by rw [sx_au_o (by decide)]; omega)⟩ (fun h => absurd h (by decide)) (fun h => absurd h (by decide)) (fun h => absurd h (by decide)) (fun h => absurd h (by decide)) (fun h => absurd h (by decide)) (fun h => absurd h (by decide)) (fun h => absurd h (by decide)) (fun h => absurd h (by decide)) (fun h => absurd h (by decide)) (fun h => absurd h (by decide)) (fun h => absurd h (by decide)) (fun h => absurd h (by decide)) (fun h => absurd h (by decide)) (fun h => absurd h (by decide)) (fun h => absurd h (by decide)) (fun h => absurd h (by decide)) (fun h => absurd h (by decide)) (fun h => absurd h (by decide)) (fun h => absurd h (by decide)) (fun h => absurd h (by decide)) (fun h => absurd h (by decide)) (fun h => absurd h (by decide)) (fun h => absurd h (by decide)) (fun h => absurd h (by decide)) (fun h => absurd h (by decide)) (fun h => absurd h (by decide)) (fun h => absurd h (by decide)) (fun h => absurd h (by decide))
  · exact sx_q_s_APz_4 hG (by omega) (by omega) ⟨(by rw [sx_au_o (by decide)]; omega), (by rw [sx_au_o (by decide)]; omega), (by rw [sx_au_o (by decide)]; omega), (by rw [sx_au_o (by decide)]; omega), (by rw [sx_au_s rfl]; omega), (by rw [sx_au_o (by decide)]; omega), (by rw [sx_au_o (by decide)]; omega), (by rw [sx_au_o (by decide)]; omega)⟩ (fun h => absurd h (by decide)) (fun h => absurd h (by decide)) (fun h => absurd h (by decide)) (fun h => absurd h (by decide)) (fun h => absurd h (by decide)) (fun h => absurd h (by decide)) (fun h => absurd h (by decide)) (fun h => absurd h (by decide)) (fun h => absurd h (by decide)) (fun h => absurd h (by decide)) (fun h => absurd h (by decide)) (fun h => absurd h (by decide)) (fun h => absurd h (by decide)) (fun h => absurd h (by decide)) (fun h => absurd h (by decide)) (fun h => absurd h (by decide)) (fun h => absurd h (by decide)) (fun h => absurd h (by decide)) (fun h => absurd h (by decide)) (fun h => absurd h (by decide)) (fun h => absurd h (by decide)) (fun h => absurd h (by decide)) (fun h => absurd h (by decide)) (fun h => absurd h (by decide)) (fun h => absurd h (by decide)) (fun h => absurd h (by decide)) (fun h => absurd h (by decide)) (fun h => absurd h (by decide))
  · exact sx_q_s_APz_5 hG (by omega) (by omega) ⟨(by rw [sx_au_o (by decide)]; omega), (by rw [sx_au_o (by decide)]; omega), (by rw [sx_au_o (by decide)]; omega), (by rw [sx_au_o (by decide)]; omega), (by rw [sx_au_o (by decide)]; omega), (by rw [sx_au_s rfl]; omega), (by rw [sx_au_o (by decide)]; omega), (by rw [sx_au_o (by decide)]; omega)⟩ (fun h => absurd h (by decide)) (fun h => absurd h (by decide)) (fun h => absurd h (by decide)) (fun h => absurd h (by decide)) (fun h => absurd h (by decide)) (fun h => absurd h (by decide)) (fun h => absurd h (by decide)) (fun h => absurd h (by decide)) (fun h => absurd h (by decide)) (fun h => absurd h (by decide)) (fun h => absurd h (by decide)) (fun h => absurd h (by decide)) (fun h => absurd h (by decide)) (fun h => absurd h (by decide)) (fun h => absurd h (by decide)) (fun h => absurd h (by decide)) (fun h => absurd h (by decide)) (fun h => absurd h (by decide)) (fun h => absurd h (by decide)) (fun h => absurd h (by decide)) (fun h => absurd h (by decide)) (fun h => absurd h (by decide)) (fun h => absurd h (by decide)) (fun h => absurd h (by decide)) (fun h => absurd h (by decide)) (fun h => absurd h (by decide)) (fun h => absurd h (by decide)) (fun h => absurd h (by decide))
  · exact sx_q_s_APz_6 hG (by omega) (by omega) ⟨(by rw [sx_au_o (by decide)]; omega), (by rw [sx_au_o (by decide)]; omega), (by rw [sx_au_o (by decide)]; omega), (by rw [sx_au_o (by decide)]; omega), (by rw [sx_au_o (by decide)]; omega), (by rw [sx_au_o (by decide)]; omega), (by rw [sx_au_s rfl]; omega), (by rw [sx_au_o (by decide)]; omega)⟩ (fun h => absurd h (by decide)) (fun h => absurd h (by decide)) (fun h => absurd h (by decide)) (fun h => absurd h (by decide)) (fun h => absurd h (by decide)) (fun h => absurd h (by decide)) (fun h => absurd h (by decide)) (fun h => absurd h (by decide)) (fun h => absurd h (by decide)) (fun h => absurd h (by decide)) (fun h => absurd h (by decide)) (fun h => absurd h (by decide)) (fun h => absurd h (by decide)) (fun h => absurd h (by decide)) (fun h => absurd h (by decide)) (fun h => absurd h (by decide)) (fun h => absurd h (by decide)) (fun h => absurd h (by decide)) (fun h => absurd h (by decide)) (fun h => absurd h (by decide)) (fun h => absurd h (by decide)) (fun h => absurd h (by decide)) (fun h => absurd h (by decide)) (fun h => absurd h (by decide)) (fun h => absurd h (by decide)) (fun h => absurd h (by decide)) (fun h => absurd h (by decide)) (fun h => absurd h (by decide))
  · exact sx_q_s_APz_7 hG (by omega) (by omega) ⟨(by rw [sx_au_o (by decide)]; omega), (by rw [sx_au_o (by decide)]; omega), (by rw [sx_au_o (by decide)]; omega), (by rw [sx_au_o (by decide)]; omega), (by rw [sx_au_o (by decide)]; omega), (by rw [sx_au_o (by decide)]; omega), (by rw [sx_au_o (by decide)]; omega), (by rw [sx_au_s rfl]; omega)⟩ (fun h => absurd h (by decide)) (fun h => absurd h (by decide)) (fun h => absurd h (by decide)) (fun h => absurd h (by decide)) (fun h => absurd h (by decide)) (fun h => absurd h (by decide)) (fun h => absurd h (by decide)) (fun h => absurd h (by decide)) (fun h => absurd h (by decide)) (fun h => absurd h (by decide)) (fun h => absurd h (by decide)) (fun h => absurd h (by decide)) (fun h => absurd h (by decide)) (fun h => absurd h (by decide)) (fun h => absurd h (by decide)) (fun h => absurd h (by decide)) (fun h => absurd h (by decide)) (fun h => absurd h (by decide)) (fun h => absurd h (by decide)) (fun h => absurd h (by decide)) (fun h => absurd h (by decide)) (fun h => absurd h (by decide)) (fun h => absurd h (by decide)) (fun h => absurd h (by decide)) (fun h => absurd h (by decide)) (fun h => absurd h (by decide)) (fun h => absurd h (by decide)) (fun h => absurd h (by decide))
theorem sx_p_s_MAm : sx_okr sx_HH true 106 sx_r_s_MAm := by
  intro γ A j y hG hR hj hlo hhi hl hn
  rw [show (sx_cell.get 106).2.2.1 = 12 from by decide +kernel] at hj
  rw [show (sx_cell.get 106).2.2.2.1 = 0 from by decide +kernel] at hlo
  rw [show (sx_cell.get 106).2.2.2.2.1 = 7 from by decide +kernel] at hhi
  have n0 : 0 ≤ (-2) + (1 * γ 18595 + 0) := hn _ (List.Mem.head _)
  have n1 : 0 ≤ 2 + ((-1) * γ 18595 + 0) := hn _ (List.Mem.tail _ (List.Mem.head _))
  clear hn
  obtain ⟨g0, g1, g2, g3, g4, g5, g6, g7, g8, g9, g10, g11, g12, g13, g14, g15, g16, g17, g18, g19, g20, g21, g22, g23, g24, g25, g26, g27, g28, g29, g30, g31, g32, g33, g34, g35, g36⟩ := id hG
  have r_QM := sx_gr_QM hR
  obtain ⟨t0, t1, t2, t3, t4, t5, t6, t7, t8, t9, t10, t11⟩ := g2
  rcases (show j = 0 ∨ j = 1 ∨ j = 2 ∨ j = 3 ∨ j = 4 ∨ j = 5 ∨ j = 6 ∨ j = 7 ∨ j = 8 ∨ j = 9 ∨ j = 10 ∨ j = 11 by omega) with rfl | rfl | rfl | rfl | rfl | rfl | rfl | rfl | rfl | rfl | rfl | rfl
  · exact sx_q_s_MAm_0 hG (by omega) (by omega) ⟨(by rw [sx_au_s rfl]; omega), (by rw [sx_au_o (by decide)]; omega), (by rw [sx_au_o (by decide)]; omega), (by rw [sx_au_o (by decide)]; omega), (by rw [sx_au_o (by decide)]; omega), (by rw [sx_au_o (by decide)]; omega), (by rw [sx_au_o (by decide)]; omega), (by rw [sx_au_o (by decide)]; omega), (by rw [sx_au_o (by decide)]; omega), (by rw [sx_au_o (by decide)]; omega), (by rw [sx_au_o (by decide)]; omega), (by rw [sx_au_o (by decide)]; omega)⟩ (fun h => absurd h (by omega))
  · exact sx_q_s_MAm_1 hG (by omega) (by omega) ⟨(by rw [sx_au_o (by decide)]; omega), (by rw [sx_au_s rfl]; omega), (by rw [sx_au_o (by decide)]; omega), (by rw [sx_au_o (by decide)]; omega), (by rw [sx_au_o (by decide)]; omega), (by rw [sx_au_o (by decide)]; omega), (by rw [sx_au_o (by decide)]; omega), (by rw [sx_au_o (by decide)]; omega), (by rw [sx_au_o (by decide)]; omega), (by rw [sx_au_o (by decide)]; omega), (by rw [sx_au_o (by decide)]; omega), (by rw [sx_au_o (by decide)]; omega)⟩ (fun h => absurd h (by omega))
  · exact sx_q_s_MAm_2 hG (by omega) (by omega) ⟨(by rw [sx_au_o (by decide)]; omega), (by rw [sx_au_o (by decide)]; omega), (by rw [sx_au_s rfl]; omega), (by rw [sx_au_o (by decide)]; omega), (by rw [sx_au_o (by decide)]; omega), (by rw [sx_au_o (by decide)]; omega), (by rw [sx_au_o (by decide)]; omega), (by rw [sx_au_o (by decide)]; omega), (by rw [sx_au_o (by decide)]; omega), (by rw [sx_au_o (by decide)]; omega), (by rw [sx_au_o (by decide)]; omega), (by rw [sx_au_o (by decide)]; omega)⟩ (fun h => absurd h (by omega))
  · exact sx_q_s_MAm_3 hG (by omega) (by omega) ⟨(by rw [sx_au_o (by decide)]; omega), (by rw [sx_au_o (by decide)]; omega), (by rw [sx_au_o (by decide)]; omega), (by rw [sx_au_s rfl]; omega), (by rw [sx_au_o (by decide)]; omega), (by rw [sx_au_o (by decide)]; omega), (by rw [sx_au_o (by decide)]; omega), (by rw [sx_au_o (by decide)]; omega), (by rw [sx_au_o (by decide)]; omega), (by rw [sx_au_o (by decide)]; omega), (by rw [sx_au_o (by decide)]; omega), (by rw [sx_au_o (by decide)]; omega)⟩ (fun h => absurd h (by omega))
  · exact sx_q_s_MAm_4 hG (by omega) (by omega) ⟨(by rw [sx_au_o (by decide)]; omega), (by rw [sx_au_o (by decide)]; omega), (by rw [sx_au_o (by decide)]; omega), (by rw [sx_au_o (by decide)]; omega), (by rw [sx_au_s rfl]; omega), (by rw [sx_au_o (by decide)]; omega), (by rw [sx_au_o (by decide)]; omega), (by rw [sx_au_o (by decide)]; omega), (by rw [sx_au_o (by decide)]; omega), (by rw [sx_au_o (by decide)]; omega), (by rw [sx_au_o (by decide)]; omega), (by rw [sx_au_o (by decide)]; omega)⟩ (fun h => absurd h (by omega))
  · exact sx_q_s_MAm_5 hG (by omega) (by omega) ⟨(by rw [sx_au_o (by decide)]; omega), (by rw [sx_au_o (by decide)]; omega), (by rw [sx_au_o (by decide)]; omega), (by rw [sx_au_o (by decide)]; omega), (by rw [sx_au_o (by decide)]; omega), (by rw [sx_au_s rfl]; omega), (by rw [sx_au_o (by decide)]; omega), (by rw [sx_au_o (by decide)]; omega), (by rw [sx_au_o (by decide)]; omega), (by rw [sx_au_o (by decide)]; omega), (by rw [sx_au_o (by decide)]; omega), (by rw [sx_au_o (by decide)]; omega)⟩ (fun h => absurd h (by omega))
  · exact sx_q_s_MAm_6 hG (by omega) (by omega) ⟨(by rw [sx_au_o (by decide)]; omega), (by rw [sx_au_o (by decide)]; omega), (by rw [sx_au_o (by decide)]; omega), (by rw [sx_au_o (by decide)]; omega), (by rw [sx_au_o (by decide)]; omega), (by rw [sx_au_o (by decide)]; omega), (by rw [sx_au_s rfl]; omega), (by rw [sx_au_o (by decide)]; omega), (by rw [sx_au_o (by decide)]; omega), (by rw [sx_au_o (by decide)]; omega), (by rw [sx_au_o (by decide)]; omega), (by rw [sx_au_o (by decide)]; omega)⟩ (fun h => absurd h (by omega))
  · exact sx_q_s_MAm_7 hG (by omega) (by omega) ⟨(by rw [sx_au_o (by decide)]; omega), (by rw [sx_au_o (by decide)]; omega), (by rw [sx_au_o (by decide)]; omega), (by rw [sx_au_o (by decide)]; omega), (by rw [sx_au_o (by decide)]; omega), (by rw [sx_au_o (by decide)]; omega), (by rw [sx_au_o (by decide)]; omega), (by rw [sx_au_s rfl]; omega), (by rw [sx_au_o (by decide)]; omega), (by rw [sx_au_o (by decide)]; omega), (by rw [sx_au_o (by decide)]; omega), (by rw [sx_au_o (by decide)]; omega)⟩ (fun h => absurd h (by omega))
  · exact sx_q_s_MAm_8 hG (by omega) (by omega) ⟨(by rw [sx_au_o (by decide)]; omega), (by rw [sx_au_o (by decide)]; omega), (by rw [sx_au_o (by decide)]; omega), (by rw [sx_au_o (by decide)]; omega), (by rw [sx_au_o (by decide)]; omega), (by rw [sx_au_o (by decide)]; omega), (by rw [sx_au_o (by decide)]; omega), (by rw [sx_au_o (by decide)]; omega), (by rw [sx_au_s rfl]; omega), (by rw [sx_au_o (by decide)]; omega), (by rw [sx_au_o (by decide)]; omega), (by rw [sx_au_o (by decide)]; omega)⟩ (fun h => absurd h (by omega))
  · exact sx_q_s_MAm_9 hG (by omega) (by omega) ⟨(by rw [sx_au_o (by decide)]; omega), (by rw [sx_au_o (by decide)]; omega), (by rw [sx_au_o (by decide)]; omega), (by rw [sx_au_o (by decide)]; omega), (by rw [sx_au_o (by decide)]; omega), (by rw [sx_au_o (by decide)]; omega), (by rw [sx_au_o (by decide)]; omega), (by rw [sx_au_o (by decide)]; omega), (by rw [sx_au_o (by decide)]; omega), (by rw [sx_au_s rfl]; omega), (by rw [sx_au_o (by decide)]; omega), (by rw [sx_au_o (by decide)]; omega)⟩ (fun h => absurd h (by omega))
  · exact sx_q_s_MAm_10 hG (by omega) (by omega) ⟨(by rw [sx_au_o (by decide)]; omega), (by rw [sx_au_o (by decide)]; omega), (by rw [sx_au_o (by decide)]; omega), (by rw [sx_au_o (by decide)]; omega), (by rw [sx_au_o (by decide)]; omega), (by rw [sx_au_o (by decide)]; omega), (by rw [sx_au_o (by decide)]; omega), (by rw [sx_au_o (by decide)]; omega), (by rw [sx_au_o (by decide)]; omega), (by rw [sx_au_o (by decide)]; omega), (by rw [sx_au_s rfl]; omega), (by rw [sx_au_o (by decide)]; omega)⟩ (fun h => absurd h (by omega))
  · exact sx_q_s_MAm_11 hG (by omega) (by omega) ⟨(by rw [sx_au_o (by decide)]; omega), (by rw [sx_au_o (by decide)]; omega), (by rw [sx_au_o (by decide)]; omega), (by rw [sx_au_o (by decide)]; omega), (by rw [sx_au_o (by decide)]; omega), (by rw [sx_au_o (by decide)]; omega), (by rw [sx_au_o (by decide)]; omega), (by rw [sx_au_o (by decide)]; omega), (by rw [sx_au_o (by decide)]; omega), (by rw [sx_au_o (by decide)]; omega), (by rw [sx_au_o (by decide)]; omega), (by rw [sx_au_s rfl]; omega)⟩ (fun h => absurd h (by omega))
theorem sx_p_s_MAz : sx_okr sx_HH true 106 sx_r_s_MAz := by
  intro γ A j y hG hR hj hlo hhi hl hn
  rw [show (sx_cell.get 106).2.2.1 = 12 from by decide +kernel] at hj
  rw [show (sx_cell.get 106).2.2.2.1 = 0 from by decide +kernel] at hlo
  rw [show (sx_cell.get 106).2.2.2.2.1 = 7 from by decide +kernel] at hhi
  clear hn
  obtain ⟨g0, g1, g2, g3, g4, g5, g6, g7, g8, g9, g10, g11, g12, g13, g14, g15, g16, g17, g18, g19, g20, g21, g22, g23, g24, g25, g26, g27, g28, g29, g30, g31, g32, g33, g34, g35, g36⟩ := id hG
  obtain ⟨t0, t1, t2, t3, t4, t5, t6, t7, t8, t9, t10, t11⟩ := g2
  rcases (show j = 0 ∨ j = 1 ∨ j = 2 ∨ j = 3 ∨ j = 4 ∨ j = 5 ∨ j = 6 ∨ j = 7 ∨ j = 8 ∨ j = 9 ∨ j = 10 ∨ j = 11 by omega) with rfl | rfl | rfl | rfl | rfl | rfl | rfl | rfl | rfl | rfl | rfl | rfl
  · exact sx_q_s_MAz_0 hG (by omega) (by omega) ⟨(by rw [sx_au_s rfl]; omega), (by rw [sx_au_o (by decide)]; omega), (by rw [sx_au_o (by decide)]; omega), (by rw [sx_au_o (by decide)]; omega), (by rw [sx_au_o (by decide)]; omega), (by rw [sx_au_o (by decide)]; omega), (by rw [sx_au_o (by decide)]; omega), (by rw [sx_au_o (by decide)]; omega), (by rw [sx_au_o (by decide)]; omega), (by rw [sx_au_o (by decide)]; omega), (by rw [sx_au_o (by decide)]; omega), (by rw [sx_au_o (by decide)]; omega)⟩ (fun h => absurd h (by decide)) (fun h => absurd h (by decide)) (fun h => absurd h (by decide)) (fun h => absurd h (by decide)) (fun h => absurd h (by decide)) (fun h => absurd h (by decide)) (fun h => absurd h (by decide)) (fun h => absurd h (by decide)) (fun h => absurd h (by decide)) (fun h => absurd h (by decide)) (fun h => absurd h (by decide)) (fun h => absurd h (by decide)) (fun h => absurd h (by decide)) (fun h => absurd h (by decide)) (fun h => absurd h (by decide)) (fun h => absurd h (by decide)) (fun h => absurd h (by decide)) (fun h => absurd h (by decide)) (fun h => absurd h (by decide)) (fun h => absurd h (by decide)) (fun h => absurd h (by decide)) (fun h => absurd h (by decide)) (fun h => absurd h (by decide)) (fun h => absurd h (by decide)) (fun h => absurd h (by decide)) (fun h => absurd h (by decide)) (fun h => absurd h (by decide)) (fun h => absurd h (by decide))
  · exact sx_q_s_MAz_1 hG (by omega) (by omega) ⟨(by rw [sx_au_o (by decide)]; omega), (by rw [sx_au_s rfl]; omega), (by rw [sx_au_o (by decide)]; omega), (by rw [sx_au_o (by decide)]; omega), (by rw [sx_au_o (by decide)]; omega), (by rw [sx_au_o (by decide)]; omega), (by rw [sx_au_o (by decide)]; omega), (by rw [sx_au_o (by decide)]; omega), (by rw [sx_au_o (by decide)]; omega), (by rw [sx_au_o (by decide)]; omega), (by rw [sx_au_o (by decide)]; omega), (by rw [sx_au_o (by decide)]; omega)⟩ (fun h => absurd h (by decide)) (fun h => absurd h (by decide)) (fun h => absurd h (by decide)) (fun h => absurd h (by decide)) (fun h => absurd h (by decide)) (fun h => absurd h (by decide)) (fun h => absurd h (by decide)) (fun h => absurd h (by decide)) (fun h => absurd h (by decide)) (fun h => absurd h (by decide)) (fun h => absurd h (by decide)) (fun h => absurd h (by decide)) (fun h => absurd h (by decide)) (fun h => absurd h (by decide)) (fun h => absurd h (by decide)) (fun h => absurd h (by decide)) (fun h => absurd h (by decide)) (fun h => absurd h (by decide)) (fun h => absurd h (by decide)) (fun h => absurd h (by decide)) (fun h => absurd h (by decide)) (fun h => absurd h (by decide)) (fun h => absurd h (by decide)) (fun h => absurd h (by decide)) (fun h => absurd h (by decide)) (fun h => absurd h (by decide)) (fun h => absurd h (by decide)) (fun h => absurd h (by decide))
  · exact sx_q_s_MAz_2 hG (by omega) (by omega) ⟨(by rw [sx_au_o (by decide)]; omega), (by rw [sx_au_o (by decide)]; omega), (by rw [sx_au_s rfl]; omega), (by rw [sx_au_o (by decide)]; omega), (by rw [sx_au_o (by decide)]; omega), (by rw [sx_au_o (by decide)]; omega), (by rw [sx_au_o (by decide)]; omega), (by rw [sx_au_o (by decide)]; omega), (by rw [sx_au_o (by decide)]; omega), (by rw [sx_au_o (by decide)]; omega), (by rw [sx_au_o (by decide)]; omega), (by rw [sx_au_o (by decide)]; omega)⟩ (fun h => absurd h (by decide)) (fun h => absurd h (by decide)) (fun h => absurd h (by decide)) (fun h => absurd h (by decide)) (fun h => absurd h (by decide)) (fun h => absurd h (by decide)) (fun h => absurd h (by decide)) (fun h => absurd h (by decide)) (fun h => absurd h (by decide)) (fun h => absurd h (by decide)) (fun h => absurd h (by decide)) (fun h => absurd h (by decide)) (fun h => absurd h (by decide)) (fun h => absurd h (by decide)) (fun h => absurd h (by decide)) (fun h => absurd h (by decide)) (fun h => absurd h (by decide)) (fun h => absurd h (by decide)) (fun h => absurd h (by decide)) (fun h => absurd h (by decide)) (fun h => absurd h (by decide)) (fun h => absurd h (by decide)) (fun h => absurd h (by decide)) (fun h => absurd h (by decide)) (fun h => absurd h (by decide)) (fun h => absurd h (by decide)) (fun h => absurd h (by decide)) (fun h => absurd h (by decide))
  · exact sx_q_s_MAz_3 hG (by omega) (by omega) ⟨(by rw [sx_au_o (by decide)]; omega), (by rw [sx_au_o (by decide)]; omega), (by rw [sx_au_o (by decide)]; omega), (by rw [sx_au_s rfl]; omega), (by rw [sx_au_o (by decide)]; omega), (by rw [sx_au_o (by decide)]; omega), (by rw [sx_au_o (by decide)]; omega), (by rw [sx_au_o (by decide)]; omega), (by rw [sx_au_o (by decide)]; omega), (by rw [sx_au_o (by decide)]; omega), (by rw [sx_au_o (by decide)]; omega), (by rw [sx_au_o (by decide)]; omega)⟩ (fun h => absurd h (by decide)) (fun h => absurd h (by decide)) (fun h => absurd h (by decide)) (fun h => absurd h (by decide)) (fun h => absurd h (by decide)) (fun h => absurd h (by decide)) (fun h => absurd h (by decide)) (fun h => absurd h (by decide)) (fun h => absurd h (by decide)) (fun h => absurd h (by decide)) (fun h => absurd h (by decide)) (fun h => absurd h (by decide)) (fun h => absurd h (by decide)) (fun h => absurd h (by decide)) (fun h => absurd h (by decide)) (fun h => absurd h (by decide)) (fun h => absurd h (by decide)) (fun h => absurd h (by decide)) (fun h => absurd h (by decide)) (fun h => absurd h (by decide)) (fun h => absurd h (by decide)) (fun h => absurd h (by decide)) (fun h => absurd h (by decide)) (fun h => absurd h (by decide)) (fun h => absurd h (by decide)) (fun h => absurd h (by decide)) (fun h => absurd h (by decide)) (fun h => absurd h (by decide))
  · exact sx_q_s_MAz_4 hG (by omega) (by omega) ⟨(by rw [sx_au_o (by decide)]; omega), (by rw [sx_au_o (by decide)]; omega), (by rw [sx_au_o (by decide)]; omega), (by rw [sx_au_o (by decide)]; omega), (by rw [sx_au_s rfl]; omega), (by rw [sx_au_o (by decide)]; omega), (by rw [sx_au_o (by decide)]; omega), (by rw [sx_au_o (by decide)]; omega), (by rw [sx_au_o (by decide)]; omega), (by rw [sx_au_o (by decide)]; omega), (by rw [sx_au_o (by decide)]; omega), (by rw [sx_au_o (by decide)]; omega)⟩ (fun h => absurd h (by decide)) (fun h => absurd h (by decide)) (fun h => absurd h (by decide)) (fun h => absurd h (by decide)) (fun h => absurd h (by decide)) (fun h => absurd h (by decide)) (fun h => absurd h (by decide)) (fun h => absurd h (by decide)) (fun h => absurd h (by decide)) (fun h => absurd h (by decide)) (fun h => absurd h (by decide)) (fun h => absurd h (by decide)) (fun h => absurd h (by decide)) (fun h => absurd h (by decide)) (fun h => absurd h (by decide)) (fun h => absurd h (by decide)) (fun h => absurd h (by decide)) (fun h => absurd h (by decide)) (fun h => absurd h (by decide)) (fun h => absurd h (by decide)) (fun h => absurd h (by decide)) (fun h => absurd h (by decide)) (fun h => absurd h (by decide)) (fun h => absurd h (by decide)) (fun h => absurd h (by decide)) (fun h => absurd h (by decide)) (fun h => absurd h (by decide)) (fun h => absurd h (by decide))
  · exact sx_q_s_MAz_5 hG (by omega) (by omega) ⟨(by rw [sx_au_o (by decide)]; omega), (by rw [sx_au_o (by decide)]; omega), (by rw [sx_au_o (by decide)]; omega), (by rw [sx_au_o (by decide)]; omega), (by rw [sx_au_o (by decide)]; omega), (by rw [sx_au_s rfl]; omega), (by rw [sx_au_o (by decide)]; omega), (by rw [sx_au_o (by decide)]; omega), (by rw [sx_au_o (by decide)]; omega), (by rw [sx_au_o (by decide)]; omega), (by rw [sx_au_o (by decide)]; omega), (by rw [sx_au_o (by decide)]; omega)⟩ (fun h => absurd h (by decide)) (fun h => absurd h (by decide)) (fun h => absurd h (by decide)) (fun h => absurd h (by decide)) (fun h => absurd h (by decide)) (fun h => absurd h (by decide)) (fun h => absurd h (by decide)) (fun h => absurd h (by decide)) (fun h => absurd h (by decide)) (fun h => absurd h (by decide)) (fun h => absurd h (by decide)) (fun h => absurd h (by decide)) (fun h => absurd h (by decide)) (fun h => absurd h (by decide)) (fun h => absurd h (by decide)) (fun h => absurd h (by decide)) (fun h => absurd h (by decide)) (fun h => absurd h (by decide)) (fun h => absurd h (by decide)) (fun h => absurd h (by decide)) (fun h => absurd h (by decide)) (fun h => absurd h (by decide)) (fun h => absurd h (by decide)) (fun h => absurd h (by decide)) (fun h => absurd h (by decide)) (fun h => absurd h (by decide)) (fun h => absurd h (by decide)) (fun h => absurd h (by decide))
  · exact sx_q_s_MAz_6 hG (by omega) (by omega) ⟨(by rw [sx_au_o (by decide)]; omega), (by rw [sx_au_o (by decide)]; omega), (by rw [sx_au_o (by decide)]; omega), (by rw [sx_au_o (by decide)]; omega), (by rw [sx_au_o (by decide)]; omega), (by rw [sx_au_o (by decide)]; omega), (by rw [sx_au_s rfl]; omega), (by rw [sx_au_o (by decide)]; omega), (by rw [sx_au_o (by decide)]; omega), (by rw [sx_au_o (by decide)]; omega), (by rw [sx_au_o (by decide)]; omega), (by rw [sx_au_o (by decide)]; omega)⟩ (fun h => absurd h (by decide)) (fun h => absurd h (by decide)) (fun h => absurd h (by decide)) (fun h => absurd h (by decide)) (fun h => absurd h (by decide)) (fun h => absurd h (by decide)) (fun h => absurd h (by decide)) (fun h => absurd h (by decide)) (fun h => absurd h (by decide)) (fun h => absurd h (by decide)) (fun h => absurd h (by decide)) (fun h => absurd h (by decide)) (fun h => absurd h (by decide)) (fun h => absurd h (by decide)) (fun h => absurd h (by decide)) (fun h => absurd h (by decide)) (fun h => absurd h (by decide)) (fun h => absurd h (by decide)) (fun h => absurd h (by decide)) (fun h => absurd h (by decide)) (fun h => absurd h (by decide)) (fun h => absurd h (by decide)) (fun h => absurd h (by decide)) (fun h => absurd h (by decide)) (fun h => absurd h (by decide)) (fun h => absurd h (by decide)) (fun h => absurd h (by decide)) (fun h => absurd h (by decide))
  · exact sx_q_s_MAz_7 hG (by omega) (by omega) ⟨(by rw [sx_au_o (by decide)]; omega), (by rw [sx_au_o (by decide)]; omega), (by rw [sx_au_o (by decide)]; omega), (by rw [sx_au_o (by decide)]; omega), (by rw [sx_au_o (by decide)]; omega), (by rw [sx_au_o (by decide)]; omega), (by rw [sx_au_o (by decide)]; omega), (by rw [sx_au_s rfl]; omega), (by rw [sx_au_o (by decide)]; omega), (by rw [sx_au_o (by decide)]; omega), (by rw [sx_au_o (by decide)]; omega), (by rw [sx_au_o (by decide)]; omega)⟩ (fun h => absurd h (by decide)) (fun h => absurd h (by decide)) (fun h => absurd h (by decide)) (fun h => absurd h (by decide)) (fun h => absurd h (by decide)) (fun h => absurd h (by decide)) (fun h => absurd h (by decide)) (fun h => absurd h (by decide)) (fun h => absurd h (by decide)) (fun h => absurd h (by decide)) (fun h => absurd h (by decide)) (fun h => absurd h (by decide)) (fun h => absurd h (by decide)) (fun h => absurd h (by decide)) (fun h => absurd h (by decide)) (fun h => absurd h (by decide)) (fun h => absurd h (by decide)) (fun h => absurd h (by decide)) (fun h => absurd h (by decide)) (fun h => absurd h (by decide)) (fun h => absurd h (by decide)) (fun h => absurd h (by decide)) (fun h => absurd h (by decide)) (fun h => absurd h (by decide)) (fun h => absurd h (by decide)) (fun h => absurd h (by decide)) (fun h => absurd h (by decide)) (fun h => absurd h (by decide))
  · exact sx_q_s_MAz_8 hG (by omega) (by omega) ⟨(by rw [sx_au_o (by decide)]; omega), (by rw [sx_au_o (by decide)]; omega), (by rw [sx_au_o (by decide)]; omega), (by rw [sx_au_o (by decide)]; omega), (by rw [sx_au_o (by decide)]; omega), (by rw [sx_au_o (by decide)]; omega), (by rw [sx_au_o (by decide)]; omega), (by rw [sx_au_o (by decide)]; omega), (by rw [sx_au_s rfl]; omega), (by rw [sx_au_o (by decide)]; omega), (by rw [sx_au_o (by decide)]; omega), (by rw [sx_au_o (by decide)]; omega)⟩ (fun h => absurd h (by decide)) (fun h => absurd h (by decide)) (fun h => absurd h (by decide)) (fun h => absurd h (by decide)) (fun h => absurd h (by decide)) (fun h => absurd h (by decide)) (fun h => absurd h (by decide)) (fun h => absurd h (by decide)) (fun h => absurd h (by decide)) (fun h => absurd h (by decide)) (fun h => absurd h (by decide)) (fun h => absurd h (by decide)) (fun h => absurd h (by decide)) (fun h => absurd h (by decide)) (fun h => absurd h (by decide)) (fun h => absurd h (by decide)) (fun h => absurd h (by decide)) (fun h => absurd h (by decide)) (fun h => absurd h (by decide)) (fun h => absurd h (by decide)) (fun h => absurd h (by decide)) (fun h => absurd h (by decide)) (fun h => absurd h (by decide)) (fun h => absurd h (by decide)) (fun h => absurd h (by decide)) (fun h => absurd h (by decide)) (fun h => absurd h (by decide)) (fun h => absurd h (by decide))
  · exact sx_q_s_MAz_9 hG (by omega) (by omega) ⟨(by rw [sx_au_o (by decide)]; omega), (by rw [sx_au_o (by decide)]; omega), (by rw [sx_au_o (by decide)]; omega), (by rw [sx_au_o (by decide)]; omega), (by rw [sx_au_o (by decide)]; omega), (by rw [sx_au_o (by decide)]; omega), (by rw [sx_au_o (by decide)]; omega), (by rw [sx_au_o (by decide)]; omega), (by rw [sx_au_o (by decide)]; omega), (by rw [sx_au_s rfl]; omega), (by rw [sx_au_o (by decide)]; omega), (by rw [sx_au_o (by decide)]; omega)⟩ (fun h => absurd h (by decide)) (fun h => absurd h (by decide)) (fun h => absurd h (by decide)) (fun h => absurd h (by decide)) (fun h => absurd h (by decide)) (fun h => absurd h (by decide)) (fun h => absurd h (by decide)) (fun h => absurd h (by decide)) (fun h => absurd h (by decide)) (fun h => absurd h (by decide)) (fun h => absurd h (by decide)) (fun h => absurd h (by decide)) (fun h => absurd h (by decide)) (fun h => absurd h (by decide)) (fun h => absurd h (by decide)) (fun h => absurd h (by decide)) (fun h => absurd h (by decide)) (fun h => absurd h (by decide)) (fun h => absurd h (by decide)) (fun h => absurd h (by decide)) (fun h => absurd h (by decide)) (fun h => absurd h (by decide)) (fun h => absurd h (by decide)) (fun h => absurd h (by decide)) (fun h => absurd h (by decide)) (fun h => absurd h (by decide)) (fun h => absurd h (by decide)) (fun h => absurd h (by decide))
  · exact sx_q_s_MAz_10 hG (by omega) (by omega) ⟨(by rw [sx_au_o (by decide)]; omega), (by rw [sx_au_o (by decide)]; omega), (by rw [sx_au_o (by decide)]; omega), (by rw [sx_au_o (by decide)]; omega), (by rw [sx_au_o (by decide)]; omega), (by rw [sx_au_o (by decide)]; omega), (by rw [sx_au_o (by decide)]; omega), (by rw [sx_au_o (by decide)]; omega), (by rw [sx_au_o (by decide)]; omega), (by rw [sx_au_o (by decide)]; omega), (by rw [sx_au_s rfl]; omega), (by rw [sx_au_o (by decide)]; omega)⟩ (fun h => absurd h (by decide)) (fun h => absurd h (by decide)) (fun h => absurd h (by decide)) (fun h => absurd h (by decide)) (fun h => absurd h (by decide)) (fun h => absurd h (by decide)) (fun h => absurd h (by decide)) (fun h => absurd h (by decide)) (fun h => absurd h (by decide)) (fun h => absurd h (by decide)) (fun h => absurd h (by decide)) (fun h => absurd h (by decide)) (fun h => absurd h (by decide)) (fun h => absurd h (by decide)) (fun h => absurd h (by decide)) (fun h => absurd h (by decide)) (fun h => absurd h (by decide)) (fun h => absurd h (by decide)) (fun h => absurd h (by decide)) (fun h => absurd h (by decide)) (fun h => absurd h (by decide)) (fun h => absurd h (by decide)) (fun h => absurd h (by decide)) (fun h => absurd h (by decide)) (fun h => absurd h (by decide)) (fun h => absurd h (by decide)) (fun h => absurd h (by decide)) (fun h => absurd h (by decide))
  · exact sx_q_s_MAz_11 hG (by omega) (by omega) ⟨(by rw [sx_au_o (by decide)]; omega), (by rw [sx_au_o (by decide)]; omega), (by rw [sx_au_o (by decide)]; omega), (by rw [sx_au_o (by decide)]; omega), (by rw [sx_au_o (by decide)]; omega), (by rw [sx_au_o (by decide)]; omega), (by rw [sx_au_o (by decide)]; omega), (by rw [sx_au_o (by decide)]; omega), (by rw [sx_au_o (by decide)]; omega), (by rw [sx_au_o (by decide)]; omega), (by rw [sx_au_o (by decide)]; omega), (by rw [sx_au_s rfl]; omega)⟩ (fun h => absurd h (by decide)) (fun h => absurd h (by decide)) (fun h => absurd h (by decide)) (fun h => absurd h (by decide)) (fun h => absurd h (by decide)) (fun h => absurd h (by decide)) (fun h => absurd h (by decide)) (fun h => absurd h (by decide)) (fun h => absurd h (by decide)) (fun h => absurd h (by decide)) (fun h => absurd h (by decide)) (fun h => absurd h (by decide)) (fun h => absurd h (by decide)) (fun h => absurd h (by decide)) (fun h => absurd h (by decide)) (fun h => absurd h (by decide)) (fun h => absurd h (by decide)) (fun h => absurd h (by decide)) (fun h => absurd h (by decide)) (fun h => absurd h (by decide)) (fun h => absurd h (by decide)) (fun h => absurd h (by decide)) (fun h => absurd h (by decide)) (fun h => absurd h (by decide)) (fun h => absurd h (by decide)) (fun h => absurd h (by decide)) (fun h => absurd h (by decide)) (fun h => absurd h (by decide))
theorem sx_p_s_MBm : sx_okr sx_HH true 107 sx_r_s_MBm := by
  intro γ A j y hG hR hj hlo hhi hl hn
  rw [show (sx_cell.get 107).2.2.1 = 12 from by decide +kernel] at hj
  rw [show (sx_cell.get 107).2.2.2.1 = 0 from by decide +kernel] at hlo
  rw [show (sx_cell.get 107).2.2.2.2.1 = 7 from by decide +kernel] at hhi
  have n0 : 0 ≤ (-2) + (1 * γ 18595 + 0) := hn _ (List.Mem.head _)
  have n1 : 0 ≤ 2 + ((-1) * γ 18595 + 0) := hn _ (List.Mem.tail _ (List.Mem.head _))
  clear hn
  obtain ⟨g0, g1, g2, g3, g4, g5, g6, g7, g8, g9, g10, g11, g12, g13, g14, g15, g16, g17, g18, g19, g20, g21, g22, g23, g24, g25, g26, g27, g28, g29, g30, g31, g32, g33, g34, g35, g36⟩ := id hG
  have r_QM := sx_gr_QM hR
  obtain ⟨t0, t1, t2, t3, t4, t5, t6, t7, t8, t9, t10, t11⟩ := g3
  rcases (show j = 0 ∨ j = 1 ∨ j = 2 ∨ j = 3 ∨ j = 4 ∨ j = 5 ∨ j = 6 ∨ j = 7 ∨ j = 8 ∨ j = 9 ∨ j = 10 ∨ j = 11 by omega) with rfl | rfl | rfl | rfl | rfl | rfl | rfl | rfl | rfl | rfl | rfl | rfl
  · exact sx_q_s_MBm_0 hG (by omega) (by omega) ⟨(by rw [sx_au_s rfl]; omega), (by rw [sx_au_o (by decide)]; omega), (by rw [sx_au_o (by decide)]; omega), (by rw [sx_au_o (by decide)]; omega), (by rw [sx_au_o (by decide)]; omega), (by rw [sx_au_o (by decide)]; omega), (by rw [sx_au_o (by decide)]; omega), (by rw [sx_au_o (by decide)]; omega), (by rw [sx_au_o (by decide)]; omega), (by rw [sx_au_o (by decide)]; omega), (by rw [sx_au_o (by decide)]; omega), (by rw [sx_au_o (by decide)]; omega)⟩ (fun h => absurd h (by omega))
  · exact sx_q_s_MBm_1 hG (by omega) (by omega) ⟨(by rw [sx_au_o (by decide)]; omega), (by rw [sx_au_s rfl]; omega), (by rw [sx_au_o (by decide)]; omega), (by rw [sx_au_o (by decide)]; omega), (by rw [sx_au_o (by decide)]; omega), (by rw [sx_au_o (by decide)]; omega), (by rw [sx_au_o (by decide)]; omega), (by rw [sx_au_o (by decide)]; omega), (by rw [sx_au_o (by decide)]; omega), (by rw [sx_au_o (by decide)]; omega), (by rw [sx_au_o (by decide)]; omega), (by rw [sx_au_o (by decide)]; omega)⟩ (fun h => absurd h (by omega))
  · exact sx_q_s_MBm_2 hG (by omega) (by omega) ⟨(by rw [sx_au_o (by decide)]; omega), (by rw [sx_au_o (by decide)]; omega), (by rw [sx_au_s rfl]; omega), (by rw [sx_au_o (by decide)]; omega), (by rw [sx_au_o (by decide)]; omega), (by rw [sx_au_o (by decide)]; omega), (by rw [sx_au_o (by decide)]; omega), (by rw [sx_au_o (by decide)]; omega), (by rw [sx_au_o (by decide)]; omega), (by rw [sx_au_o (by decide)]; omega), (by rw [sx_au_o (by decide)]; omega), (by rw [sx_au_o (by decide)]; omega)⟩ (fun h => absurd h (by omega))
  · exact sx_q_s_MBm_3 hG (by omega) (by omega) ⟨(by rw [sx_au_o (by decide)]; omega), (by rw [sx_au_o (by decide)]; omega), (by rw [sx_au_o (by decide)]; omega), (by rw [sx_au_s rfl]; omega), (by rw [sx_au_o (by decide)]; omega), (by rw [sx_au_o (by decide)]; omega), (by rw [sx_au_o (by decide)]; omega), (by rw [sx_au_o (by decide)]; omega), (by rw [sx_au_o (by decide)]; omega), (by rw [sx_au_o (by decide)]; omega), (by rw [sx_au_o (by decide)]; omega), (by rw [sx_au_o (by decide)]; omega)⟩ (fun h => absurd h (by omega))
  · exact sx_q_s_MBm_4 hG (by omega) (by omega) ⟨(by rw [sx_au_o (by decide)]; omega), (by rw [sx_au_o (by decide)]; omega), (by rw [sx_au_o (by decide)]; omega), (by rw [sx_au_o (by decide)]; omega), (by rw [sx_au_s rfl]; omega), (by rw [sx_au_o (by decide)]; omega), (by rw [sx_au_o (by decide)]; omega), (by rw [sx_au_o (by decide)]; omega), (by rw [sx_au_o (by decide)]; omega), (by rw [sx_au_o (by decide)]; omega), (by rw [sx_au_o (by decide)]; omega), (by rw [sx_au_o (by decide)]; omega)⟩ (fun h => absurd h (by omega))
  · exact sx_q_s_MBm_5 hG (by omega) (by omega) ⟨(by rw [sx_au_o (by decide)]; omega), (by rw [sx_au_o (by decide)]; omega), (by rw [sx_au_o (by decide)]; omega), (by rw [sx_au_o (by decide)]; omega), (by rw [sx_au_o (by decide)]; omega), (by rw [sx_au_s rfl]; omega), (by rw [sx_au_o (by decide)]; omega), (by rw [sx_au_o (by decide)]; omega), (by rw [sx_au_o (by decide)]; omega), (by rw [sx_au_o (by decide)]; omega), (by rw [sx_au_o (by decide)]; omega), (by rw [sx_au_o (by decide)]; omega)⟩ (fun h => absurd h (by omega))
  · exact sx_q_s_MBm_6 hG (by omega) (by omega) ⟨(by rw [sx_au_o (by decide)]; omega), (by rw [sx_au_o (by decide)]; omega), (by rw [sx_au_o (by decide)]; omega), (by rw [sx_au_o (by decide)]; omega), (by rw [sx_au_o (by decide)]; omega), (by rw [sx_au_o (by decide)]; omega), (by rw [sx_au_s rfl]; omega), (by rw [sx_au_o (by decide)]; omega), (by rw [sx_au_o (by decide)]; omega), (by rw [sx_au_o (by decide)]; omega), (by rw [sx_au_o (by decide)]; omega), (by rw [sx_au_o (by decide)]; omega)⟩ (fun h => absurd h (by omega))
  · exact sx_q_s_MBm_7 hG (by omega) (by omega) ⟨(by rw [sx_au_o (by decide)]; omega), (by rw [sx_au_o (by decide)]; omega), (by rw [sx_au_o (by decide)]; omega), (by rw [sx_au_o (by decide)]; omega), (by rw [sx_au_o (by decide)]; omega), (by rw [sx_au_o (by decide)]; omega), (by rw [sx_au_o (by decide)]; omega), (by rw [sx_au_s rfl]; omega), (by rw [sx_au_o (by decide)]; omega), (by rw [sx_au_o (by decide)]; omega), (by rw [sx_au_o (by decide)]; omega), (by rw [sx_au_o (by decide)]; omega)⟩ (fun h => absurd h (by omega))
  · exact sx_q_s_MBm_8 hG (by omega) (by omega) ⟨(by rw [sx_au_o (by decide)]; omega), (by rw [sx_au_o (by decide)]; omega), (by rw [sx_au_o (by decide)]; omega), (by rw [sx_au_o (by decide)]; omega), (by rw [sx_au_o (by decide)]; omega), (by rw [sx_au_o (by decide)]; omega), (by rw [sx_au_o (by decide)]; omega), (by rw [sx_au_o (by decide)]; omega), (by rw [sx_au_s rfl]; omega), (by rw [sx_au_o (by decide)]; omega), (by rw [sx_au_o (by decide)]; omega), (by rw [sx_au_o (by decide)]; omega)⟩ (fun h => absurd h (by omega))
  · exact sx_q_s_MBm_9 hG (by omega) (by omega) ⟨(by rw [sx_au_o (by decide)]; omega), (by rw [sx_au_o (by decide)]; omega), (by rw [sx_au_o (by decide)]; omega), (by rw [sx_au_o (by decide)]; omega), (by rw [sx_au_o (by decide)]; omega), (by rw [sx_au_o (by decide)]; omega), (by rw [sx_au_o (by decide)]; omega), (by rw [sx_au_o (by decide)]; omega), (by rw [sx_au_o (by decide)]; omega), (by rw [sx_au_s rfl]; omega), (by rw [sx_au_o (by decide)]; omega), (by rw [sx_au_o (by decide)]; omega)⟩ (fun h => absurd h (by omega))
  · exact sx_q_s_MBm_10 hG (by omega) (by omega) ⟨(by rw [sx_au_o (by decide)]; omega), (by rw [sx_au_o (by decide)]; omega), (by rw [sx_au_o (by decide)]; omega), (by rw [sx_au_o (by decide)]; omega), (by rw [sx_au_o (by decide)]; omega), (by rw [sx_au_o (by decide)]; omega), (by rw [sx_au_o (by decide)]; omega), (by rw [sx_au_o (by decide)]; omega), (by rw [sx_au_o (by decide)]; omega), (by rw [sx_au_o (by decide)]; omega), (by rw [sx_au_s rfl]; omega), (by rw [sx_au_o (by decide)]; omega)⟩ (fun h => absurd h (by omega))
  · exact sx_q_s_MBm_11 hG (by omega) (by omega) ⟨(by rw [sx_au_o (by decide)]; omega), (by rw [sx_au_o (by decide)]; omega), (by rw [sx_au_o (by decide)]; omega), (by rw [sx_au_o (by decide)]; omega), (by rw [sx_au_o (by decide)]; omega), (by rw [sx_au_o (by decide)]; omega), (by rw [sx_au_o (by decide)]; omega), (by rw [sx_au_o (by decide)]; omega), (by rw [sx_au_o (by decide)]; omega), (by rw [sx_au_o (by decide)]; omega), (by rw [sx_au_o (by decide)]; omega), (by rw [sx_au_s rfl]; omega)⟩ (fun h => absurd h (by omega))
theorem sx_p_s_MBz : sx_okr sx_HH true 107 sx_r_s_MBz := by
  intro γ A j y hG hR hj hlo hhi hl hn
  rw [show (sx_cell.get 107).2.2.1 = 12 from by decide +kernel] at hj
  rw [show (sx_cell.get 107).2.2.2.1 = 0 from by decide +kernel] at hlo
  rw [show (sx_cell.get 107).2.2.2.2.1 = 7 from by decide +kernel] at hhi
  clear hn
  obtain ⟨g0, g1, g2, g3, g4, g5, g6, g7, g8, g9, g10, g11, g12, g13, g14, g15, g16, g17, g18, g19, g20, g21, g22, g23, g24, g25, g26, g27, g28, g29, g30, g31, g32, g33, g34, g35, g36⟩ := id hG
  obtain ⟨t0, t1, t2, t3, t4, t5, t6, t7, t8, t9, t10, t11⟩ := g3
  rcases (show j = 0 ∨ j = 1 ∨ j = 2 ∨ j = 3 ∨ j = 4 ∨ j = 5 ∨ j = 6 ∨ j = 7 ∨ j = 8 ∨ j = 9 ∨ j = 10 ∨ j = 11 by omega) with rfl | rfl | rfl | rfl | rfl | rfl | rfl | rfl | rfl | rfl | rfl | rfl
  · exact sx_q_s_MBz_0 hG (by omega) (by omega) ⟨(by rw [sx_au_s rfl]; omega), (by rw [sx_au_o (by decide)]; omega), (by rw [sx_au_o (by decide)]; omega), (by rw [sx_au_o (by decide)]; omega), (by rw [sx_au_o (by decide)]; omega), (by rw [sx_au_o (by decide)]; omega), (by rw [sx_au_o (by decide)]; omega), (by rw [sx_au_o (by decide)]; omega), (by rw [sx_au_o (by decide)]; omega), (by rw [sx_au_o (by decide)]; omega), (by rw [sx_au_o (by decide)]; omega), (by rw [sx_au_o (by decide)]; omega)⟩ (fun h => absurd h (by decide)) (fun h => absurd h (by decide)) (fun h => absurd h (by decide)) (fun h => absurd h (by decide)) (fun h => absurd h (by decide)) (fun h => absurd h (by decide)) (fun h => absurd h (by decide)) (fun h => absurd h (by decide)) (fun h => absurd h (by decide)) (fun h => absurd h (by decide)) (fun h => absurd h (by decide)) (fun h => absurd h (by decide)) (fun h => absurd h (by decide)) (fun h => absurd h (by decide)) (fun h => absurd h (by decide)) (fun h => absurd h (by decide)) (fun h => absurd h (by decide)) (fun h => absurd h (by decide)) (fun h => absurd h (by decide)) (fun h => absurd h (by decide)) (fun h => absurd h (by decide)) (fun h => absurd h (by decide)) (fun h => absurd h (by decide)) (fun h => absurd h (by decide)) (fun h => absurd h (by decide)) (fun h => absurd h (by decide)) (fun h => absurd h (by decide)) (fun h => absurd h (by decide))
  · exact sx_q_s_MBz_1 hG (by omega) (by omega) ⟨(by rw [sx_au_o (by decide)]; omega), (by rw [sx_au_s rfl]; omega), (by rw [sx_au_o (by decide)]; omega), (by rw [sx_au_o (by decide)]; omega), (by rw [sx_au_o (by decide)]; omega), (by rw [sx_au_o (by decide)]; omega), (by rw [sx_au_o (by decide)]; omega), (by rw [sx_au_o (by decide)]; omega), (by rw [sx_au_o (by decide)]; omega), (by rw [sx_au_o (by decide)]; omega), (by rw [sx_au_o (by decide)]; omega), (by rw [sx_au_o (by decide)]; omega)⟩ (fun h => absurd h (by decide)) (fun h => absurd h (by decide)) (fun h => absurd h (by decide)) (fun h => absurd h (by decide)) (fun h => absurd h (by decide)) (fun h => absurd h (by decide)) (fun h => absurd h (by decide)) (fun h => absurd h (by decide)) (fun h => absurd h (by decide)) (fun h => absurd h (by decide)) (fun h => absurd h (by decide)) (fun h => absurd h (by decide)) (fun h => absurd h (by decide)) (fun h => absurd h (by decide)) (fun h => absurd h (by decide)) (fun h => absurd h (by decide)) (fun h => absurd h (by decide)) (fun h => absurd h (by decide)) (fun h => absurd h (by decide)) (fun h => absurd h (by decide)) (fun h => absurd h (by decide)) (fun h => absurd h (by decide)) (fun h => absurd h (by decide)) (fun h => absurd h (by decide)) (fun h => absurd h (by decide)) (fun h => absurd h (by decide)) (fun h => absurd h (by decide)) (fun h => absurd h (by decide))
  · exact sx_q_s_MBz_2 hG (by omega) (by omega) ⟨(by rw [sx_au_o (by decide)]; omega), (by rw [sx_au_o (by decide)]; omega), (by rw [sx_au_s rfl]; omega), (by rw [sx_au_o (by decide)]; omega), (by rw [sx_au_o (by decide)]; omega), (by rw [sx_au_o (by decide)]; omega), (by rw [sx_au_o (by decide)]; omega), (by rw [sx_au_o (by decide)]; omega), (by rw [sx_au_o (by decide)]; omega), (by rw [sx_au_o (by decide)]; omega), (by rw [sx_au_o (by decide)]; omega), (by rw [sx_au_o (by decide)]; omega)⟩ (fun h => absurd h (by decide)) (fun h => absurd h (by decide)) (fun h => absurd h (by decide)) (fun h => absurd h (by decide)) (fun h => absurd h (by decide)) (fun h => absurd h (by decide)) (fun h => absurd h (by decide)) (fun h => absurd h (by decide)) (fun h => absurd h (by decide)) (fun h => absurd h (by decide)) (fun h => absurd h (by decide)) (fun h => absurd h (by decide)) (fun h => absurd h (by decide)) (fun h => absurd h (by decide)) (fun h => absurd h (by decide)) (fun h => absurd h (by decide)) (fun h => absurd h (by decide)) (fun h => absurd h (by decide)) (fun h => absurd h (by decide)) (fun h => absurd h (by decide)) (fun h => absurd h (by decide)) (fun h => absurd h (by decide)) (fun h => absurd h (by decide)) (fun h => absurd h (by decide)) (fun h => absurd h (by decide)) (fun h => absurd h (by decide)) (fun h => absurd h (by decide)) (fun h => absurd h (by decide))
  · exact sx_q_s_MBz_3 hG (by omega) (by omega) ⟨(by rw [sx_au_o (by decide)]; omega), (by rw [sx_au_o (by decide)]; omega), (by rw [sx_au_o (by decide)]; omega), (by rw [sx_au_s rfl]; omega), (by rw [sx_au_o (by decide)]; omega), (by rw [sx_au_o (by decide)]; omega), (by rw [sx_au_o (by decide)]; omega), (by rw [sx_au_o (by decide)]; omega), (by rw [sx_au_o (by decide)]; omega), (by rw [sx_au_o (by decide)]; omega), (by rw [sx_au_o (by decide)]; omega), (by rw [sx_au_o (by decide)]; omega)⟩ (fun h => absurd h (by decide)) (fun h => absurd h (by decide)) (fun h => absurd h (by decide)) (fun h => absurd h (by decide)) (fun h => absurd h (by decide)) (fun h => absurd h (by decide)) (fun h => absurd h (by decide)) (fun h => absurd h (by decide)) (fun h => absurd h (by decide)) (fun h => absurd h (by decide)) (fun h => absurd h (by decide)) (fun h => absurd h (by decide)) (fun h => absurd h (by decide)) (fun h => absurd h (by decide)) (fun h => absurd h (by decide)) (fun h => absurd h (by decide)) (fun h => absurd h (by decide)) (fun h => absurd h (by decide)) (fun h => absurd h (by decide)) (fun h => absurd h (by decide)) (fun h => absurd h (by decide)) (fun h => absurd h (by decide)) (fun h => absurd h (by decide)) (fun h => absurd h (by decide)) (fun h => absurd h (by decide)) (fun h => absurd h (by decide)) (fun h => absurd h (by decide)) (fun h => absurd h (by decide))
  · exact sx_q_s_MBz_4 hG (by omega) (by omega) ⟨(by rw [sx_au_o (by decide)]; omega), (by rw [sx_au_o (by decide)]; omega), (by rw [sx_au_o (by decide)]; omega), (by rw [sx_au_o (by decide)]; omega), (by rw [sx_au_s rfl]; omega), (by rw [sx_au_o (by decide)]; omega), (by rw [sx_au_o (by decide)]; omega), (by rw [sx_au_o (by decide)]; omega), (by rw [sx_au_o (by decide)]; omega), (by rw [sx_au_o (by decide)]; omega), (by rw [sx_au_o (by decide)]; omega), (by rw [sx_au_o (by decide)]; omega)⟩ (fun h => absurd h (by decide)) (fun h => absurd h (by decide)) (fun h => absurd h (by decide)) (fun h => absurd h (by decide)) (fun h => absurd h (by decide)) (fun h => absurd h (by decide)) (fun h => absurd h (by decide)) (fun h => absurd h (by decide)) (fun h => absurd h (by decide)) (fun h => absurd h (by decide)) (fun h => absurd h (by decide)) (fun h => absurd h (by decide)) (fun h => absurd h (by decide)) (fun h => absurd h (by decide)) (fun h => absurd h (by decide)) (fun h => absurd h (by decide)) (fun h => absurd h (by decide)) (fun h => absurd h (by decide)) (fun h => absurd h (by decide)) (fun h => absurd h (by decide)) (fun h => absurd h (by decide)) (fun h => absurd h (by decide)) (fun h => absurd h (by decide)) (fun h => absurd h (by decide)) (fun h => absurd h (by decide)) (fun h => absurd h (by decide)) (fun h => absurd h (by decide)) (fun h => absurd h (by decide))
  · exact sx_q_s_MBz_5 hG (by omega) (by omega) ⟨(by rw [sx_au_o (by decide)]; omega), (by rw [sx_au_o (by decide)]; omega), (by rw [sx_au_o (by decide)]; omega), (by rw [sx_au_o (by decide)]; omega), (by rw [sx_au_o (by decide)]; omega), (by rw [sx_au_s rfl]; omega), (by rw [sx_au_o (by decide)]; omega), (by rw [sx_au_o (by decide)]; omega), (by rw [sx_au_o (by decide)]; omega), (by rw [sx_au_o (by decide)]; omega), (by rw [sx_au_o (by decide)]; omega), (by rw [sx_au_o (by decide)]; omega)⟩ (fun h => absurd h (by decide)) (fun h => absurd h (by decide)) (fun h => absurd h (by decide)) (fun h => absurd h (by decide)) (fun h => absurd h (by decide)) (fun h => absurd h (by decide)) (fun h => absurd h (by decide)) (fun h => absurd h (by decide)) (fun h => absurd h (by decide)) (fun h => absurd h (by decide)) (fun h => absurd h (by decide)) (fun h => absurd h (by decide)) (fun h => absurd h (by decide)) (fun h => absurd h (by decide)) (fun h => absurd h (by decide)) (fun h => absurd h (by decide)) (fun h => absurd h (by decide)) (fun h => absurd h (by decide)) (fun h => absurd h (by decide)) (fun h => absurd h (by decide)) (fun h => absurd h (by decide)) (fun h => absurd h (by decide)) (fun h => absurd h (by decide)) (fun h => absurd h (by decide)) (fun h => absurd h (by decide)) (fun h => absurd h (by decide)) (fun h => absurd h (by decide)) (fun h => absurd h (by decide))
  · exact sx_q_s_MBz_6 hG (by omega) (by omega) ⟨(by rw [sx_au_o (by decide)]; omega), (by rw [sx_au_o (by decide)]; omega), (by rw [sx_au_o (by decide)]; omega), (by rw [sx_au_o (by decide)]; omega), (by rw [sx_au_o (by decide)]; omega), (by rw [sx_au_o (by decide)]; omega), (by rw [sx_au_s rfl]; omega), (by rw [sx_au_o (by decide)]; omega), (by rw [sx_au_o (by decide)]; omega), (by rw [sx_au_o (by decide)]; omega), (by rw [sx_au_o (by decide)]; omega), (by rw [sx_au_o (by decide)]; omega)⟩ (fun h => absurd h (by decide)) (fun h => absurd h (by decide)) (fun h => absurd h (by decide)) (fun h => absurd h (by decide)) (fun h => absurd h (by decide)) (fun h => absurd h (by decide)) (fun h => absurd h (by decide)) (fun h => absurd h (by decide)) (fun h => absurd h (by decide)) (fun h => absurd h (by decide)) (fun h => absurd h (by decide)) (fun h => absurd h (by decide)) (fun h => absurd h (by decide)) (fun h => absurd h (by decide)) (fun h => absurd h (by decide)) (fun h => absurd h (by decide)) (fun h => absurd h (by decide)) (fun h => absurd h (by decide)) (fun h => absurd h (by decide)) (fun h => absurd h (by decide)) (fun h => absurd h (by decide)) (fun h => absurd h (by decide)) (fun h => absurd h (by decide)) (fun h => absurd h (by decide)) (fun h => absurd h (by decide)) (fun h => absurd h (by decide)) (fun h => absurd h (by decide)) (fun h => absurd h (by decide))
  · exact sx_q_s_MBz_7 hG (by omega) (by omega) ⟨(by rw [sx_au_o (by decide)]; omega), (by rw [sx_au_o (by decide)]; omega), (by rw [sx_au_o (by decide)]; omega), (by rw [sx_au_o (by decide)]; omega), (by rw [sx_au_o (by decide)]; omega), (by rw [sx_au_o (by decide)]; omega), (by rw [sx_au_o (by decide)]; omega), (by rw [sx_au_s rfl]; omega), (by rw [sx_au_o (by decide)]; omega), (by rw [sx_au_o (by decide)]; omega), (by rw [sx_au_o (by decide)]; omega), (by rw [sx_au_o (by decide)]; omega)⟩ (fun h => absurd h (by decide)) (fun h => absurd h (by decide)) (fun h => absurd h (by decide)) (fun h => absurd h (by decide)) (fun h => absurd h (by decide)) (fun h => absurd h (by decide)) (fun h => absurd h (by decide)) (fun h => absurd h (by decide)) (fun h => absurd h (by decide)) (fun h => absurd h (by decide)) (fun h => absurd h (by decide)) (fun h => absurd h (by decide)) (fun h => absurd h (by decide)) (fun h => absurd h (by decide)) (fun h => absurd h (by decide)) (fun h => absurd h (by decide)) (fun h => absurd h (by decide)) (fun h => absurd h (by decide)) (fun h => absurd h (by decide)) (fun h => absurd h (by decide)) (fun h => absurd h (by decide)) (fun h => absurd h (by decide)) (fun h => absurd h (by decide)) (fun h => absurd h (by decide)) (fun h => absurd h (by decide)) (fun h => absurd h (by decide)) (fun h => absurd h (by decide)) (fun h => absurd h (by decide))
  · exact sx_q_s_MBz_8 hG (by omega) (by omega) ⟨(by rw [sx_au_o (by decide)]; omega), (by rw [sx_au_o (by decide)]; omega), (by rw [sx_au_o (by decide)]; omega), (by rw [sx_au_o (by decide)]; omega), (by rw [sx_au_o (by decide)]; omega), (by rw [sx_au_o (by decide)]; omega), (by rw [sx_au_o (by decide)]; omega), (by rw [sx_au_o (by decide)]; omega), (by rw [sx_au_s rfl]; omega), (by rw [sx_au_o (by decide)]; omega), (by rw [sx_au_o (by decide)]; omega), (by rw [sx_au_o (by decide)]; omega)⟩ (fun h => absurd h (by decide)) (fun h => absurd h (by decide)) (fun h => absurd h (by decide)) (fun h => absurd h (by decide)) (fun h => absurd h (by decide)) (fun h => absurd h (by decide)) (fun h => absurd h (by decide)) (fun h => absurd h (by decide)) (fun h => absurd h (by decide)) (fun h => absurd h (by decide)) (fun h => absurd h (by decide)) (fun h => absurd h (by decide)) (fun h => absurd h (by decide)) (fun h => absurd h (by decide)) (fun h => absurd h (by decide)) (fun h => absurd h (by decide)) (fun h => absurd h (by decide)) (fun h => absurd h (by decide)) (fun h => absurd h (by decide)) (fun h => absurd h (by decide)) (fun h => absurd h (by decide)) (fun h => absurd h (by decide)) (fun h => absurd h (by decide)) (fun h => absurd h (by decide)) (fun h => absurd h (by decide)) (fun h => absurd h (by decide)) (fun h => absurd h (by decide)) (fun h => absurd h (by decide))
  · exact sx_q_s_MBz_9 hG (by omega) (by omega) ⟨(by rw [sx_au_o (by decide)]; omega), (by rw [sx_au_o (by decide)]; omega), (by rw [sx_au_o (by decide)]; omega), (by rw [sx_au_o (by decide)]; omega), (by rw [sx_au_o (by decide)]; omega), (by rw [sx_au_o (by decide)]; omega), (by rw [sx_au_o (by decide)]; omega), (by rw [sx_au_o (by decide)]; omega), (by rw [sx_au_o (by decide)]; omega), (by rw [sx_au_s rfl]; omega), (by rw [sx_au_o (by decide)]; omega), (by rw [sx_au_o (by decide)]; omega)⟩ (fun h => absurd h (by decide)) (fun h => absurd h (by decide)) (fun h => absurd h (by decide)) (fun h => absurd h (by decide)) (fun h => absurd h (by decide)) (fun h => absurd h (by decide)) (fun h => absurd h (by decide)) (fun h => absurd h (by decide)) (fun h => absurd h (by decide)) (fun h => absurd h (by decide)) (fun h => absurd h (by decide)) (fun h => absurd h (by decide)) (fun h => absurd h (by decide)) (fun h => absurd h (by decide)) (fun h => absurd h (by decide)) (fun h => absurd h (by decide)) (fun h => absurd h (by decide)) (fun h => absurd h (by decide)) (fun h => absurd h (by decide)) (fun h => absurd h (by decide)) (fun h => absurd h (by decide)) (fun h => absurd h (by decide)) (fun h => absurd h (by decide)) (fun h => absurd h (by decide)) (fun h => absurd h (by decide)) (fun h => absurd h (by decide)) (fun h => absurd h (by decide)) (fun h => absurd h (by decide))
  · exact sx_q_s_MBz_10 hG (by omega) (by omega) ⟨(by rw [sx_au_o (by decide)]; omega), (by rw [sx_au_o (by decide)]; omega), (by rw [sx_au_o (by decide)]; omega), (by rw [sx_au_o (by decide)]; omega), (by rw [sx_au_o (by decide)]; omega), (by rw [sx_au_o (by decide)]; omega), (by rw [sx_au_o (by decide)]; omega), (by rw [sx_au_o (by decide)]; omega), (by rw [sx_au_o (by decide)]; omega), (by rw [sx_au_o (by decide)]; omega), (by rw [sx_au_s rfl]; omega), (by rw [sx_au_o (by decide)]; omega)⟩ (fun h => absurd h (by decide)) (fun h => absurd h (by decide)) (fun h => absurd h (by decide)) (fun h => absurd h (by decide)) (fun h => absurd h (by decide)) (fun h => absurd h (by decide)) (fun h => absurd h (by decide)) (fun h => absurd h (by decide)) (fun h => absurd h (by decide)) (fun h => absurd h (by decide)) (fun h => absurd h (by decide)) (fun h => absurd h (by decide)) (fun h => absurd h (by decide)) (fun h => absurd h (by decide)) (fun h => absurd h (by decide)) (fun h => absurd h (by decide)) (fun h => absurd h (by decide)) (fun h => absurd h (by decide)) (fun h => absurd h (by decide)) (fun h => absurd h (by decide)) (fun h => absurd h (by decide)) (fun h => absurd h (by decide)) (fun h => absurd h (by decide)) (fun h => absurd h (by decide)) (fun h => absurd h (by decide)) (fun h => absurd h (by decide)) (fun h => absurd h (by decide)) (fun h => absurd h (by decide))
  · exact sx_q_s_MBz_11 hG (by omega) (by omega) ⟨(by rw [sx_au_o (by decide)]; omega), (by rw [sx_au_o (by decide)]; omega), (by rw [sx_au_o (by decide)]; omega), (by rw [sx_au_o (by decide)]; omega), (by rw [sx_au_o (by decide)]; omega), (by rw [sx_au_o (by decide)]; omega), (by rw [sx_au_o (by decide)]; omega), (by rw [sx_au_o (by decide)]; omega), (by rw [sx_au_o (by decide)]; omega), (by rw [sx_au_o (by decide)]; omega), (by rw [sx_au_o (by decide)]; omega), (by rw [sx_au_s rfl]; omega)⟩ (fun h => absurd h (by decide)) (fun h => absurd h (by decide)) (fun h => absurd h (by decide)) (fun h => absurd h (by decide)) (fun h => absurd h (by decide)) (fun h => absurd h (by decide)) (fun h => absurd h (by decide)) (fun h => absurd h (by decide)) (fun h => absurd h (by decide)) (fun h => absurd h (by decide)) (fun h => absurd h (by decide)) (fun h => absurd h (by decide)) (fun h => absurd h (by decide)) (fun h => absurd h (by decide)) (fun h => absurd h (by decide)) (fun h => absurd h (by decide)) (fun h => absurd h (by decide)) (fun h => absurd h (by decide)) (fun h => absurd h (by decide)) (fun h => absurd h (by decide)) (fun h => absurd h (by decide)) (fun h => absurd h (by decide)) (fun h => absurd h (by decide)) (fun h => absurd h (by decide)) (fun h => absurd h (by decide)) (fun h => absurd h (by decide)) (fun h => absurd h (by decide)) (fun h => absurd h (by decide))
theorem sx_p_s_MTm : sx_okr sx_HH true 108 sx_r_s_MTm := by
  intro γ A j y hG hR hj hlo hhi hl hn
  rw [show (sx_cell.get 108).2.2.1 = 12 from by decide +kernel] at hj
  rw [show (sx_cell.get 108).2.2.2.1 = 0 from by decide +kernel] at hlo
  rw [show (sx_cell.get 108).2.2.2.2.1 = 1 from by decide +kernel] at hhi
  have n0 : 0 ≤ (-2) + (1 * γ 18595 + 0) := hn _ (List.Mem.head _)
  have n1 : 0 ≤ 2 + ((-1) * γ 18595 + 0) := hn _ (List.Mem.tail _ (List.Mem.head _))
  clear hn
  obtain ⟨g0, g1, g2, g3, g4, g5, g6, g7, g8, g9, g10, g11, g12, g13, g14, g15, g16, g17, g18, g19, g20, g21, g22, g23, g24, g25, g26, g27, g28, g29, g30, g31, g32, g33, g34, g35, g36⟩ := id hG
  have r_QM := sx_gr_QM hR
  obtain ⟨t0, t1, t2, t3, t4, t5, t6, t7, t8, t9, t10, t11⟩ := g4
  rcases (show j = 0 ∨ j = 1 ∨ j = 2 ∨ j = 3 ∨ j = 4 ∨ j = 5 ∨ j = 6 ∨ j = 7 ∨ j = 8 ∨ j = 9 ∨ j = 10 ∨ j = 11 by omega) with rfl | rfl | rfl | rfl | rfl | rfl | rfl | rfl | rfl | rfl | rfl | rfl
  · exact sx_q_s_MTm_0 hG (by omega) (by omega) ⟨(by rw [sx_au_s rfl]; omega), (by rw [sx_au_o (by decide)]; omega), (by rw [sx_au_o (by decide)]; omega), (by rw [sx_au_o (by decide)]; omega), (by rw [sx_au_o (by decide)]; omega), (by rw [sx_au_o (by decide)]; omega), (by rw [sx_au_o (by decide)]; omega), (by rw [sx_au_o (by decide)]; omega), (by rw [sx_au_o (by decide)]; omega), (by rw [sx_au_o (by decide)]; omega), (by rw [sx_au_o (by decide)]; omega), (by rw [sx_au_o (by decide)]; omega)⟩ (fun h => absurd h (by omega))
  · exact sx_q_s_MTm_1 hG (by omega) (by omega) ⟨(by rw [sx_au_o (by decide)]; omega), (by rw [sx_au_s rfl]; omega), (by rw [sx_au_o (by decide)]; omega), (by rw [sx_au_o (by decide)]; omega), (by rw [sx_au_o (by decide)]; omega), (by rw [sx_au_o (by decide)]; omega), (by rw [sx_au_o (by decide)]; omega), (by rw [sx_au_o (by decide)]; omega), (by rw [sx_au_o (by decide)]; omega), (by rw [sx_au_o (by decide)]; omega), (by rw [sx_au_o (by decide)]; omega), (by rw [sx_au_o (by decide)]; omega)⟩ (fun h => absurd h (by omega))
  · exact sx_q_s_MTm_2 hG (by omega) (by omega) ⟨(by rw [sx_au_o (by decide)]; omega), (by rw [sx_au_o (by decide)]; omega), (by rw [sx_au_s rfl]; omega), (by rw [sx_au_o (by decide)]; omega), (by rw [sx_au_o (by decide)]; omega), (by rw [sx_au_o (by decide)]; omega), (by rw [sx_au_o (by decide)]; omega), (by rw [sx_au_o (by decide)]; omega), (by rw [sx_au_o (by decide)]; omega), (by rw [sx_au_o (by decide)]; omega), (by rw [sx_au_o (by decide)]; omega), (by rw [sx_au_o (by decide)]; omega)⟩ (fun h => absurd h (by omega))
  · exact sx_q_s_MTm_3 hG (by omega) (by omega) ⟨(by rw [sx_au_o (by decide)]; omega), (by rw [sx_au_o (by decide)]; omega), (by rw [sx_au_o (by decide)]; omega), (by rw [sx_au_s rfl]; omega), (by rw [sx_au_o (by decide)]; omega), (by rw [sx_au_o (by decide)]; omega), (by rw [sx_au_o (by decide)]; omega), (by rw [sx_au_o (by decide)]; omega), (by rw [sx_au_o (by decide)]; omega), (by rw [sx_au_o (by decide)]; omega), (by rw [sx_au_o (by decide)]; omega), (by rw [sx_au_o (by decide)]; omega)⟩ (fun h => absurd h (by omega))
  · exact sx_q_s_MTm_4 hG (by omega) (by omega) ⟨(by rw [sx_au_o (by decide)]; omega), (by rw [sx_au_o (by decide)]; omega), (by rw [sx_au_o (by decide)]; omega), (by rw [sx_au_o (by decide)]; omega), (by rw [sx_au_s rfl]; omega), (by rw [sx_au_o (by decide)]; omega), (by rw [sx_au_o (by decide)]; omega), (by rw [sx_au_o (by decide)]; omega), (by rw [sx_au_o (by decide)]; omega), (by rw [sx_au_o (by decide)]; omega), (by rw [sx_au_o (by decide)]; omega), (by rw [sx_au_o (by decide)]; omega)⟩ (fun h => absurd h (by omega))
  · exact sx_q_s_MTm_5 hG (by omega) (by omega) ⟨(by rw [sx_au_o (by decide)]; omega), (by rw [sx_au_o (by decide)]; omega), (by rw [sx_au_o (by decide)]; omega), (by rw [sx_au_o (by decide)]; omega), (by rw [sx_au_o (by decide)]; omega), (by rw [sx_au_s rfl]; omega), (by rw [sx_au_o (by decide)]; omega), (by rw [sx_au_o (by decide)]; omega), (by rw [sx_au_o (by decide)]; omega), (by rw [sx_au_o (by decide)]; omega), (by rw [sx_au_o (by decide)]; omega), (by rw [sx_au_o (by decide)]; omega)⟩ (fun h => absurd h (by omega))
  · exact sx_q_s_MTm_6 hG (by omega) (by omega) ⟨(by rw [sx_au_o (by decide)]; omega), (by rw [sx_au_o (by decide)]; omega), (by rw [sx_au_o (by decide)]; omega), (by rw [sx_au_o (by decide)]; omega), (by rw [sx_au_o (by decide)]; omega), (by rw [sx_au_o (by decide)]; omega), (by rw [sx_au_s rfl]; omega), (by rw [sx_au_o (by decide)]; omega), (by rw [sx_au_o (by decide)]; omega), (by rw [sx_au_o (by decide)]; omega), (by rw [sx_au_o (by decide)]; omega), (by rw [sx_au_o (by decide)]; omega)⟩ (fun h => absurd h (by omega))
  · exact sx_q_s_MTm_7 hG (by omega) (by omega) ⟨(by rw [sx_au_o (by decide)]; omega), (by rw [sx_au_o (by decide)]; omega), (by rw [sx_au_o (by decide)]; omega), (by rw [sx_au_o (by decide)]; omega), (by rw [sx_au_o (by decide)]; omega), (by rw [sx_au_o (by decide)]; omega), (by rw [sx_au_o (by decide)]; omega), (by rw [sx_au_s rfl]; omega), (by rw [sx_au_o (by decide)]; omega), (by rw [sx_au_o (by decide)]; omega), (by rw [sx_au_o (by decide)]; omega), (by rw [sx_au_o (by decide)]; omega)⟩ (fun h => absurd h (by omega))
  · exact sx_q_s_MTm_8 hG (by omega) (by omega) ⟨(by rw [sx_au_o (by decide)]; omega), (by rw [sx_au_o (by decide)]; omega), (by rw [sx_au_o (by decide)]; omega), (by rw [sx_au_o (by decide)]; omega), (by rw [sx_au_o (by decide)]; omega), (by rw [sx_au_o (by decide)]; omega), (by rw [sx_au_o (by decide)]; omega), (by rw [sx_au_o (by decide)]; omega), (by rw [sx_au_s rfl]; omega), (by rw [sx_au_o (by decide)]; omega), (by rw [sx_au_o (by decide)]; omega), (by rw [sx_au_o (by decide)]; omega)⟩ (fun h => absurd h (by omega))
  · exact sx_q_s_MTm_9 hG (by omega) (by omega) ⟨(by rw [sx_au_o (by decide)]; omega), (by rw [sx_au_o (by decide)]; omega), (by rw [sx_au_o (by decide)]; omega), (by rw [sx_au_o (by decide)]; omega), (by rw [sx_au_o (by decide)]; omega), (by rw [sx_au_o (by decide)]; omega), (by rw [sx_au_o (by decide)]; omega), (by rw [sx_au_o (by decide)]; omega), (by rw [sx_au_o (by decide)]; omega), (by rw [sx_au_s rfl]; omega), (by rw [sx_au_o (by decide)]; omega), (by rw [sx_au_o (by decide)]; omega)⟩ (fun h => absurd h (by omega))
  · exact sx_q_s_MTm_10 hG (by omega) (by omega) ⟨(by rw [sx_au_o (by decide)]; omega), (by rw [sx_au_o (by decide)]; omega), (by rw [sx_au_o (by decide)]; omega), (by rw [sx_au_o (by decide)]; omega), (by rw [sx_au_o (by decide)]; omega), (by rw [sx_au_o (by decide)]; omega), (by rw [sx_au_o (by decide)]; omega), (by rw [sx_au_o (by decide)]; omega), (by rw [sx_au_o (by decide)]; omega), (by rw [sx_au_o (by decide)]; omega), (by rw [sx_au_s rfl]; omega), (by rw [sx_au_o (by decide)]; omega)⟩ (fun h => absurd h (by omega))
  · exact sx_q_s_MTm_11 hG (by omega) (by omega) ⟨(by rw [sx_au_o (by decide)]; omega), (by rw [sx_au_o (by decide)]; omega), (by rw [sx_au_o (by decide)]; omega), (by rw [sx_au_o (by decide)]; omega), (by rw [sx_au_o (by decide)]; omega), (by rw [sx_au_o (by decide)]; omega), (by rw [sx_au_o (by decide)]; omega), (by rw [sx_au_o (by decide)]; omega), (by rw [sx_au_o (by decide)]; omega), (by rw [sx_au_o (by decide)]; omega), (by rw [sx_au_o (by decide)]; omega), (by rw [sx_au_s rfl]; omega)⟩ (fun h => absurd h (by omega))
theorem sx_p_s_MTz : sx_okr sx_HH true 108 sx_r_s_MTz := by
  intro γ A j y hG hR hj hlo hhi hl hn
  rw [show (sx_cell.get 108).2.2.1 = 12 from by decide +kernel] at hj
  rw [show (sx_cell.get 108).2.2.2.1 = 0 from by decide +kernel] at hlo
  rw [show (sx_cell.get 108).2.2.2.2.1 = 1 from by decide +kernel] at hhi
  clear hn
  obtain ⟨g0, g1, g2, g3, g4, g5, g6, g7, g8, g9, g10, g11, g12, g13, g14, g15, g16, g17, g18, g19, g20, g21, g22, g23, g24, g25, g26, g27, g28, g29, g30, g31, g32, g33, g34, g35, g36⟩ := id hG
  obtain ⟨t0, t1, t2, t3, t4, t5, t6, t7, t8, t9, t10, t11⟩ := g4
  rcases (show j = 0 ∨ j = 1 ∨ j = 2 ∨ j = 3 ∨ j = 4 ∨ j = 5 ∨ j = 6 ∨ j = 7 ∨ j = 8 ∨ j = 9 ∨ j = 10 ∨ j = 11 by omega) with rfl | rfl | rfl | rfl | rfl | rfl | rfl | rfl | rfl | rfl | rfl | rfl
  · exact sx_q_s_MTz_0 hG (by omega) (by omega) ⟨(by rw [sx_au_s rfl]; omega), (by rw [sx_au_o (by decide)]; omega), (by rw [sx_au_o (by decide)]; omega), (by rw [sx_au_o (by decide)]; omega), (by rw [sx_au_o (by decide)]; omega), (by rw [sx_au_o (by decide)]; omega), (by rw [sx_au_o (by decide)]; omega), (by rw [sx_au_o (by decide)]; omega), (by rw [sx_au_o (by decide)]; omega), (by rw [sx_au_o (by decide)]; omega), (by rw [sx_au_o (by decide)]; omega), (by rw [sx_au_o (by decide)]; omega)⟩ (fun h => absurd h (by decide)) (fun h => absurd h (by decide)) (fun h => absurd h (by decide)) (fun h => absurd h (by decide)) (fun h => absurd h (by decide)) (fun h => absurd h (by decide)) (fun h => absurd h (by decide)) (fun h => absurd h (by decide)) (fun h => absurd h (by decide)) (fun h => absurd h (by decide)) (fun h => absurd h (by decide)) (fun h => absurd h (by decide)) (fun h => absurd h (by decide)) (fun h => absurd h (by decide)) (fun h => absurd h (by decide)) (fun h => absurd h (by decide)) (fun h => absurd h (by decide)) (fun h => absurd h (by decide)) (fun h => absurd h (by decide)) (fun h => absurd h (by decide)) (fun h => absurd h (by decide)) (fun h => absurd h (by decide)) (fun h => absurd h (by decide)) (fun h => absurd h (by decide)) (fun h => absurd h (by decide)) (fun h => absurd h (by decide)) (fun h => absurd h (by decide)) (fun h => absurd h (by decide))
  · exact sx_q_s_MTz_1 hG (by omega) (by omega) ⟨(by rw [sx_au_o (by decide)]; omega), (by rw [sx_au_s rfl]; omega), (by rw [sx_au_o (by decide)]; omega), (by rw [sx_au_o (by decide)]; omega), (by rw [sx_au_o (by decide)]; omega), (by rw [sx_au_o (by decide)]; omega), (by rw [sx_au_o (by decide)]; omega), (by rw [sx_au_o (by decide)]; omega), (by rw [sx_au_o (by decide)]; omega), (by rw [sx_au_o (by decide)]; omega), (by rw [sx_au_o (by decide)]; omega), (by rw [sx_au_o (by decide)]; omega)⟩ (fun h => absurd h (by decide)) (fun h => absurd h (by decide)) (fun h => absurd h (by decide)) (fun h => absurd h (by decide)) (fun h => absurd h (by decide)) (fun h => absurd h (by decide)) (fun h => absurd h (by decide)) (fun h => absurd h (by decide)) (fun h => absurd h (by decide)) (fun h => absurd h (by decide)) (fun h => absurd h (by decide)) (fun h => absurd h (by decide)) (fun h => absurd h (by decide)) (fun h => absurd h (by decide)) (fun h => absurd h (by decide)) (fun h => absurd h (by decide)) (fun h => absurd h (by decide)) (fun h => absurd h (by decide)) (fun h => absurd h (by decide)) (fun h => absurd h (by decide)) (fun h => absurd h (by decide)) (fun h => absurd h (by decide)) (fun h => absurd h (by decide)) (fun h => absurd h (by decide)) (fun h => absurd h (by decide)) (fun h => absurd h (by decide)) (fun h => absurd h (by decide)) (fun h => absurd h (by decide))
  · exact sx_q_s_MTz_2 hG (by omega) (by omega) ⟨(by rw [sx_au_o (by decide)]; omega), (by rw [sx_au_o (by decide)]; omega), (by rw [sx_au_s rfl]; omega), (by rw [sx_au_o (by decide)]; omega), (by rw [sx_au_o (by decide)]; omega), (by rw [sx_au_o (by decide)]; omega), (by rw [sx_au_o (by decide)]; omega), (by rw [sx_au_o (by decide)]; omega), (by rw [sx_au_o (by decide)]; omega), (by rw [sx_au_o (by decide)]; omega), (by rw [sx_au_o (by decide)]; omega), (by rw [sx_au_o (by decide)]; omega)⟩ (fun h => absurd h (by decide)) (fun h => absurd h (by decide)) (fun h => absurd h (by decide)) (fun h => absurd h (by decide)) (fun h => absurd h (by decide)) (fun h => absurd h (by decide)) (fun h => absurd h (by decide)) (fun h => absurd h (by decide)) (fun h => absurd h (by decide)) (fun h => absurd h (by decide)) (fun h => absurd h (by decide)) (fun h => absurd h (by decide)) (fun h => absurd h (by decide)) (fun h => absurd h (by decide)) (fun h => absurd h (by decide)) (fun h => absurd h (by decide)) (fun h => absurd h (by decide)) (fun h => absurd h (by decide)) (fun h => absurd h (by decide)) (fun h => absurd h (by decide)) (fun h => absurd h (by decide)) (fun h => absurd h (by decide)) (fun h => absurd h (by decide)) (fun h => absurd h (by decide)) (fun h => absurd h (by decide)) (fun h => absurd h (by decide)) (fun h => absurd h (by decide)) (fun h => absurd h (by decide))
  · exact sx_q_s_MTz_3 hG (by omega) (by omega) ⟨(by rw [sx_au_o (by decide)]; omega), (by rw [sx_au_o (by decide)]; omega), (by rw [sx_au_o (by decide)]; omega), (by rw [sx_au_s rfl]; omega), (by rw [sx_au_o (by decide)]; omega), (by rw [sx_au_o (by decide)]; omega), (by rw [sx_au_o (by decide)]; omega), (by rw [sx_au_o (by decide)]; omega), (by rw [sx_au_o (by decide)]; omega), (by rw [sx_au_o (by decide)]; omega), (by rw [sx_au_o (by decide)]; omega), (by rw [sx_au_o (by decide)]; omega)⟩ (fun h => absurd h (by decide)) (fun h => absurd h (by decide)) (fun h => absurd h (by decide)) (fun h => absurd h (by decide)) (fun h => absurd h (by decide)) (fun h => absurd h (by decide)) (fun h => absurd h (by decide)) (fun h => absurd h (by decide)) (fun h => absurd h (by decide)) (fun h => absurd h (by decide)) (fun h => absurd h (by decide)) (fun h => absurd h (by decide)) (fun h => absurd h (by decide)) (fun h => absurd h (by decide)) (fun h => absurd h (by decide)) (fun h => absurd h (by decide)) (fun h => absurd h (by decide)) (fun h => absurd h (by decide)) (fun h => absurd h (by decide)) (fun h => absurd h (by decide)) (fun h => absurd h (by decide)) (fun h => absurd h (by decide)) (fun h => absurd h (by decide)) (fun h => absurd h (by decide)) (fun h => absurd h (by decide)) (fun h => absurd h (by decide)) (fun h => absurd h (by decide)) (fun h => absurd h (by decide))
  · exact sx_q_s_MTz_4 hG (by omega) (by omega) ⟨(by rw [sx_au_o (by decide)]; omega), (by rw [sx_au_o (by decide)]; omega), (by rw [sx_au_o (by decide)]; omega), (by rw [sx_au_o (by decide)]; omega), (by rw [sx_au_s rfl]; omega), (by rw [sx_au_o (by decide)]; omega), (by rw [sx_au_o (by decide)]; omega), (by rw [sx_au_o (by decide)]; omega), (by rw [sx_au_o (by decide)]; omega), (by rw [sx_au_o (by decide)]; omega), (by rw [sx_au_o (by decide)]; omega), (by rw [sx_au_o (by decide)]; omega)⟩ (fun h => absurd h (by decide)) (fun h => absurd h (by decide)) (fun h => absurd h (by decide)) (fun h => absurd h (by decide)) (fun h => absurd h (by decide)) (fun h => absurd h (by decide)) (fun h => absurd h (by decide)) (fun h => absurd h (by decide)) (fun h => absurd h (by decide)) (fun h => absurd h (by decide)) (fun h => absurd h (by decide)) (fun h => absurd h (by decide)) (fun h => absurd h (by decide)) (fun h => absurd h (by decide)) (fun h => absurd h (by decide)) (fun h => absurd h (by decide)) (fun h => absurd h (by decide)) (fun h => absurd h (by decide)) (fun h => absurd h (by decide)) (fun h => absurd h (by decide)) (fun h => absurd h (by decide)) (fun h => absurd h (by decide)) (fun h => absurd h (by decide)) (fun h => absurd h (by decide)) (fun h => absurd h (by decide)) (fun h => absurd h (by decide)) (fun h => absurd h (by decide)) (fun h => absurd h (by decide))
  · exact sx_q_s_MTz_5 hG (by omega) (by omega) ⟨(by rw [sx_au_o (by decide)]; omega), (by rw [sx_au_o (by decide)]; omega), (by rw [sx_au_o (by decide)]; omega), (by rw [sx_au_o (by decide)]; omega), (by rw [sx_au_o (by decide)]; omega), (by rw [sx_au_s rfl]; omega), (by rw [sx_au_o (by decide)]; omega), (by rw [sx_au_o (by decide)]; omega), (by rw [sx_au_o (by decide)]; omega), (by rw [sx_au_o (by decide)]; omega), (by rw [sx_au_o (by decide)]; omega), (by rw [sx_au_o (by decide)]; omega)⟩ (fun h => absurd h (by decide)) (fun h => absurd h (by decide)) (fun h => absurd h (by decide)) (fun h => absurd h (by decide)) (fun h => absurd h (by decide)) (fun h => absurd h (by decide)) (fun h => absurd h (by decide)) (fun h => absurd h (by decide)) (fun h => absurd h (by decide)) (fun h => absurd h (by decide)) (fun h => absurd h (by decide)) (fun h => absurd h (by decide)) (fun h => absurd h (by decide)) (fun h => absurd h (by decide)) (fun h => absurd h (by decide)) (fun h => absurd h (by decide)) (fun h => absurd h (by decide)) (fun h => absurd h (by decide)) (fun h => absurd h (by decide)) (fun h => absurd h (by decide)) (fun h => absurd h (by decide)) (fun h => absurd h (by decide)) (fun h => absurd h (by decide)) (fun h => absurd h (by decide)) (fun h => absurd h (by decide)) (fun h => absurd h (by decide)) (fun h => absurd h (by decide)) (fun h => absurd h (by decide))
  · exact sx_q_s_MTz_6 hG (by omega) (by omega) ⟨(by rw [sx_au_o (by decide)]; omega), (by rw [sx_au_o (by decide)]; omega), (by rw [sx_au_o (by decide)]; omega), (by rw [sx_au_o (by decide)]; omega), (by rw [sx_au_o (by decide)]; omega), (by rw [sx_au_o (by decide)]; omega), (by rw [sx_au_s rfl]; omega), (by rw [sx_au_o (by decide)]; omega), (by rw [sx_au_o (by decide)]; omega), (by rw [sx_au_o (by decide)]; omega), (by rw [sx_au_o (by decide)]; omega), (by rw [sx_au_o (by decide)]; omega)⟩ (fun h => absurd h (by decide)) (fun h => absurd h (by decide)) (fun h => absurd h (by decide)) (fun h => absurd h (by decide)) (fun h => absurd h (by decide)) (fun h => absurd h (by decide)) (fun h => absurd h (by decide)) (fun h => absurd h (by decide)) (fun h => absurd h (by decide)) (fun h => absurd h (by decide)) (fun h => absurd h (by decide)) (fun h => absurd h (by decide)) (fun h => absurd h (by decide)) (fun h => absurd h (by decide)) (fun h => absurd h (by decide)) (fun h => absurd h (by decide)) (fun h => absurd h (by decide)) (fun h => absurd h (by decide)) (fun h => absurd h (by decide)) (fun h => absurd h (by decide)) (fun h => absurd h (by decide)) (fun h => absurd h (by decide)) (fun h => absurd h (by decide)) (fun h => absurd h (by decide)) (fun h => absurd h (by decide)) (fun h => absurd h (by decide)) (fun h => absurd h (by decide)) (fun h => absurd h (by decide))
  · exact sx_q_s_MTz_7 hG (by omega) (by omega) ⟨(by rw [sx_au_o (by decide)]; omega), (by rw [sx_au_o (by decide)]; omega), (by rw [sx_au_o (by decide)]; omega), (by rw [sx_au_o (by decide)]; omega), (by rw [sx_au_o (by decide)]; omega), (by rw [sx_au_o (by decide)]; omega), (by rw [sx_au_o (by decide)]; omega), (by rw [sx_au_s rfl]; omega), (by rw [sx_au_o (by decide)]; omega), (by rw [sx_au_o (by decide)]; omega), (by rw [sx_au_o (by decide)]; omega), (by rw [sx_au_o (by decide)]; omega)⟩ (fun h => absurd h (by decide)) (fun h => absurd h (by decide)) (fun h => absurd h (by decide)) (fun h => absurd h (by decide)) (fun h => absurd h (by decide)) (fun h => absurd h (by decide)) (fun h => absurd h (by decide)) (fun h => absurd h (by decide)) (fun h => absurd h (by decide)) (fun h => absurd h (by decide)) (fun h => absurd h (by decide)) (fun h => absurd h (by decide)) (fun h => absurd h (by decide)) (fun h => absurd h (by decide)) (fun h => absurd h (by decide)) (fun h => absurd h (by decide)) (fun h => absurd h (by decide)) (fun h => absurd h (by decide)) (fun h => absurd h (by decide)) (fun h => absurd h (by decide)) (fun h => absurd h (by decide)) (fun h => absurd h (by decide)) (fun h => absurd h (by decide)) (fun h => absurd h (by decide)) (fun h => absurd h (by decide)) (fun h => absurd h (by decide)) (fun h => absurd h (by decide)) (fun h => absurd h (by decide))
  · exact sx_q_s_MTz_8 hG (by omega) (by omega) ⟨(by rw [sx_au_o (by decide)]; omega), (by rw [sx_au_o (by decide)]; omega), (by rw [sx_au_o (by decide)]; omega), (by rw [sx_au_o (by decide)]; omega), (by rw [sx_au_o (by decide)]; omega), (by rw [sx_au_o (by decide)]; omega), (by rw [sx_au_o (by decide)]; omega), (by rw [sx_au_o (by decide)]; omega), (by rw [sx_au_s rfl]; omega), (by rw [sx_au_o (by decide)]; omega), (by rw [sx_au_o (by decide)]; omega), (by rw [sx_au_o (by decide)]; omega)⟩ (fun h => absurd h (by decide)) (fun h => absurd h (by decide)) (fun h => absurd h (by decide)) (fun h => absurd h (by decide)) (fun h => absurd h (by decide)) (fun h => absurd h (by decide)) (fun h => absurd h (by decide)) (fun h => absurd h (by decide)) (fun h => absurd h (by decide)) (fun h => absurd h (by decide)) (fun h => absurd h (by decide)) (fun h => absurd h (by decide)) (fun h => absurd h (by decide)) (fun h => absurd h (by decide)) (fun h => absurd h (by decide)) (fun h => absurd h (by decide)) (fun h => absurd h (by decide)) (fun h => absurd h (by decide)) (fun h => absurd h (by decide)) (fun h => absurd h (by decide)) (fun h => absurd h (by decide)) (fun h => absurd h (by decide)) (fun h => absurd h (by decide)) (fun h => absurd h (by decide)) (fun h => absurd h (by decide)) (fun h => absurd h (by decide)) (fun h => absurd h (by decide)) (fun h => absurd h (by decide))
  · exact sx_q_s_MTz_9 hG (by omega) (by omega) ⟨(by rw [sx_au_o (by decide)]; omega), (by rw [sx_au_o (by decide)]; omega), (by rw [sx_au_o (by decide)]; omega), (by rw [sx_au_o (by decide)]; omega), (by rw [sx_au_o (by decide)]; omega), (by rw [sx_au_o (by decide)]; omega), (by rw [sx_au_o (by decide)]; omega), (by rw [sx_au_o (by decide)]; omega), (by rw [sx_au_o (by decide)]; omega), (by rw [sx_au_s rfl]; omega), (by rw [sx_au_o (by decide)]; omega), (by rw [sx_au_o (by decide)]; omega)⟩ (fun h => absurd h (by decide)) (fun h => absurd h (by decide)) (fun h => absurd h (by decide)) (fun h => absurd h (by decide)) (fun h => absurd h (by decide)) (fun h => absurd h (by decide)) (fun h => absurd h (by decide)) (fun h => absurd h (by decide)) (fun h => absurd h (by decide)) (fun h => absurd h (by decide)) (fun h => absurd h (by decide)) (fun h => absurd h (by decide)) (fun h => absurd h (by decide)) (fun h => absurd h (by decide)) (fun h => absurd h (by decide)) (fun h => absurd h (by decide)) (fun h => absurd h (by decide)) (fun h => absurd h (by decide)) (fun h => absurd h (by decide)) (fun h => absurd h (by decide)) (fun h => absurd h (by decide)) (fun h => absurd h (by decide)) (fun h => absurd h (by decide)) (fun h => absurd h (by decide)) (fun h => absurd h (by decide)) (fun h => absurd h (by decide)) (fun h => absurd h (by decide)) (fun h => absurd h (by decide))
  · exact sx_q_s_MTz_10 hG (by omega) (by omega) ⟨(by rw [sx_au_o (by decide)]; omega), (by rw [sx_au_o (by decide)]; omega), (by rw [sx_au_o (by decide)]; omega), (by rw [sx_au_o (by decide)]; omega), (by rw [sx_au_o (by decide)]; omega), (by rw [sx_au_o (by decide)]; omega), (by rw [sx_au_o (by decide)]; omega), (by rw [sx_au_o (by decide)]; omega), (by rw [sx_au_o (by decide)]; omega), (by rw [sx_au_o (by decide)]; omega), (by rw [sx_au_s rfl]; omega), (by rw [sx_au_o (by decide)]; omega)⟩ (fun h => absurd h (by decide)) (fun h => absurd h (by decide)) (fun h => absurd h (by decide)) (fun h => absurd h (by decide)) (fun h => absurd h (by decide)) (fun h => absurd h (by decide)) (fun h => absurd h (by decide)) (fun h => absurd h (by decide)) (fun h => absurd h (by decide)) (fun h => absurd h (by decide)) (fun h => absurd h (by decide)) (fun h => absurd h (by decide)) (fun h => absurd h (by decide)) (fun h => absurd h (by decide)) (fun h => absurd h (by decide)) (fun h => absurd h (by decide)) (fun h => absurd h (by decide)) (fun h => absurd h (by decide)) (fun h => absurd h (by decide)) (fun h => absurd h (by decide)) (fun h => absurd h (by decide)) (fun h => absurd h (by decide)) (fun h => absurd h (by decide)) (fun h => absurd h (by decide)) (fun h => absurd h (by decide)) (fun h => absurd h (by decide)) (fun h => absurd h (by decide)) (fun h => absurd h (by decide))
  · exact sx_q_s_MTz_11 hG (by omega) (by omega) ⟨(by rw [sx_au_o (by decide)]; omega), (by rw [sx_au_o (by decide)]; omega), (by rw [sx_au_o (by decide)]; omega), (by rw [sx_au_o (by decide)]; omega), (by rw [sx_au_o (by decide)]; omega), (by rw [sx_au_o (by decide)]; omega), (by rw [sx_au_o (by decide)]; omega), (by rw [sx_au_o (by decide)]; omega), (by rw [sx_au_o (by decide)]; omega), (by rw [sx_au_o (by decide)]; omega), (by rw [sx_au_o (by decide)]; omega), (by rw [sx_au_s rfl]; omega)⟩ (fun h => absurd h (by decide)) (fun h => absurd h (by decide)) (fun h => absurd h (by decide)) (fun h => absurd h (by decide)) (fun h => absurd h (by decide)) (fun h => absurd h (by decide)) (fun h => absurd h (by decide)) (fun h => absurd h (by decide)) (fun h => absurd h (by decide)) (fun h => absurd h (by decide)) (fun h => absurd h (by decide)) (fun h => absurd h (by decide)) (fun h => absurd h (by decide)) (fun h => absurd h (by decide)) (fun h => absurd h (by decide)) (fun h => absurd h (by decide)) (fun h => absurd h (by decide)) (fun h => absurd h (by decide)) (fun h => absurd h (by decide)) (fun h => absurd h (by decide)) (fun h => absurd h (by decide)) (fun h => absurd h (by decide)) (fun h => absurd h (by decide)) (fun h => absurd h (by decide)) (fun h => absurd h (by decide)) (fun h => absurd h (by decide)) (fun h => absurd h (by decide)) (fun h => absurd h (by decide))
theorem sx_p_s_LG0 : sx_okr sx_HH true 130 sx_r_s_LG0 := by
  intro γ A j y hG hR hj hlo hhi hl hn
  rw [show (sx_cell.get 130).2.2.1 = 256 from by decide +kernel] at hj
  rw [show (sx_cell.get 130).2.2.2.1 = 0 from by decide +kernel] at hlo
  rw [show (sx_cell.get 130).2.2.2.2.1 = 1 from by decide +kernel] at hhi
  have n0 : 0 ≤ (-1) + (1 * γ 18595 + 0) := hn _ (List.Mem.head _)
  have n1 : 0 ≤ 1 + ((-1) * γ 18595 + 0) := hn _ (List.Mem.tail _ (List.Mem.head _))
  have n2 : 0 ≤ 0 + ((-1) * γ 18596 + (1 * (j : Int) + 0)) := hn _ (List.Mem.tail _ (List.Mem.tail _ (List.Mem.head _)))
  have n3 : 0 ≤ 0 + (1 * γ 18596 + ((-1) * (j : Int) + 0)) := hn _ (List.Mem.tail _ (List.Mem.tail _ (List.Mem.tail _ (List.Mem.head _))))
  clear hn
  obtain ⟨g0, g1, g2, g3, g4, g5, g6, g7, g8, g9, g10, g11, g12, g13, g14, g15, g16, g17, g18, g19, g20, g21, g22, g23, g24, g25, g26, g27, g28, g29, g30, g31, g32, g33, g34, g35, g36⟩ := id hG
  have r_PG := sx_gr_PG hR
  have r_QM := sx_gr_QM hR
  have hQ : γ 18595 = 1 := by omega
  exact sx_q_s_LG0_0 hG (fun _ _ _ => by rw [show (γ 18596).toNat = j by omega, sx_au_s rfl]; omega)
theorem sx_p_s_LG1 : sx_okr sx_HH true 130 sx_r_s_LG1 := by
  intro γ A j y hG hR hj hlo hhi hl hn
  rw [show (sx_cell.get 130).2.2.1 = 256 from by decide +kernel] at hj
  rw [show (sx_cell.get 130).2.2.2.1 = 0 from by decide +kernel] at hlo
  rw [show (sx_cell.get 130).2.2.2.2.1 = 1 from by decide +kernel] at hhi
  have n0 : 0 ≤ (-1) + (1 * γ 18595 + 0) := hn _ (List.Mem.head _)
  have n1 : 0 ≤ 1 + ((-1) * γ 18595 + 0) := hn _ (List.Mem.tail _ (List.Mem.head _))
  have n2 : 0 ≤ (-1) + (1 * γ 18596 + ((-1) * (j : Int) + 0)) := hn _ (List.Mem.tail _ (List.Mem.tail _ (List.Mem.head _)))
  clear hn
  obtain ⟨g0, g1, g2, g3, g4, g5, g6, g7, g8, g9, g10, g11, g12, g13, g14, g15, g16, g17, g18, g19, g20, g21, g22, g23, g24, g25, g26, g27, g28, g29, g30, g31, g32, g33, g34, g35, g36⟩ := id hG
  have r_PG := sx_gr_PG hR
  have r_QM := sx_gr_QM hR
  have hQ : γ 18595 = 1 := by omega
  exact sx_q_s_LG1_0 hG (fun h1 h2 h3 => by rw [sx_au_o (by omega)]; exact g35 h1 h2 h3)
theorem sx_p_s_LG2 : sx_okr sx_HH true 130 sx_r_s_LG2 := by
  intro γ A j y hG hR hj hlo hhi hl hn
  rw [show (sx_cell.get 130).2.2.1 = 256 from by decide +kernel] at hj
  rw [show (sx_cell.get 130).2.2.2.1 = 0 from by decide +kernel] at hlo
  rw [show (sx_cell.get 130).2.2.2.2.1 = 1 from by decide +kernel] at hhi
  have n0 : 0 ≤ (-1) + (1 * γ 18595 + 0) := hn _ (List.Mem.head _)
  have n1 : 0 ≤ 1 + ((-1) * γ 18595 + 0) := hn _ (List.Mem.tail _ (List.Mem.head _))
  have n2 : 0 ≤ (-1) + ((-1) * γ 18596 + (1 * (j : Int) + 0)) := hn _ (List.Mem.tail _ (List.Mem.tail _ (List.Mem.head _)))
  clear hn
  obtain ⟨g0, g1, g2, g3, g4, g5, g6, g7, g8, g9, g10, g11, g12, g13, g14, g15, g16, g17, g18, g19, g20, g21, g22, g23, g24, g25, g26, g27, g28, g29, g30, g31, g32, g33, g34, g35, g36⟩ := id hG
  have r_PG := sx_gr_PG hR
  have r_QM := sx_gr_QM hR
  have hQ : γ 18595 = 1 := by omega
  exact sx_q_s_LG2_0 hG (fun h1 h2 h3 => by rw [sx_au_o (by omega)]; exact g35 h1 h2 h3)
theorem sx_p_s_LGz : sx_okr sx_HH true 130 sx_r_s_LGz := by
  intro γ A j y hG hR hj hlo hhi hl hn
  rw [show (sx_cell.get 130).2.2.1 = 256 from by decide +kernel] at hj
  rw [show (sx_cell.get 130).2.2.2.1 = 0 from by decide +kernel] at hlo
  rw [show (sx_cell.get 130).2.2.2.2.1 = 1 from by decide +kernel] at hhi
  clear hn
  obtain ⟨g0, g1, g2, g3, g4, g5, g6, g7, g8, g9, g10, g11, g12, g13, g14, g15, g16, g17, g18, g19, g20, g21, g22, g23, g24, g25, g26, g27, g28, g29, g30, g31, g32, g33, g34, g35, g36⟩ := id hG
  exact sx_q_s_LGz_0 hG (fun h => absurd h (by decide)) (fun h => absurd h (by decide)) (fun h => absurd h (by decide)) (fun h => absurd h (by decide)) (fun h => absurd h (by decide)) (fun h => absurd h (by decide)) (fun h => absurd h (by decide)) (fun h => absurd h (by decide)) (fun h => absurd h (by decide)) (fun h => absurd h (by decide)) (fun h => absurd h (by decide)) (fun h => absurd h (by decide)) (fun h => absurd h (by decide)) (fun h => absurd h (by decide)) (fun h => absurd h (by decide)) (fun h => absurd h (by decide)) (fun h => absurd h (by decide)) (fun h => absurd h (by decide)) (fun h => absurd h (by decide)) (fun h => absurd h (by decide)) (fun h => absurd h (by decide)) (fun h => absurd h (by decide)) (fun h => absurd h (by decide)) (fun h => absurd h (by decide)) (fun h => absurd h (by decide)) (fun h => absurd h (by decide)) (fun h => absurd h (by decide)) (fun h => absurd h (by decide))
theorem sx_p_m_cxa0 : sx_okm sx_HH sx_r_m_cxa0 := by
  intro γ A x hG hR hn
  have n0 : 0 ≤ (-1) + (1 * γ 18595 + 0) := hn _ (List.Mem.head _)
  have n1 : 0 ≤ 1 + ((-1) * γ 18595 + 0) := hn _ (List.Mem.tail _ (List.Mem.head _))
  have n2 : 0 ≤ (-1) + (1 * x + 0) := hn _ (List.Mem.tail _ (List.Mem.tail _ (List.Mem.head _)))
  have n3 : 0 ≤ 1 + ((-1) * x + 0) := hn _ (List.Mem.tail _ (List.Mem.tail _ (List.Mem.tail _ (List.Mem.head _))))
  have n4 : 0 ≤ 0 + (1 * γ 18621 + 0) := hn _ (List.Mem.tail _ (List.Mem.tail _ (List.Mem.tail _ (List.Mem.tail _ (List.Mem.head _)))))
  have n5 : 0 ≤ 0 + ((-1) * γ 18621 + 0) := hn _ (List.Mem.tail _ (List.Mem.tail _ (List.Mem.tail _ (List.Mem.tail _ (List.Mem.tail _ (List.Mem.head _))))))
  have n6 : 0 ≤ 0 + ((-1) * γ 18597 + 0) := hn _ (List.Mem.tail _ (List.Mem.tail _ (List.Mem.tail _ (List.Mem.tail _ (List.Mem.tail _ (List.Mem.tail _ (List.Mem.head _)))))))
  clear hn
  obtain ⟨g0, g1, g2, g3, g4, g5, g6, g7, g8, g9, g10, g11, g12, g13, g14, g15, g16, g17, g18, g19, g20, g21, g22, g23, g24, g25, g26, g27, g28, g29, g30, g31, g32, g33, g34, g35, g36⟩ := id hG
  have r_CX := sx_gr_CX hR
  have r_QM := sx_gr_QM hR
  have r_pg0 := sx_gr_pg0 hR
  have hQ : γ 18595 = 1 := by omega
  obtain ⟨s1, s2, s3, s4⟩ := g33 hQ
  exact sx_q_m_cxa0_0 hG (fun _ => ⟨s1, s2, s3, fun j2 h8 hj2 => (by
    by_cases e : j2 = 0
    · subst e; exact (Or.inl (show γ 18597 = 0 by omega))
    · exact s4 j2 h8 (by omega))⟩)
theorem sx_p_m_cxb0 : sx_okm sx_HH sx_r_m_cxb0 := by
  intro γ A x hG hR hn
  have n0 : 0 ≤ (-1) + (1 * γ 18595 + 0) := hn _ (List.Mem.head _)
  have n1 : 0 ≤ 1 + ((-1) * γ 18595 + 0) := hn _ (List.Mem.tail _ (List.Mem.head _))
  have n2 : 0 ≤ (-1) + (1 * x + 0) := hn _ (List.Mem.tail _ (List.Mem.tail _ (List.Mem.head _)))
  have n3 : 0 ≤ 1 + ((-1) * x + 0) := hn _ (List.Mem.tail _ (List.Mem.tail _ (List.Mem.tail _ (List.Mem.head _))))
  have n4 : 0 ≤ 0 + (1 * γ 18621 + 0) := hn _ (List.Mem.tail _ (List.Mem.tail _ (List.Mem.tail _ (List.Mem.tail _ (List.Mem.head _)))))
  have n5 : 0 ≤ 0 + ((-1) * γ 18621 + 0) := hn _ (List.Mem.tail _ (List.Mem.tail _ (List.Mem.tail _ (List.Mem.tail _ (List.Mem.tail _ (List.Mem.head _))))))
  have n6 : 0 ≤ 0 + ((-1) * γ 18605 + 0) := hn _ (List.Mem.tail _ (List.Mem.tail _ (List.Mem.tail _ (List.Mem.tail _ (List.Mem.tail _ (List.Mem.tail _ (List.Mem.head _)))))))
  have n7 : 0 ≤ 0 + ((-1) * γ 18613 + 0) := hn _ (List.Mem.tail _ (List.Mem.tail _ (List.Mem.tail _ (List.Mem.tail _ (List.Mem.tail _ (List.Mem.tail _ (List.Mem.tail _ (List.Mem.head _))))))))
  clear hn
  obtain ⟨g0, g1, g2, g3, g4, g5, g6, g7, g8, g9, g10, g11, g12, g13, g14, g15, g16, g17, g18, g19, g20, g21, g22, g23, g24, g25, g26, g27, g28, g29, g30, g31, g32, g33, g34, g35, g36⟩ := id hG
  have r_CX := sx_gr_CX hR
  have r_QM := sx_gr_QM hR
  have r_XA0 := sx_gr_XA0 hR
  have r_XB0 := sx_gr_XB0 hR
  have hQ : γ 18595 = 1 := by omega
  obtain ⟨s1, s2, s3, s4⟩ := g33 hQ
  exact sx_q_m_cxb0_0 hG (fun _ => ⟨s1, s2, s3, fun j2 h8 hj2 => (by
    by_cases e : j2 = 0
    · subst e; exact (Or.inr ⟨show γ 18605 = 0 by omega, show γ 18613 = 0 by omega⟩)
    · exact s4 j2 h8 (by omega))⟩)
theorem sx_p_m_cxa1 : sx_okm sx_HH sx_r_m_cxa1 := by
  intro γ A x hG hR hn
  have n0 : 0 ≤ (-1) + (1 * γ 18595 + 0) := hn _ (List.Mem.head _)
  have n1 : 0 ≤ 1 + ((-1) * γ 18595 + 0) := hn _ (List.Mem.tail _ (List.Mem.head _))
  have n2 : 0 ≤ (-2) + (1 * x + 0) := hn _ (List.Mem.tail _ (List.Mem.tail _ (List.Mem.head _)))
  have n3 : 0 ≤ 2 + ((-1) * x + 0) := hn _ (List.Mem.tail _ (List.Mem.tail _ (List.Mem.tail _ (List.Mem.head _))))
  have n4 : 0 ≤ (-1) + (1 * γ 18621 + 0) := hn _ (List.Mem.tail _ (List.Mem.tail _ (List.Mem.tail _ (List.Mem.tail _ (List.Mem.head _)))))
  have n5 : 0 ≤ 1 + ((-1) * γ 18621 + 0) := hn _ (List.Mem.tail _ (List.Mem.tail _ (List.Mem.tail _ (List.Mem.tail _ (List.Mem.tail _ (List.Mem.head _))))))
  have n6 : 0 ≤ 0 + ((-1) * γ 18598 + 0) := hn _ (List.Mem.tail _ (List.Mem.tail _ (List.Mem.tail _ (List.Mem.tail _ (List.Mem.tail _ (List.Mem.tail _ (List.Mem.head _)))))))
  clear hn
  obtain ⟨g0, g1, g2, g3, g4, g5, g6, g7, g8, g9, g10, g11, g12, g13, g14, g15, g16, g17, g18, g19, g20, g21, g22, g23, g24, g25, g26, g27, g28, g29, g30, g31, g32, g33, g34, g35, g36⟩ := id hG
  have r_CX := sx_gr_CX hR
  have r_QM := sx_gr_QM hR
  have r_pg1 := sx_gr_pg1 hR
  have hQ : γ 18595 = 1 := by omega
  obtain ⟨s1, s2, s3, s4⟩ := g33 hQ
  exact sx_q_m_cxa1_0 hG (fun _ => ⟨s1, s2, s3, fun j2 h8 hj2 => (by
    by_cases e : j2 = 1
    · subst e; exact (Or.inl (show γ 18598 = 0 by omega))
    · exact s4 j2 h8 (by omega))⟩)
theorem sx_p_m_cxb1 : sx_okm sx_HH sx_r_m_cxb1 := by
  intro γ A x hG hR hn
  have n0 : 0 ≤ (-1) + (1 * γ 18595 + 0) := hn _ (List.Mem.head _)
  have n1 : 0 ≤ 1 + ((-1) * γ 18595 + 0) := hn _ (List.Mem.tail _ (List.Mem.head _))
  have n2 : 0 ≤ (-2) + (1 * x + 0) := hn _ (List.Mem.tail _ (List.Mem.tail _ (List.Mem.head _)))
  have n3 : 0 ≤ 2 + ((-1) * x + 0) := hn _ (List.Mem.tail _ (List.Mem.tail _ (List.Mem.tail _ (List.Mem.head _))))
  have n4 : 0 ≤ (-1) + (1 * γ 18621 + 0) := hn _ (List.Mem.tail _ (List.Mem.tail _ (List.Mem.tail _ (List.Mem.tail _ (List.Mem.head _)))))
  have n5 : 0 ≤ 1 + ((-1) * γ 18621 + 0) := hn _ (List.Mem.tail _ (List.Mem.tail _ (List.Mem.tail _ (List.Mem.tail _ (List.Mem.tail _ (List.Mem.head _))))))
  have n6 : 0 ≤ 0 + ((-1) * γ 18606 + 0) := hn _ (List.Mem.tail _ (List.Mem.tail _ (List.Mem.tail _ (List.Mem.tail _ (List.Mem.tail _ (List.Mem.tail _ (List.Mem.head _)))))))
  have n7 : 0 ≤ 0 + ((-1) * γ 18614 + 0) := hn _ (List.Mem.tail _ (List.Mem.tail _ (List.Mem.tail _ (List.Mem.tail _ (List.Mem.tail _ (List.Mem.tail _ (List.Mem.tail _ (List.Mem.head _))))))))
  clear hn
  obtain ⟨g0, g1, g2, g3, g4, g5, g6, g7, g8, g9, g10, g11, g12, g13, g14, g15, g16, g17, g18, g19, g20, g21, g22, g23, g24, g25, g26, g27, g28, g29, g30, g31, g32, g33, g34, g35, g36⟩ := id hG
  have r_CX := sx_gr_CX hR
  have r_QM := sx_gr_QM hR
  have r_XA1 := sx_gr_XA1 hR
  have r_XB1 := sx_gr_XB1 hR
  have hQ : γ 18595 = 1 := by omega
  obtain ⟨s1, s2, s3, s4⟩ := g33 hQ
  exact sx_q_m_cxb1_0 hG (fun _ => ⟨s1, s2, s3, fun j2 h8 hj2 => (by
    by_cases e : j2 = 1
    · subst e; exact (Or.inr ⟨show γ 18606 = 0 by omega, show γ 18614 = 0 by omega⟩)
    · exact s4 j2 h8 (by omega))⟩)
theorem sx_p_m_cxa2 : sx_okm sx_HH sx_r_m_cxa2 := by
  intro γ A x hG hR hn
  have n0 : 0 ≤ (-1) + (1 * γ 18595 + 0) := hn _ (List.Mem.head _)
  have n1 : 0 ≤ 1 + ((-1) * γ 18595 + 0) := hn _ (List.Mem.tail _ (List.Mem.head _))
  have n2 : 0 ≤ (-3) + (1 * x + 0) := hn _ (List.Mem.tail _ (List.Mem.tail _ (List.Mem.head _)))
  have n3 : 0 ≤ 3 + ((-1) * x + 0) := hn _ (List.Mem.tail _ (List.Mem.tail _ (List.Mem.tail _ (List.Mem.head _))))
  have n4 : 0 ≤ (-2) + (1 * γ 18621 + 0) := hn _ (List.Mem.tail _ (List.Mem.tail _ (List.Mem.tail _ (List.Mem.tail _ (List.Mem.head _)))))
  have n5 : 0 ≤ 2 + ((-1) * γ 18621 + 0) := hn _ (List.Mem.tail _ (List.Mem.tail _ (List.Mem.tail _ (List.Mem.tail _ (List.Mem.tail _ (List.Mem.head _))))))
  have n6 : 0 ≤ 0 + ((-1) * γ 18599 + 0) := hn _ (List.Mem.tail _ (List.Mem.tail _ (List.Mem.tail _ (List.Mem.tail _ (List.Mem.tail _ (List.Mem.tail _ (List.Mem.head _)))))))
  clear hn
  obtain ⟨g0, g1, g2, g3, g4, g5, g6, g7, g8, g9, g10, g11, g12, g13, g14, g15, g16, g17, g18, g19, g20, g21, g22, g23, g24, g25, g26, g27, g28, g29, g30, g31, g32, g33, g34, g35, g36⟩ := id hG
  have r_CX := sx_gr_CX hR
  have r_QM := sx_gr_QM hR
  have r_pg2 := sx_gr_pg2 hR
  have hQ : γ 18595 = 1 := by omega
  obtain ⟨s1, s2, s3, s4⟩ := g33 hQ
  exact sx_q_m_cxa2_0 hG (fun _ => ⟨s1, s2, s3, fun j2 h8 hj2 => (by
    by_cases e : j2 = 2
    · subst e; exact (Or.inl (show γ 18599 = 0 by omega))
    · exact s4 j2 h8 (by omega))⟩)
theorem sx_p_m_cxb2 : sx_okm sx_HH sx_r_m_cxb2 := by
  intro γ A x hG hR hn
  have n0 : 0 ≤ (-1) + (1 * γ 18595 + 0) := hn _ (List.Mem.head _)
  have n1 : 0 ≤ 1 + ((-1) * γ 18595 + 0) := hn _ (List.Mem.tail _ (List.Mem.head _))
  have n2 : 0 ≤ (-3) + (1 * x + 0) := hn _ (List.Mem.tail _ (List.Mem.tail _ (List.Mem.head _)))
  have n3 : 0 ≤ 3 + ((-1) * x + 0) := hn _ (List.Mem.tail _ (List.Mem.tail _ (List.Mem.tail _ (List.Mem.head _))))
  have n4 : 0 ≤ (-2) + (1 * γ 18621 + 0) := hn _ (List.Mem.tail _ (List.Mem.tail _ (List.Mem.tail _ (List.Mem.tail _ (List.Mem.head _)))))
  have n5 : 0 ≤ 2 + ((-1) * γ 18621 + 0) := hn _ (List.Mem.tail _ (List.Mem.tail _ (List.Mem.tail _ (List.Mem.tail _ (List.Mem.tail _ (List.Mem.head _))))))
  have n6 : 0 ≤ 0 + ((-1) * γ 18607 + 0) := hn _ (List.Mem.tail _ (List.Mem.tail _ (List.Mem.tail _ (List.Mem.tail _ (List.Mem.tail _ (List.Mem.tail _ (List.Mem.head _)))))))
  have n7 : 0 ≤ 0 + ((-1) * γ 18615 + 0) := hn _ (List.Mem.tail _ (List.Mem.tail _ (List.Mem.tail _ (List.Mem.tail _ (List.Mem.tail _ (List.Mem.tail _ (List.Mem.tail _ (List.Mem.head _))))))))
  clear hn
  obtain ⟨g0, g1, g2, g3, g4, g5, g6, g7, g8, g9, g10, g11, g12, g13, g14, g15, g16, g17, g18, g19, g20, g21, g22, g23, g24, g25, g26, g27, g28, g29, g30, g31, g32, g33, g34, g35, g36⟩ := id hG
  have r_CX := sx_gr_CX hR
  have r_QM := sx_gr_QM hR
  have r_XA2 := sx_gr_XA2 hR
  have r_XB2 := sx_gr_XB2 hR
  have hQ : γ 18595 = 1 := by omega
  obtain ⟨s1, s2, s3, s4⟩ := g33 hQ
  exact sx_q_m_cxb2_0 hG (fun _ => ⟨s1, s2, s3, fun j2 h8 hj2 => (by
    by_cases e : j2 = 2
    · subst e; exact (Or.inr ⟨show γ 18607 = 0 by omega, show γ 18615 = 0 by omega⟩)
    · exact s4 j2 h8 (by omega))⟩)
theorem sx_p_m_cxa3 : sx_okm sx_HH sx_r_m_cxa3 := by
  intro γ A x hG hR hn
  have n0 : 0 ≤ (-1) + (1 * γ 18595 + 0) := hn _ (List.Mem.head _)
  have n1 : 0 ≤ 1 + ((-1) * γ 18595 + 0) := hn _ (List.Mem.tail _ (List.Mem.head _))
  have n2 : 0 ≤ (-4) + (1 * x + 0) := hn _ (List.Mem.tail _ (List.Mem.tail _ (List.Mem.head _)))
  have n3 : 0 ≤ 4 + ((-1) * x + 0) := hn _ (List.Mem.tail _ (List.Mem.tail _ (List.Mem.tail _ (List.Mem.head _))))
  have n4 : 0 ≤ (-3) + (1 * γ 18621 + 0) := hn _ (List.Mem.tail _ (List.Mem.tail _ (List.Mem.tail _ (List.Mem.tail _ (List.Mem.head _)))))
  have n5 : 0 ≤ 3 + ((-1) * γ 18621 + 0) := hn _ (List.Mem.tail _ (List.Mem.tail _ (List.Mem.tail _ (List.Mem.tail _ (List.Mem.tail _ (List.Mem.head _))))))
  have n6 : 0 ≤ 0 + ((-1) * γ 18600 + 0) := hn _ (List.Mem.tail _ (List.Mem.tail _ (List.Mem.tail _ (List.Mem.tail _ (List.Mem.tail _ (List.Mem.tail _ (List.Mem.head _)))))))
  clear hn
  obtain ⟨g0, g1, g2, g3, g4, g5, g6, g7, g8, g9, g10, g11, g12, g13, g14, g15, g16, g17, g18, g19, g20, g21, g22, g23, g24, g25, g26, g27, g28, g29, g30, g31, g32, g33, g34, g35, g36⟩ := id hG
  have r_CX := sx_gr_CX hR
  have r_QM := sx_gr_QM hR
  have r_pg3 := sx_gr_pg3 hR
  have hQ : γ 18595 = 1 := by omega
  obtain ⟨s1, s2, s3, s4⟩ := g33 hQ
  exact sx_q_m_cxa3_0 hG (fun _ => ⟨s1, s2, s3, fun j2 h8 hj2 => (by
    by_cases e : j2 = 3
    · subst e; exact (Or.inl (show γ 18600 = 0 by omega))
    · exact s4 j2 h8 (by omega))⟩)
theorem sx_p_m_cxb3 : sx_okm sx_HH sx_r_m_cxb3 := by
  intro γ A x hG hR hn
  have n0 : 0 ≤ (-1) + (1 * γ 18595 + 0) := hn _ (List.Mem.head _)
  have n1 : 0 ≤ 1 + ((-1) * γ 18595 + 0) := hn _ (List.Mem.tail _ (List.Mem.head _))
  have n2 : 0 ≤ (-4) + (1 * x + 0) := hn _ (List.Mem.tail _ (List.Mem.tail _ (List.Mem.head _)))
  have n3 : 0 ≤ 4 + ((-1) * x + 0) := hn _ (List.Mem.tail _ (List.Mem.tail _ (List.Mem.tail _ (List.Mem.head _))))
  have n4 : 0 ≤ (-3) + (1 * γ 18621 + 0) := hn _ (List.Mem.tail _ (List.Mem.tail _ (List.Mem.tail _ (List.Mem.tail _ (List.Mem.head _)))))
  have n5 : 0 ≤ 3 + ((-1) * γ 18621 + 0) := hn _ (List.Mem.tail _ (List.Mem.tail _ (List.Mem.tail _ (List.Mem.tail _ (List.Mem.tail _ (List.Mem.head _))))))
  have n6 : 0 ≤ 0 + ((-1) * γ 18608 + 0) := hn _ (List.Mem.tail _ (List.Mem.tail _ (List.Mem.tail _ (List.Mem.tail _ (List.Mem.tail _ (List.Mem.tail _ (List.Mem.head _)))))))
  have n7 : 0 ≤ 0 + ((-1) * γ 18616 + 0) := hn _ (List.Mem.tail _ (List.Mem.tail _ (List.Mem.tail _ (List.Mem.tail _ (List.Mem.tail _ (List.Mem.tail _ (List.Mem.tail _ (List.Mem.head _))))))))
  clear hn
  obtain ⟨g0, g1, g2, g3, g4, g5, g6, g7, g8, g9, g10, g11, g12, g13, g14, g15, g16, g17, g18, g19, g20, g21, g22, g23, g24, g25, g26, g27, g28, g29, g30, g31, g32, g33, g34, g35, g36⟩ := id hG
  have r_CX := sx_gr_CX hR
  have r_QM := sx_gr_QM hR
  have r_XA3 := sx_gr_XA3 hR
  have r_XB3 := sx_gr_XB3 hR
  have hQ : γ 18595 = 1 := by omega
  obtain ⟨s1, s2, s3, s4⟩ := g33 hQ
  exact sx_q_m_cxb3_0 hG (fun _ => ⟨s1, s2, s3, fun j2 h8 hj2 => (by
    by_cases e : j2 = 3
    · subst e; exact (Or.inr ⟨show γ 18608 = 0 by omega, show γ 18616 = 0 by omega⟩)
    · exact s4 j2 h8 (by omega))⟩)
theorem sx_p_m_cxa4 : sx_okm sx_HH sx_r_m_cxa4 := by
  intro γ A x hG hR hn
  have n0 : 0 ≤ (-1) + (1 * γ 18595 + 0) := hn _ (List.Mem.head _)
  have n1 : 0 ≤ 1 + ((-1) * γ 18595 + 0) := hn _ (List.Mem.tail _ (List.Mem.head _))
  have n2 : 0 ≤ (-5) + (1 * x + 0) := hn _ (List.Mem.tail _ (List.Mem.tail _ (List.Mem.head _)))
  have n3 : 0 ≤ 5 + ((-1) * x + 0) := hn _ (List.Mem.tail _ (List.Mem.tail _ (List.Mem.tail _ (List.Mem.head _))))
  have n4 : 0 ≤ (-4) + (1 * γ 18621 + 0) := hn _ (List.Mem.tail _ (List.Mem.tail _ (List.Mem.tail _ (List.Mem.tail _ (List.Mem.head _)))))
  have n5 : 0 ≤ 4 + ((-1) * γ 18621 + 0) := hn _ (List.Mem.tail _ (List.Mem.tail _ (List.Mem.tail _ (List.Mem.tail _ (List.Mem.tail _ (List.Mem.head _))))))
  have n6 : 0 ≤ 0 + ((-1) * γ 18601 + 0) := hn _ (List.Mem.tail _ (List.Mem.tail _ (List.Mem.tail _ (List.Mem.tail _ (List.Mem.tail _ (List.Mem.tail _ (List.Mem.head _)))))))
  clear hn
  obtain ⟨g0, g1, g2, g3, g4, g5, g6, g7, g8, g9, g10, g11, g12, g13, g14, g15, g16, g17, g18, g19, g20, g21, g22, g23, g24, g25, g26, g27, g28, g29, g30, g31, g32, g33, g34, g35, g36⟩ := id hG
  have r_CX := sx_gr_CX hR
  have r_QM := sx_gr_QM hR
  have r_pg4 := sx_gr_pg4 hR
  have hQ : γ 18595 = 1 := by omega
  obtain ⟨s1, s2, s3, s4⟩ := g33 hQ
  exact sx_q_m_cxa4_0 hG (fun _ => ⟨s1, s2, s3, fun j2 h8 hj2 => (by
    by_cases e : j2 = 4
    · subst e; exact (Or.inl (show γ 18601 = 0 by omega))
    · exact s4 j2 h8 (by omega))⟩)
theorem sx_p_m_cxb4 : sx_okm sx_HH sx_r_m_cxb4 := by
  intro γ A x hG hR hn
  have n0 : 0 ≤ (-1) + (1 * γ 18595 + 0) := hn _ (List.Mem.head _)
  have n1 : 0 ≤ 1 + ((-1) * γ 18595 + 0) := hn _ (List.Mem.tail _ (List.Mem.head _))
  have n2 : 0 ≤ (-5) + (1 * x + 0) := hn _ (List.Mem.tail _ (List.Mem.tail _ (List.Mem.head _)))
  have n3 : 0 ≤ 5 + ((-1) * x + 0) := hn _ (List.Mem.tail _ (List.Mem.tail _ (List.Mem.tail _ (List.Mem.head _))))
  have n4 : 0 ≤ (-4) + (1 * γ 18621 + 0) := hn _ (List.Mem.tail _ (List.Mem.tail _ (List.Mem.tail _ (List.Mem.tail _ (List.Mem.head _)))))
  have n5 : 0 ≤ 4 + ((-1) * γ 18621 + 0) := hn _ (List.Mem.tail _ (List.Mem.tail _ (List.Mem.tail _ (List.Mem.tail _ (List.Mem.tail _ (List.Mem.head _))))))
  have n6 : 0 ≤ 0 + ((-1) * γ 18609 + 0) := hn _ (List.Mem.tail _ (List.Mem.tail _ (List.Mem.tail _ (List.Mem.tail _ (List.Mem.tail _ (List.Mem.tail _ (List.Mem.head _)))))))
  have n7 : 0 ≤ 0 + ((-1) * γ 18617 + 0) := hn _ (List.Mem.tail _ (List.Mem.tail _ (List.Mem.tail _ (List.Mem.tail _ (List.Mem.tail _ (List.Mem.tail _ (List.Mem.tail _ (List.Mem.head _))))))))
  clear hn
  obtain ⟨g0, g1, g2, g3, g4, g5, g6, g7, g8, g9, g10, g11, g12, g13, g14, g15, g16, g17, g18, g19, g20, g21, g22, g23, g24, g25, g26, g27, g28, g29, g30, g31, g32, g33, g34, g35, g36⟩ := id hG
  have r_CX := sx_gr_CX hR
  have r_QM := sx_gr_QM hR
  have r_XA4 := sx_gr_XA4 hR
  have r_XB4 := sx_gr_XB4 hR
  have hQ : γ 18595 = 1 := by omega
  obtain ⟨s1, s2, s3, s4⟩ := g33 hQ
  exact sx_q_m_cxb4_0 hG (fun _ => ⟨s1, s2, s3, fun j2 h8 hj2 => (by
    by_cases e : j2 = 4
    · subst e; exact (Or.inr ⟨show γ 18609 = 0 by omega, show γ 18617 = 0 by omega⟩)
    · exact s4 j2 h8 (by omega))⟩)
theorem sx_p_m_cxa5 : sx_okm sx_HH sx_r_m_cxa5 := by
  intro γ A x hG hR hn
  have n0 : 0 ≤ (-1) + (1 * γ 18595 + 0) := hn _ (List.Mem.head _)
  have n1 : 0 ≤ 1 + ((-1) * γ 18595 + 0) := hn _ (List.Mem.tail _ (List.Mem.head _))
  have n2 : 0 ≤ (-6) + (1 * x + 0) := hn _ (List.Mem.tail _ (List.Mem.tail _ (List.Mem.head _)))
  have n3 : 0 ≤ 6 + ((-1) * x + 0) := hn _ (List.Mem.tail _ (List.Mem.tail _ (List.Mem.tail _ (List.Mem.head _))))
  have n4 : 0 ≤ (-5) + (1 * γ 18621 + 0) := hn _ (List.Mem.tail _ (List.Mem.tail _ (List.Mem.tail _ (List.Mem.tail _ (List.Mem.head _)))))
  have n5 : 0 ≤ 5 + ((-1) * γ 18621 + 0) := hn _ (List.Mem.tail _ (List.Mem.tail _ (List.Mem.tail _ (List.Mem.tail _ (List.Mem.tail _ (List.Mem.head _))))))
  have n6 : 0 ≤ 0 + ((-1) * γ 18602 + 0) := hn _ (List.Mem.tail _ (List.Mem.tail _ (List.Mem.tail _ (List.Mem.tail _ (List.Mem.tail _ (List.Mem.tail _ (List.Mem.head _)))))))
  clear hn
  obtain ⟨g0, g1, g2, g3, g4, g5, g6, g7, g8, g9, g10, g11, g12, g13, g14, g15, g16, g17, g18, g19, g20, g21, g22, g23, g24, g25, g26, g27, g28, g29, g30, g31, g32, g33, g34, g35, g36⟩ := id hG
  have r_CX := sx_gr_CX hR
  have r_QM := sx_gr_QM hR
  have r_pg5 := sx_gr_pg5 hR
  have hQ : γ 18595 = 1 := by omega
  obtain ⟨s1, s2, s3, s4⟩ := g33 hQ
  exact sx_q_m_cxa5_0 hG (fun _ => ⟨s1, s2, s3, fun j2 h8 hj2 => (by
    by_cases e : j2 = 5
    · subst e; exact (Or.inl (show γ 18602 = 0 by omega))
    · exact s4 j2 h8 (by omega))⟩)
theorem sx_p_m_cxb5 : sx_okm sx_HH sx_r_m_cxb5 := by
  intro γ A x hG hR hn
  have n0 : 0 ≤ (-1) + (1 * γ 18595 + 0) := hn _ (List.Mem.head _)
  have n1 : 0 ≤ 1 + ((-1) * γ 18595 + 0) := hn _ (List.Mem.tail _ (List.Mem.head _))
  have n2 : 0 ≤ (-6) + (1 * x + 0) := hn _ (List.Mem.tail _ (List.Mem.tail _ (List.Mem.head _)))
  have n3 : 0 ≤ 6 + ((-1) * x + 0) := hn _ (List.Mem.tail _ (List.Mem.tail _ (List.Mem.tail _ (List.Mem.head _))))
  have n4 : 0 ≤ (-5) + (1 * γ 18621 + 0) := hn _ (List.Mem.tail _ (List.Mem.tail _ (List.Mem.tail _ (List.Mem.tail _ (List.Mem.head _)))))
  have n5 : 0 ≤ 5 + ((-1) * γ 18621 + 0) := hn _ (List.Mem.tail _ (List.Mem.tail _ (List.Mem.tail _ (List.Mem.tail _ (List.Mem.tail _ (List.Mem.head _))))))
  have n6 : 0 ≤ 0 + ((-1) * γ 18610 + 0) := hn _ (List.Mem.tail _ (List.Mem.tail _ (List.Mem.tail _ (List.Mem.tail _ (List.Mem.tail _ (List.Mem.tail _ (List.Mem.head _)))))))
  have n7 : 0 ≤ 0 + ((-1) * γ 18618 + 0) := hn _ (List.Mem.tail _ (List.Mem.tail _ (List.Mem.tail _ (List.Mem.tail _ (List.Mem.tail _ (List.Mem.tail _ (List.Mem.tail _ (List.Mem.head _))))))))
  clear hn
  obtain ⟨g0, g1, g2, g3, g4, g5, g6, g7, g8, g9, g10, g11, g12, g13, g14, g15, g16, g17, g18, g19, g20, g21, g22, g23, g24, g25, g26, g27, g28, g29, g30, g31, g32, g33, g34, g35, g36⟩ := id hG
  have r_CX := sx_gr_CX hR
  have r_QM := sx_gr_QM hR
  have r_XA5 := sx_gr_XA5 hR
  have r_XB5 := sx_gr_XB5 hR
  have hQ : γ 18595 = 1 := by omega
  obtain ⟨s1, s2, s3, s4⟩ := g33 hQ
  exact sx_q_m_cxb5_0 hG (fun _ => ⟨s1, s2, s3, fun j2 h8 hj2 => (by
    by_cases e : j2 = 5
    · subst e; exact (Or.inr ⟨show γ 18610 = 0 by omega, show γ 18618 = 0 by omega⟩)
    · exact s4 j2 h8 (by omega))⟩)
theorem sx_p_m_cxa6 : sx_okm sx_HH sx_r_m_cxa6 := by
  intro γ A x hG hR hn
  have n0 : 0 ≤ (-1) + (1 * γ 18595 + 0) := hn _ (List.Mem.head _)
  have n1 : 0 ≤ 1 + ((-1) * γ 18595 + 0) := hn _ (List.Mem.tail _ (List.Mem.head _))
  have n2 : 0 ≤ (-7) + (1 * x + 0) := hn _ (List.Mem.tail _ (List.Mem.tail _ (List.Mem.head _)))
  have n3 : 0 ≤ 7 + ((-1) * x + 0) := hn _ (List.Mem.tail _ (List.Mem.tail _ (List.Mem.tail _ (List.Mem.head _))))
  have n4 : 0 ≤ (-6) + (1 * γ 18621 + 0) := hn _ (List.Mem.tail _ (List.Mem.tail _ (List.Mem.tail _ (List.Mem.tail _ (List.Mem.head _)))))
  have n5 : 0 ≤ 6 + ((-1) * γ 18621 + 0) := hn _ (List.Mem.tail _ (List.Mem.tail _ (List.Mem.tail _ (List.Mem.tail _ (List.Mem.tail _ (List.Mem.head _))))))
  have n6 : 0 ≤ 0 + ((-1) * γ 18603 + 0) := hn _ (List.Mem.tail _ (List.Mem.tail _ (List.Mem.tail _ (List.Mem.tail _ (List.Mem.tail _ (List.Mem.tail _ (List.Mem.head _)))))))
  clear hn
  obtain ⟨g0, g1, g2, g3, g4, g5, g6, g7, g8, g9, g10, g11, g12, g13, g14, g15, g16, g17, g18, g19, g20, g21, g22, g23, g24, g25, g26, g27, g28, g29, g30, g31, g32, g33, g34, g35, g36⟩ := id hG
  have r_CX := sx_gr_CX hR
  have r_QM := sx_gr_QM hR
  have r_pg6 := sx_gr_pg6 hR
  have hQ : γ 18595 = 1 := by omega
  obtain ⟨s1, s2, s3, s4⟩ := g33 hQ
  exact sx_q_m_cxa6_0 hG (fun _ => ⟨s1, s2, s3, fun j2 h8 hj2 => (by
    by_cases e : j2 = 6
    · subst e; exact (Or.inl (show γ 18603 = 0 by omega))
    · exact s4 j2 h8 (by omega))⟩)
theorem sx_p_m_cxb6 : sx_okm sx_HH sx_r_m_cxb6 := by
  intro γ A x hG hR hn
  have n0 : 0 ≤ (-1) + (1 * γ 18595 + 0) := hn _ (List.Mem.head _)
  have n1 : 0 ≤ 1 + ((-1) * γ 18595 + 0) := hn _ (List.Mem.tail _ (List.Mem.head _))
  have n2 : 0 ≤ (-7) + (1 * x + 0) := hn _ (List.Mem.tail _ (List.Mem.tail _ (List.Mem.head _)))
  have n3 : 0 ≤ 7 + ((-1) * x + 0) := hn _ (List.Mem.tail _ (List.Mem.tail _ (List.Mem.tail _ (List.Mem.head _))))
  have n4 : 0 ≤ (-6) + (1 * γ 18621 + 0) := hn _ (List.Mem.tail _ (List.Mem.tail _ (List.Mem.tail _ (List.Mem.tail _ (List.Mem.head _)))))
  have n5 : 0 ≤ 6 + ((-1) * γ 18621 + 0) := hn _ (List.Mem.tail _ (List.Mem.tail _ (List.Mem.tail _ (List.Mem.tail _ (List.Mem.tail _ (List.Mem.head _))))))
  have n6 : 0 ≤ 0 + ((-1) * γ 18611 + 0) := hn _ (List.Mem.tail _ (List.Mem.tail _ (List.Mem.tail _ (List.Mem.tail _ (List.Mem.tail _ (List.Mem.tail _ (List.Mem.head _)))))))
  have n7 : 0 ≤ 0 + ((-1) * γ 18619 + 0) := hn _ (List.Mem.tail _ (List.Mem.tail _ (List.Mem.tail _ (List.Mem.tail _ (List.Mem.tail _ (List.Mem.tail _ (List.Mem.tail _ (List.Mem.head _))))))))
  clear hn
  obtain ⟨g0, g1, g2, g3, g4, g5, g6, g7, g8, g9, g10, g11, g12, g13, g14, g15, g16, g17, g18, g19, g20, g21, g22, g23, g24, g25, g26, g27, g28, g29, g30, g31, g32, g33, g34, g35, g36⟩ := id hG
  have r_CX := sx_gr_CX hR
  have r_QM := sx_gr_QM hR
  have r_XA6 := sx_gr_XA6 hR
  have r_XB6 := sx_gr_XB6 hR
  have hQ : γ 18595 = 1 := by omega
  obtain ⟨s1, s2, s3, s4⟩ := g33 hQ
  exact sx_q_m_cxb6_0 hG (fun _ => ⟨s1, s2, s3, fun j2 h8 hj2 => (by
    by_cases e : j2 = 6
    · subst e; exact (Or.inr ⟨show γ 18611 = 0 by omega, show γ 18619 = 0 by omega⟩)
    · exact s4 j2 h8 (by omega))⟩)
theorem sx_p_m_cxa7 : sx_okm sx_HH sx_r_m_cxa7 := by
  intro γ A x hG hR hn
  have n0 : 0 ≤ (-1) + (1 * γ 18595 + 0) := hn _ (List.Mem.head _)
  have n1 : 0 ≤ 1 + ((-1) * γ 18595 + 0) := hn _ (List.Mem.tail _ (List.Mem.head _))
  have n2 : 0 ≤ (-8) + (1 * x + 0) := hn _ (List.Mem.tail _ (List.Mem.tail _ (List.Mem.head _)))
  have n3 : 0 ≤ 8 + ((-1) * x + 0) := hn _ (List.Mem.tail _ (List.Mem.tail _ (List.Mem.tail _ (List.Mem.head _))))
  have n4 : 0 ≤ (-7) + (1 * γ 18621 + 0) := hn _ (List.Mem.tail _ (List.Mem.tail _ (List.Mem.tail _ (List.Mem.tail _ (List.Mem.head _)))))
  have n5 : 0 ≤ 7 + ((-1) * γ 18621 + 0) := hn _ (List.Mem.tail _ (List.Mem.tail _ (List.Mem.tail _ (List.Mem.tail _ (List.Mem.tail _ (List.Mem.head _))))))
  have n6 : 0 ≤ 0 + ((-1) * γ 18604 + 0) := hn _ (List.Mem.tail _ (List.Mem.tail _ (List.Mem.tail _ (List.Mem.tail _ (List.Mem.tail _ (List.Mem.tail _ (List.Mem.head _)))))))
  clear hn
  obtain ⟨g0, g1, g2, g3, g4, g5, g6, g7, g8, g9, g10, g11, g12, g13, g14, g15, g16, g17, g18, g19, g20, g21, g22, g23, g24, g25, g26, g27, g28, g29, g30, g31, g32, g33, g34, g35, g36⟩ := id hG
  have r_CX := sx_gr_CX hR
  have r_QM := sx_gr_QM hR
  have r_pg7 := sx_gr_pg7 hR
  have hQ : γ 18595 = 1 := by omega
  obtain ⟨s1, s2, s3, s4⟩ := g33 hQ
  exact sx_q_m_cxa7_0 hG (fun _ => ⟨s1, s2, s3, fun j2 h8 hj2 => (by
    by_cases e : j2 = 7
    · subst e; exact (Or.inl (show γ 18604 = 0 by omega))
    · exact s4 j2 h8 (by omega))⟩)
theorem sx_p_m_cxb7 : sx_okm sx_HH sx_r_m_cxb7 := by
  intro γ A x hG hR hn
  have n0 : 0 ≤ (-1) + (1 * γ 18595 + 0) := hn _ (List.Mem.head _)
  have n1 : 0 ≤ 1 + ((-1) * γ 18595 + 0) := hn _ (List.Mem.tail _ (List.Mem.head _))
  have n2 : 0 ≤ (-8) + (1 * x + 0) := hn _ (List.Mem.tail _ (List.Mem.tail _ (List.Mem.head _)))
  have n3 : 0 ≤ 8 + ((-1) * x + 0) := hn _ (List.Mem.tail _ (List.Mem.tail _ (List.Mem.tail _ (List.Mem.head _))))
  have n4 : 0 ≤ (-7) + (1 * γ 18621 + 0) := hn _ (List.Mem.tail _ (List.Mem.tail _ (List.Mem.tail _ (List.Mem.tail _ (List.Mem.head _)))))
  have n5 : 0 ≤ 7 + ((-1) * γ 18621 + 0) := hn _ (List.Mem.tail _ (List.Mem.tail _ (List.Mem.tail _ (List.Mem.tail _ (List.Mem.tail _ (List.Mem.head _))))))
  have n6 : 0 ≤ 0 + ((-1) * γ 18612 + 0) := hn _ (List.Mem.tail _ (List.Mem.tail _ (List.Mem.tail _ (List.Mem.tail _ (List.Mem.tail _ (List.Mem.tail _ (List.Mem.head _)))))))
  have n7 : 0 ≤ 0 + ((-1) * γ 18620 + 0) := hn _ (List.Mem.tail _ (List.Mem.tail _ (List.Mem.tail _ (List.Mem.tail _ (List.Mem.tail _ (List.Mem.tail _ (List.Mem.tail _ (List.Mem.head _))))))))
  clear hn
  obtain ⟨g0, g1, g2, g3, g4, g5, g6, g7, g8, g9, g10, g11, g12, g13, g14, g15, g16, g17, g18, g19, g20, g21, g22, g23, g24, g25, g26, g27, g28, g29, g30, g31, g32, g33, g34, g35, g36⟩ := id hG
  have r_CX := sx_gr_CX hR
  have r_QM := sx_gr_QM hR
  have r_XA7 := sx_gr_XA7 hR
  have r_XB7 := sx_gr_XB7 hR
  have hQ : γ 18595 = 1 := by omega
  obtain ⟨s1, s2, s3, s4⟩ := g33 hQ
  exact sx_q_m_cxb7_0 hG (fun _ => ⟨s1, s2, s3, fun j2 h8 hj2 => (by
    by_cases e : j2 = 7
    · subst e; exact (Or.inr ⟨show γ 18612 = 0 by omega, show γ 18620 = 0 by omega⟩)
    · exact s4 j2 h8 (by omega))⟩)
theorem sx_p_m_cxe : sx_okm sx_HH sx_r_m_cxe := by
  intro γ A x hG hR hn
  have n0 : 0 ≤ (-1) + (1 * γ 18595 + 0) := hn _ (List.Mem.head _)
  have n1 : 0 ≤ 1 + ((-1) * γ 18595 + 0) := hn _ (List.Mem.tail _ (List.Mem.head _))
  have n2 : 0 ≤ 0 + ((-1) * γ 133 + (1 * γ 18623 + 0)) := hn _ (List.Mem.tail _ (List.Mem.tail _ (List.Mem.head _)))
  have n3 : 0 ≤ 0 + (1 * γ 133 + ((-1) * γ 18623 + 0)) := hn _ (List.Mem.tail _ (List.Mem.tail _ (List.Mem.tail _ (List.Mem.head _))))
  clear hn
  obtain ⟨g0, g1, g2, g3, g4, g5, g6, g7, g8, g9, g10, g11, g12, g13, g14, g15, g16, g17, g18, g19, g20, g21, g22, g23, g24, g25, g26, g27, g28, g29, g30, g31, g32, g33, g34, g35, g36⟩ := id hG
  have r_CX := sx_gr_CX hR
  have r_KN := sx_gr_KN hR
  have r_QM := sx_gr_QM hR
  have r_RX := sx_gr_RX hR
  have r_SZ := sx_gr_SZ hR
  have hQ : γ 18595 = 1 := by omega
  obtain ⟨s1, s2, s3, s4⟩ := g33 hQ
  by_cases h : γ 133 ≤ γ 18621
  · have h1 := s3 (fun j2 h8 hj2 => s4 j2 h8 (by omega))
    exact sx_q_m_cxe_0 hG (by omega) (by omega)
  · exact sx_q_m_cxe_1 hG (by omega)
theorem sx_p_m_cma0 : sx_okm sx_HH sx_r_m_cma0 := by
  intro γ A x hG hR hn
  have n0 : 0 ≤ (-1) + (1 * γ 18595 + 0) := hn _ (List.Mem.head _)
  have n1 : 0 ≤ 1 + ((-1) * γ 18595 + 0) := hn _ (List.Mem.tail _ (List.Mem.head _))
  have n2 : 0 ≤ (-1) + (1 * x + 0) := hn _ (List.Mem.tail _ (List.Mem.tail _ (List.Mem.head _)))
  have n3 : 0 ≤ 1 + ((-1) * x + 0) := hn _ (List.Mem.tail _ (List.Mem.tail _ (List.Mem.tail _ (List.Mem.head _))))
  have n4 : 0 ≤ 0 + (1 * γ 18656 + 0) := hn _ (List.Mem.tail _ (List.Mem.tail _ (List.Mem.tail _ (List.Mem.tail _ (List.Mem.head _)))))
  have n5 : 0 ≤ 0 + ((-1) * γ 18656 + 0) := hn _ (List.Mem.tail _ (List.Mem.tail _ (List.Mem.tail _ (List.Mem.tail _ (List.Mem.tail _ (List.Mem.head _))))))
  have n6 : 0 ≤ (-1) + (1 * γ 18576 + 0) := hn _ (List.Mem.tail _ (List.Mem.tail _ (List.Mem.tail _ (List.Mem.tail _ (List.Mem.tail _ (List.Mem.tail _ (List.Mem.head _)))))))
  have n7 : 0 ≤ 0 + (1 * γ 18632 + ((-1) * γ 18644 + 0)) := hn _ (List.Mem.tail _ (List.Mem.tail _ (List.Mem.tail _ (List.Mem.tail _ (List.Mem.tail _ (List.Mem.tail _ (List.Mem.tail _ (List.Mem.head _))))))))
  have n8 : 0 ≤ 0 + ((-1) * γ 18632 + (1 * γ 18644 + 0)) := hn _ (List.Mem.tail _ (List.Mem.tail _ (List.Mem.tail _ (List.Mem.tail _ (List.Mem.tail _ (List.Mem.tail _ (List.Mem.tail _ (List.Mem.tail _ (List.Mem.head _)))))))))
  clear hn
  obtain ⟨g0, g1, g2, g3, g4, g5, g6, g7, g8, g9, g10, g11, g12, g13, g14, g15, g16, g17, g18, g19, g20, g21, g22, g23, g24, g25, g26, g27, g28, g29, g30, g31, g32, g33, g34, g35, g36⟩ := id hG
  have r_CM := sx_gr_CM hR
  have r_MT0 := sx_gr_MT0 hR
  have r_QM := sx_gr_QM hR
  have r_ga0 := sx_gr_ga0 hR
  have r_gb0 := sx_gr_gb0 hR
  have hQ : γ 18595 = 1 := by omega
  obtain ⟨s1, s2, s3, s4⟩ := g34 hQ
  exact sx_q_m_cma0_0 hG (fun _ => ⟨s1, s2, s3, fun m2 h8 hm2 => (by
    by_cases e : m2 = 0
    · subst e; exact (show sy_om (γ 18576) (γ 18632) (γ 18644) from ⟨by omega, by omega⟩)
    · exact s4 m2 h8 (by omega))⟩)
theorem sx_p_m_cmb0 : sx_okm sx_HH sx_r_m_cmb0 := by
  intro γ A x hG hR hn
  have n0 : 0 ≤ (-1) + (1 * γ 18595 + 0) := hn _ (List.Mem.head _)
  have n1 : 0 ≤ 1 + ((-1) * γ 18595 + 0) := hn _ (List.Mem.tail _ (List.Mem.head _))
  have n2 : 0 ≤ (-1) + (1 * x + 0) := hn _ (List.Mem.tail _ (List.Mem.tail _ (List.Mem.head _)))
  have n3 : 0 ≤ 1 + ((-1) * x + 0) := hn _ (List.Mem.tail _ (List.Mem.tail _ (List.Mem.tail _ (List.Mem.head _))))
  have n4 : 0 ≤ 0 + (1 * γ 18656 + 0) := hn _ (List.Mem.tail _ (List.Mem.tail _ (List.Mem.tail _ (List.Mem.tail _ (List.Mem.head _)))))
  have n5 : 0 ≤ 0 + ((-1) * γ 18656 + 0) := hn _ (List.Mem.tail _ (List.Mem.tail _ (List.Mem.tail _ (List.Mem.tail _ (List.Mem.tail _ (List.Mem.head _))))))
  have n6 : 0 ≤ 0 + ((-1) * γ 18576 + 0) := hn _ (List.Mem.tail _ (List.Mem.tail _ (List.Mem.tail _ (List.Mem.tail _ (List.Mem.tail _ (List.Mem.tail _ (List.Mem.head _)))))))
  have n7 : 0 ≤ 1 + ((-1) * γ 18632 + ((-1) * γ 18644 + 0)) := hn _ (List.Mem.tail _ (List.Mem.tail _ (List.Mem.tail _ (List.Mem.tail _ (List.Mem.tail _ (List.Mem.tail _ (List.Mem.tail _ (List.Mem.head _))))))))
  clear hn
  obtain ⟨g0, g1, g2, g3, g4, g5, g6, g7, g8, g9, g10, g11, g12, g13, g14, g15, g16, g17, g18, g19, g20, g21, g22, g23, g24, g25, g26, g27, g28, g29, g30, g31, g32, g33, g34, g35, g36⟩ := id hG
  have r_CM := sx_gr_CM hR
  have r_MT0 := sx_gr_MT0 hR
  have r_QM := sx_gr_QM hR
  have r_ga0 := sx_gr_ga0 hR
  have r_gb0 := sx_gr_gb0 hR
  have hQ : γ 18595 = 1 := by omega
  obtain ⟨s1, s2, s3, s4⟩ := g34 hQ
  exact sx_q_m_cmb0_0 hG (fun _ => ⟨s1, s2, s3, fun m2 h8 hm2 => (by
    by_cases e : m2 = 0
    · subst e; exact (show sy_om (γ 18576) (γ 18632) (γ 18644) from ⟨by omega, by omega⟩)
    · exact s4 m2 h8 (by omega))⟩)
theorem sx_p_m_cmv0 : sx_okm sx_HH sx_r_m_cmv0 := by
  intro γ A x hG hR hn
  have n0 : 0 ≤ (-1) + (1 * γ 18595 + 0) := hn _ (List.Mem.head _)
  have n1 : 0 ≤ 1 + ((-1) * γ 18595 + 0) := hn _ (List.Mem.tail _ (List.Mem.head _))
  have n2 : 0 ≤ (-1) + (1 * x + 0) := hn _ (List.Mem.tail _ (List.Mem.tail _ (List.Mem.head _)))
  have n3 : 0 ≤ 1 + ((-1) * x + 0) := hn _ (List.Mem.tail _ (List.Mem.tail _ (List.Mem.tail _ (List.Mem.head _))))
  have n4 : 0 ≤ (-1) + (1 * γ 18576 + 0) := hn _ (List.Mem.tail _ (List.Mem.tail _ (List.Mem.tail _ (List.Mem.tail _ (List.Mem.head _)))))
  have n5 : 0 ≤ (-1) + (1 * γ 18632 + (1 * γ 18644 + 0)) := hn _ (List.Mem.tail _ (List.Mem.tail _ (List.Mem.tail _ (List.Mem.tail _ (List.Mem.tail _ (List.Mem.head _))))))
  have n6 : 0 ≤ 1 + ((-1) * γ 18632 + ((-1) * γ 18644 + 0)) := hn _ (List.Mem.tail _ (List.Mem.tail _ (List.Mem.tail _ (List.Mem.tail _ (List.Mem.tail _ (List.Mem.tail _ (List.Mem.head _)))))))
  have n7 : 0 ≤ (-1) + (1 * γ 18657 + 0) := hn _ (List.Mem.tail _ (List.Mem.tail _ (List.Mem.tail _ (List.Mem.tail _ (List.Mem.tail _ (List.Mem.tail _ (List.Mem.tail _ (List.Mem.head _))))))))
  clear hn
  obtain ⟨g0, g1, g2, g3, g4, g5, g6, g7, g8, g9, g10, g11, g12, g13, g14, g15, g16, g17, g18, g19, g20, g21, g22, g23, g24, g25, g26, g27, g28, g29, g30, g31, g32, g33, g34, g35, g36⟩ := id hG
  have r_MQ := sx_gr_MQ hR
  have r_MT0 := sx_gr_MT0 hR
  have r_QM := sx_gr_QM hR
  have r_RM := sx_gr_RM hR
  have r_ga0 := sx_gr_ga0 hR
  have r_gb0 := sx_gr_gb0 hR
  have hQ : γ 18595 = 1 := by omega
  obtain ⟨s1, s2, s3, s4⟩ := g34 hQ
  have hR0 := s2 0 (by decide) (by omega) (fun hk => (by
    obtain ⟨k1, k2⟩ : sy_om (γ 18576) (γ 18632) (γ 18644) := hk
    have := k1 (by omega); omega))
  exact sx_q_m_cmv0_0 hG (by omega)
theorem sx_p_m_cmw0 : sx_okm sx_HH sx_r_m_cmw0 := by
  intro γ A x hG hR hn
  have n0 : 0 ≤ (-1) + (1 * γ 18595 + 0) := hn _ (List.Mem.head _)
  have n1 : 0 ≤ 1 + ((-1) * γ 18595 + 0) := hn _ (List.Mem.tail _ (List.Mem.head _))
  have n2 : 0 ≤ (-1) + (1 * x + 0) := hn _ (List.Mem.tail _ (List.Mem.tail _ (List.Mem.head _)))
  have n3 : 0 ≤ 1 + ((-1) * x + 0) := hn _ (List.Mem.tail _ (List.Mem.tail _ (List.Mem.tail _ (List.Mem.head _))))
  have n4 : 0 ≤ 0 + ((-1) * γ 18576 + 0) := hn _ (List.Mem.tail _ (List.Mem.tail _ (List.Mem.tail _ (List.Mem.tail _ (List.Mem.head _)))))
  have n5 : 0 ≤ (-2) + (1 * γ 18632 + (1 * γ 18644 + 0)) := hn _ (List.Mem.tail _ (List.Mem.tail _ (List.Mem.tail _ (List.Mem.tail _ (List.Mem.tail _ (List.Mem.head _))))))
  have n6 : 0 ≤ (-1) + (1 * γ 18657 + 0) := hn _ (List.Mem.tail _ (List.Mem.tail _ (List.Mem.tail _ (List.Mem.tail _ (List.Mem.tail _ (List.Mem.tail _ (List.Mem.head _)))))))
  clear hn
  obtain ⟨g0, g1, g2, g3, g4, g5, g6, g7, g8, g9, g10, g11, g12, g13, g14, g15, g16, g17, g18, g19, g20, g21, g22, g23, g24, g25, g26, g27, g28, g29, g30, g31, g32, g33, g34, g35, g36⟩ := id hG
  have r_MQ := sx_gr_MQ hR
  have r_MT0 := sx_gr_MT0 hR
  have r_QM := sx_gr_QM hR
  have r_RM := sx_gr_RM hR
  have r_ga0 := sx_gr_ga0 hR
  have r_gb0 := sx_gr_gb0 hR
  have hQ : γ 18595 = 1 := by omega
  obtain ⟨s1, s2, s3, s4⟩ := g34 hQ
  have hR0 := s2 0 (by decide) (by omega) (fun hk => (by
    obtain ⟨k1, k2⟩ : sy_om (γ 18576) (γ 18632) (γ 18644) := hk
    have := k2 (by omega); omega))
  exact sx_q_m_cmw0_0 hG (by omega)
theorem sx_p_m_cma1 : sx_okm sx_HH sx_r_m_cma1 := by
  intro γ A x hG hR hn
  have n0 : 0 ≤ (-1) + (1 * γ 18595 + 0) := hn _ (List.Mem.head _)
  have n1 : 0 ≤ 1 + ((-1) * γ 18595 + 0) := hn _ (List.Mem.tail _ (List.Mem.head _))
  have n2 : 0 ≤ (-2) + (1 * x + 0) := hn _ (List.Mem.tail _ (List.Mem.tail _ (List.Mem.head _)))
  have n3 : 0 ≤ 2 + ((-1) * x + 0) := hn _ (List.Mem.tail _ (List.Mem.tail _ (List.Mem.tail _ (List.Mem.head _))))
  have n4 : 0 ≤ (-1) + (1 * γ 18656 + 0) := hn _ (List.Mem.tail _ (List.Mem.tail _ (List.Mem.tail _ (List.Mem.tail _ (List.Mem.head _)))))
  have n5 : 0 ≤ 1 + ((-1) * γ 18656 + 0) := hn _ (List.Mem.tail _ (List.Mem.tail _ (List.Mem.tail _ (List.Mem.tail _ (List.Mem.tail _ (List.Mem.head _))))))
  have n6 : 0 ≤ (-1) + (1 * γ 18577 + 0) := hn _ (List.Mem.tail _ (List.Mem.tail _ (List.Mem.tail _ (List.Mem.tail _ (List.Mem.tail _ (List.Mem.tail _ (List.Mem.head _)))))))
  have n7 : 0 ≤ 0 + (1 * γ 18633 + ((-1) * γ 18645 + 0)) := hn _ (List.Mem.tail _ (List.Mem.tail _ (List.Mem.tail _ (List.Mem.tail _ (List.Mem.tail _ (List.Mem.tail _ (List.Mem.tail _ (List.Mem.head _))))))))
  have n8 : 0 ≤ 0 + ((-1) * γ 18633 + (1 * γ 18645 + 0)) := hn _ (List.Mem.tail _ (List.Mem.tail _ (List.Mem.tail _ (List.Mem.tail _ (List.Mem.tail _ (List.Mem.tail _ (List.Mem.tail _ (List.Mem.tail _ (List.Mem.head _)))))))))
  clear hn
  obtain ⟨g0, g1, g2, g3, g4, g5, g6, g7, g8, g9, g10, g11, g12, g13, g14, g15, g16, g17, g18, g19, g20, g21, g22, g23, g24, g25, g26, g27, g28, g29, g30, g31, g32, g33, g34, g35, g36⟩ := id hG
  have r_CM := sx_gr_CM hR
  have r_MT1 := sx_gr_MT1 hR
  have r_QM := sx_gr_QM hR
  have r_ga1 := sx_gr_ga1 hR
  have r_gb1 := sx_gr_gb1 hR
  have hQ : γ 18595 = 1 := by omega
  obtain ⟨s1, s2, s3, s4⟩ := g34 hQ
  exact sx_q_m_cma1_0 hG (fun _ => ⟨s1, s2, s3, fun m2 h8 hm2 => (by
    by_cases e : m2 = 1
    · subst e; exact (show sy_om (γ 18577) (γ 18633) (γ 18645) from ⟨by omega, by omega⟩)
    · exact s4 m2 h8 (by omega))⟩)
theorem sx_p_m_cmb1 : sx_okm sx_HH sx_r_m_cmb1 := by
  intro γ A x hG hR hn
  have n0 : 0 ≤ (-1) + (1 * γ 18595 + 0) := hn _ (List.Mem.head _)
  have n1 : 0 ≤ 1 + ((-1) * γ 18595 + 0) := hn _ (List.Mem.tail _ (List.Mem.head _))
  have n2 : 0 ≤ (-2) + (1 * x + 0) := hn _ (List.Mem.tail _ (List.Mem.tail _ (List.Mem.head _)))
  have n3 : 0 ≤ 2 + ((-1) * x + 0) := hn _ (List.Mem.tail _ (List.Mem.tail _ (List.Mem.tail _ (List.Mem.head _))))
  have n4 : 0 ≤ (-1) + (1 * γ 18656 + 0) := hn _ (List.Mem.tail _ (List.Mem.tail _ (List.Mem.tail _ (List.Mem.tail _ (List.Mem.head _)))))
  have n5 : 0 ≤ 1 + ((-1) * γ 18656 + 0) := hn _ (List.Mem.tail _ (List.Mem.tail _ (List.Mem.tail _ (List.Mem.tail _ (List.Mem.tail _ (List.Mem.head _))))))
  have n6 : 0 ≤ 0 + ((-1) * γ 18577 + 0) := hn _ (List.Mem.tail _ (List.Mem.tail _ (List.Mem.tail _ (List.Mem.tail _ (List.Mem.tail _ (List.Mem.tail _ (List.Mem.head _)))))))
  have n7 : 0 ≤ 1 + ((-1) * γ 18633 + ((-1) * γ 18645 + 0)) := hn _ (List.Mem.tail _ (List.Mem.tail _ (List.Mem.tail _ (List.Mem.tail _ (List.Mem.tail _ (List.Mem.tail _ (List.Mem.tail _ (List.Mem.head _))))))))
  clear hn
  obtain ⟨g0, g1, g2, g3, g4, g5, g6, g7, g8, g9, g10, g11, g12, g13, g14, g15, g16, g17, g18, g19, g20, g21, g22, g23, g24, g25, g26, g27, g28, g29, g30, g31, g32, g33, g34, g35, g36⟩ := id hG
  have r_CM := sx_gr_CM hR
  have r_MT1 := sx_gr_MT1 hR
  have r_QM := sx_gr_QM hR
  have r_ga1 := sx_gr_ga1 hR
  have r_gb1 := sx_gr_gb1 hR
  have hQ : γ 18595 = 1 := by omega
  obtain ⟨s1, s2, s3, s4⟩ := g34 hQ
  exact sx_q_m_cmb1_0 hG (fun _ => ⟨s1, s2, s3, fun m2 h8 hm2 => (by
    by_cases e : m2 = 1
    · subst e; exact (show sy_om (γ 18577) (γ 18633) (γ 18645) from ⟨by omega, by omega⟩)
    · exact s4 m2 h8 (by omega))⟩)
theorem sx_p_m_cmv1 : sx_okm sx_HH sx_r_m_cmv1 := by
  intro γ A x hG hR hn
  have n0 : 0 ≤ (-1) + (1 * γ 18595 + 0) := hn _ (List.Mem.head _)
  have n1 : 0 ≤ 1 + ((-1) * γ 18595 + 0) := hn _ (List.Mem.tail _ (List.Mem.head _))
  have n2 : 0 ≤ (-2) + (1 * x + 0) := hn _ (List.Mem.tail _ (List.Mem.tail _ (List.Mem.head _)))
  have n3 : 0 ≤ 2 + ((-1) * x + 0) := hn _ (List.Mem.tail _ (List.Mem.tail _ (List.Mem.tail _ (List.Mem.head _))))
  have n4 : 0 ≤ (-1) + (1 * γ 18577 + 0) := hn _ (List.Mem.tail _ (List.Mem.tail _ (List.Mem.tail _ (List.Mem.tail _ (List.Mem.head _)))))
  have n5 : 0 ≤ (-1) + (1 * γ 18633 + (1 * γ 18645 + 0)) := hn _ (List.Mem.tail _ (List.Mem.tail _ (List.Mem.tail _ (List.Mem.tail _ (List.Mem.tail _ (List.Mem.head _))))))
  have n6 : 0 ≤ 1 + ((-1) * γ 18633 + ((-1) * γ 18645 + 0)) := hn _ (List.Mem.tail _ (List.Mem.tail _ (List.Mem.tail _ (List.Mem.tail _ (List.Mem.tail _ (List.Mem.tail _ (List.Mem.head _)))))))
  have n7 : 0 ≤ (-2) + (1 * γ 18657 + 0) := hn _ (List.Mem.tail _ (List.Mem.tail _ (List.Mem.tail _ (List.Mem.tail _ (List.Mem.tail _ (List.Mem.tail _ (List.Mem.tail _ (List.Mem.head _))))))))
  clear hn
  obtain ⟨g0, g1, g2, g3, g4, g5, g6, g7, g8, g9, g10, g11, g12, g13, g14, g15, g16, g17, g18, g19, g20, g21, g22, g23, g24, g25, g26, g27, g28, g29, g30, g31, g32, g33, g34, g35, g36⟩ := id hG
  have r_MQ := sx_gr_MQ hR
  have r_MT1 := sx_gr_MT1 hR
  have r_QM := sx_gr_QM hR
  have r_RM := sx_gr_RM hR
  have r_ga1 := sx_gr_ga1 hR
  have r_gb1 := sx_gr_gb1 hR
  have hQ : γ 18595 = 1 := by omega
  obtain ⟨s1, s2, s3, s4⟩ := g34 hQ
  have hR0 := s2 1 (by decide) (by omega) (fun hk => (by
    obtain ⟨k1, k2⟩ : sy_om (γ 18577) (γ 18633) (γ 18645) := hk
    have := k1 (by omega); omega))
  exact sx_q_m_cmv1_0 hG (by omega)
theorem sx_p_m_cmw1 : sx_okm sx_HH sx_r_m_cmw1 := by
  intro γ A x hG hR hn
  have n0 : 0 ≤ (-1) + (1 * γ 18595 + 0) := hn _ (List.Mem.head _)
  have n1 : 0 ≤ 1 + ((-1) * γ 18595 + 0) := hn _ (List.Mem.tail _ (List.Mem.head _))
  have n2 : 0 ≤ (-2) + (1 * x + 0) := hn _ (List.Mem.tail _ (List.Mem.tail _ (List.Mem.head _)))
  have n3 : 0 ≤ 2 + ((-1) * x + 0) := hn _ (List.Mem.tail _ (List.Mem.tail _ (List.Mem.tail _ (List.Mem.head _))))
  have n4 : 0 ≤ 0 + ((-1) * γ 18577 + 0) := hn _ (List.Mem.tail _ (List.Mem.tail _ (List.Mem.tail _ (List.Mem.tail _ (List.Mem.head _)))))
  have n5 : 0 ≤ (-2) + (1 * γ 18633 + (1 * γ 18645 + 0)) := hn _ (List.Mem.tail _ (List.Mem.tail _ (List.Mem.tail _ (List.Mem.tail _ (List.Mem.tail _ (List.Mem.head _))))))
  have n6 : 0 ≤ (-2) + (1 * γ 18657 + 0) := hn _ (List.Mem.tail _ (List.Mem.tail _ (List.Mem.tail _ (List.Mem.tail _ (List.Mem.tail _ (List.Mem.tail _ (List.Mem.head _)))))))
  clear hn
  obtain ⟨g0, g1, g2, g3, g4, g5, g6, g7, g8, g9, g10, g11, g12, g13, g14, g15, g16, g17, g18, g19, g20, g21, g22, g23, g24, g25, g26, g27, g28, g29, g30, g31, g32, g33, g34, g35, g36⟩ := id hG
  have r_MQ := sx_gr_MQ hR
  have r_MT1 := sx_gr_MT1 hR
  have r_QM := sx_gr_QM hR
  have r_RM := sx_gr_RM hR
  have r_ga1 := sx_gr_ga1 hR
  have r_gb1 := sx_gr_gb1 hR
  have hQ : γ 18595 = 1 := by omega
  obtain ⟨s1, s2, s3, s4⟩ := g34 hQ
  have hR0 := s2 1 (by decide) (by omega) (fun hk => (by
    obtain ⟨k1, k2⟩ : sy_om (γ 18577) (γ 18633) (γ 18645) := hk
    have := k2 (by omega); omega))
  exact sx_q_m_cmw1_0 hG (by omega)
theorem sx_p_m_cma2 : sx_okm sx_HH sx_r_m_cma2 := by
  intro γ A x hG hR hn
  have n0 : 0 ≤ (-1) + (1 * γ 18595 + 0) := hn _ (List.Mem.head _)
  have n1 : 0 ≤ 1 + ((-1) * γ 18595 + 0) := hn _ (List.Mem.tail _ (List.Mem.head _))
  have n2 : 0 ≤ (-3) + (1 * x + 0) := hn _ (List.Mem.tail _ (List.Mem.tail _ (List.Mem.head _)))
  have n3 : 0 ≤ 3 + ((-1) * x + 0) := hn _ (List.Mem.tail _ (List.Mem.tail _ (List.Mem.tail _ (List.Mem.head _))))
  have n4 : 0 ≤ (-2) + (1 * γ 18656 + 0) := hn _ (List.Mem.tail _ (List.Mem.tail _ (List.Mem.tail _ (List.Mem.tail _ (List.Mem.head _)))))
  have n5 : 0 ≤ 2 + ((-1) * γ 18656 + 0) := hn _ (List.Mem.tail _ (List.Mem.tail _ (List.Mem.tail _ (List.Mem.tail _ (List.Mem.tail _ (List.Mem.head _))))))
  have n6 : 0 ≤ (-1) + (1 * γ 18578 + 0) := hn _ (List.Mem.tail _ (List.Mem.tail _ (List.Mem.tail _ (List.Mem.tail _ (List.Mem.tail _ (List.Mem.tail _ (List.Mem.head _)))))))
  have n7 : 0 ≤ 0 + (1 * γ 18634 + ((-1) * γ 18646 + 0)) := hn _ (List.Mem.tail _ (List.Mem.tail _ (List.Mem.tail _ (List.Mem.tail _ (List.Mem.tail _ (List.Mem.tail _ (List.Mem.tail _ (List.Mem.head _))))))))
  have n8 : 0 ≤ 0 + ((-1) * γ 18634 + (1 * γ 18646 + 0)) := hn _ (List.Mem.tail _ (List.Mem.tail _ (List.Mem.tail _ (List.Mem.tail _ (List.Mem.tail _ (List.Mem.tail _ (List.Mem.tail _ (List.Mem.tail _ (List.Mem.head _)))))))))
  clear hn
  obtain ⟨g0, g1, g2, g3, g4, g5, g6, g7, g8, g9, g10, g11, g12, g13, g14, g15, g16, g17, g18, g19, g20, g21, g22, g23, g24, g25, g26, g27, g28, g29, g30, g31, g32, g33, g34, g35, g36⟩ := id hG
  have r_CM := sx_gr_CM hR
  have r_MT2 := sx_gr_MT2 hR
  have r_QM := sx_gr_QM hR
  have r_ga2 := sx_gr_ga2 hR
  have r_gb2 := sx_gr_gb2 hR
  have hQ : γ 18595 = 1 := by omega
  obtain ⟨s1, s2, s3, s4⟩ := g34 hQ
  exact sx_q_m_cma2_0 hG (fun _ => ⟨s1, s2, s3, fun m2 h8 hm2 => (by
    by_cases e : m2 = 2
    · subst e; exact (show sy_om (γ 18578) (γ 18634) (γ 18646) from ⟨by omega, by omega⟩)
    · exact s4 m2 h8 (by omega))⟩)
theorem sx_p_m_cmb2 : sx_okm sx_HH sx_r_m_cmb2 := by
  intro γ A x hG hR hn
  have n0 : 0 ≤ (-1) + (1 * γ 18595 + 0) := hn _ (List.Mem.head _)
  have n1 : 0 ≤ 1 + ((-1) * γ 18595 + 0) := hn _ (List.Mem.tail _ (List.Mem.head _))
  have n2 : 0 ≤ (-3) + (1 * x + 0) := hn _ (List.Mem.tail _ (List.Mem.tail _ (List.Mem.head _)))
  have n3 : 0 ≤ 3 + ((-1) * x + 0) := hn _ (List.Mem.tail _ (List.Mem.tail _ (List.Mem.tail _ (List.Mem.head _))))
  have n4 : 0 ≤ (-2) + (1 * γ 18656 + 0) := hn _ (List.Mem.tail _ (List.Mem.tail _ (List.Mem.tail _ (List.Mem.tail _ (List.Mem.head _)))))
  have n5 : 0 ≤ 2 + ((-1) * γ 18656 + 0) := hn _ (List.Mem.tail _ (List.Mem.tail _ (List.Mem.tail _ (List.Mem.tail _ (List.Mem.tail _ (List.Mem.head _))))))
  have n6 : 0 ≤ 0 + ((-1) * γ 18578 + 0) := hn _ (List.Mem.tail _ (List.Mem.tail _ (List.Mem.tail _ (List.Mem.tail _ (List.Mem.tail _ (List.Mem.tail _ (List.Mem.head _)))))))
  have n7 : 0 ≤ 1 + ((-1) * γ 18634 + ((-1) * γ 18646 + 0)) := hn _ (List.Mem.tail _ (List.Mem.tail _ (List.Mem.tail _ (List.Mem.tail _ (List.Mem.tail _ (List.Mem.tail _ (List.Mem.tail _ (List.Mem.head _))))))))
  clear hn
  obtain ⟨g0, g1, g2, g3, g4, g5, g6, g7, g8, g9, g10, g11, g12, g13, g14, g15, g16, g17, g18, g19, g20, g21, g22, g23, g24, g25, g26, g27, g28, g29, g30, g31, g32, g33, g34, g35, g36⟩ := id hG
  have r_CM := sx_gr_CM hR
  have r_MT2 := sx_gr_MT2 hR
  have r_QM := sx_gr_QM hR
  have r_ga2 := sx_gr_ga2 hR
  have r_gb2 := sx_gr_gb2 hR
  have hQ : γ 18595 = 1 := by omega
  obtain ⟨s1, s2, s3, s4⟩ := g34 hQ
  exact sx_q_m_cmb2_0 hG (fun _ => ⟨s1, s2, s3, fun m2 h8 hm2 => (by
    by_cases e : m2 = 2
    · subst e; exact (show sy_om (γ 18578) (γ 18634) (γ 18646) from ⟨by omega, by omega⟩)
    · exact s4 m2 h8 (by omega))⟩)
theorem sx_p_m_cmv2 : sx_okm sx_HH sx_r_m_cmv2 := by
  intro γ A x hG hR hn
  have n0 : 0 ≤ (-1) + (1 * γ 18595 + 0) := hn _ (List.Mem.head _)
  have n1 : 0 ≤ 1 + ((-1) * γ 18595 + 0) := hn _ (List.Mem.tail _ (List.Mem.head _))
  have n2 : 0 ≤ (-3) + (1 * x + 0) := hn _ (List.Mem.tail _ (List.Mem.tail _ (List.Mem.head _)))
  have n3 : 0 ≤ 3 + ((-1) * x + 0) := hn _ (List.Mem.tail _ (List.Mem.tail _ (List.Mem.tail _ (List.Mem.head _))))
  have n4 : 0 ≤ (-1) + (1 * γ 18578 + 0) := hn _ (List.Mem.tail _ (List.Mem.tail _ (List.Mem.tail _ (List.Mem.tail _ (List.Mem.head _)))))
  have n5 : 0 ≤ (-1) + (1 * γ 18634 + (1 * γ 18646 + 0)) := hn _ (List.Mem.tail _ (List.Mem.tail _ (List.Mem.tail _ (List.Mem.tail _ (List.Mem.tail _ (List.Mem.head _))))))
  have n6 : 0 ≤ 1 + ((-1) * γ 18634 + ((-1) * γ 18646 + 0)) := hn _ (List.Mem.tail _ (List.Mem.tail _ (List.Mem.tail _ (List.Mem.tail _ (List.Mem.tail _ (List.Mem.tail _ (List.Mem.head _)))))))
  have n7 : 0 ≤ (-3) + (1 * γ 18657 + 0) := hn _ (List.Mem.tail _ (List.Mem.tail _ (List.Mem.tail _ (List.Mem.tail _ (List.Mem.tail _ (List.Mem.tail _ (List.Mem.tail _ (List.Mem.head _))))))))
  clear hn
  obtain ⟨g0, g1, g2, g3, g4, g5, g6, g7, g8, g9, g10, g11, g12, g13, g14, g15, g16, g17, g18, g19, g20, g21, g22, g23, g24, g25, g26, g27, g28, g29, g30, g31, g32, g33, g34, g35, g36⟩ := id hG
  have r_MQ := sx_gr_MQ hR
  have r_MT2 := sx_gr_MT2 hR
  have r_QM := sx_gr_QM hR
  have r_RM := sx_gr_RM hR
  have r_ga2 := sx_gr_ga2 hR
  have r_gb2 := sx_gr_gb2 hR
  have hQ : γ 18595 = 1 := by omega
  obtain ⟨s1, s2, s3, s4⟩ := g34 hQ
  have hR0 := s2 2 (by decide) (by omega) (fun hk => (by
    obtain ⟨k1, k2⟩ : sy_om (γ 18578) (γ 18634) (γ 18646) := hk
    have := k1 (by omega); omega))
  exact sx_q_m_cmv2_0 hG (by omega)
theorem sx_p_m_cmw2 : sx_okm sx_HH sx_r_m_cmw2 := by
  intro γ A x hG hR hn
  have n0 : 0 ≤ (-1) + (1 * γ 18595 + 0) := hn _ (List.Mem.head _)
  have n1 : 0 ≤ 1 + ((-1) * γ 18595 + 0) := hn _ (List.Mem.tail _ (List.Mem.head _))
  have n2 : 0 ≤ (-3) + (1 * x + 0) := hn _ (List.Mem.tail _ (List.Mem.tail _ (List.Mem.head _)))
  have n3 : 0 ≤ 3 + ((-1) * x + 0) := hn _ (List.Mem.tail _ (List.Mem.tail _ (List.Mem.tail _ (List.Mem.head _))))
  have n4 : 0 ≤ 0 + ((-1) * γ 18578 + 0) := hn _ (List.Mem.tail _ (List.Mem.tail _ (List.Mem.tail _ (List.Mem.tail _ (List.Mem.head _)))))
  have n5 : 0 ≤ (-2) + (1 * γ 18634 + (1 * γ 18646 + 0)) := hn _ (List.Mem.tail _ (List.Mem.tail _ (List.Mem.tail _ (List.Mem.tail _ (List.Mem.tail _ (List.Mem.head _))))))
  have n6 : 0 ≤ (-3) + (1 * γ 18657 + 0) := hn _ (List.Mem.tail _ (List.Mem.tail _ (List.Mem.tail _ (List.Mem.tail _ (List.Mem.tail _ (List.Mem.tail _ (List.Mem.head _)))))))
  clear hn
  obtain ⟨g0, g1, g2, g3, g4, g5, g6, g7, g8, g9, g10, g11, g12, g13, g14, g15, g16, g17, g18, g19, g20, g21, g22, g23, g24, g25, g26, g27, g28, g29, g30, g31, g32, g33, g34, g35, g36⟩ := id hG
  have r_MQ := sx_gr_MQ hR
  have r_MT2 := sx_gr_MT2 hR
  have r_QM := sx_gr_QM hR
  have r_RM := sx_gr_RM hR
  have r_ga2 := sx_gr_ga2 hR
  have r_gb2 := sx_gr_gb2 hR
  have hQ : γ 18595 = 1 := by omega
  obtain ⟨s1, s2, s3, s4⟩ := g34 hQ
  have hR0 := s2 2 (by decide) (by omega) (fun hk => (by
    obtain ⟨k1, k2⟩ : sy_om (γ 18578) (γ 18634) (γ 18646) := hk
    have := k2 (by omega); omega))
  exact sx_q_m_cmw2_0 hG (by omega)
theorem sx_p_m_cma3 : sx_okm sx_HH sx_r_m_cma3 := by
  intro γ A x hG hR hn
  have n0 : 0 ≤ (-1) + (1 * γ 18595 + 0) := hn _ (List.Mem.head _)
  have n1 : 0 ≤ 1 + ((-1) * γ 18595 + 0) := hn _ (List.Mem.tail _ (List.Mem.head _))
  have n2 : 0 ≤ (-4) + (1 * x + 0) := hn _ (List.Mem.tail _ (List.Mem.tail _ (List.Mem.head _)))
  have n3 : 0 ≤ 4 + ((-1) * x + 0) := hn _ (List.Mem.tail _ (List.Mem.tail _ (List.Mem.tail _ (List.Mem.head _))))
  have n4 : 0 ≤ (-3) + (1 * γ 18656 + 0) := hn _ (List.Mem.tail _ (List.Mem.tail _ (List.Mem.tail _ (List.Mem.tail _ (List.Mem.head _)))))
  have n5 : 0 ≤ 3 + ((-1) * γ 18656 + 0) := hn _ (List.Mem.tail _ (List.Mem.tail _ (List.Mem.tail _ (List.Mem.tail _ (List.Mem.tail _ (List.Mem.head _))))))
  have n6 : 0 ≤ (-1) + (1 * γ 18579 + 0) := hn _ (List.Mem.tail _ (List.Mem.tail _ (List.Mem.tail _ (List.Mem.tail _ (List.Mem.tail _ (List.Mem.tail _ (List.Mem.head _)))))))
  have n7 : 0 ≤ 0 + (1 * γ 18635 + ((-1) * γ 18647 + 0)) := hn _ (List.Mem.tail _ (List.Mem.tail _ (List.Mem.tail _ (List.Mem.tail _ (List.Mem.tail _ (List.Mem.tail _ (List.Mem.tail _ (List.Mem.head _))))))))
  have n8 : 0 ≤ 0 + ((-1) * γ 18635 + (1 * γ 18647 + 0)) := hn _ (List.Mem.tail _ (List.Mem.tail _ (List.Mem.tail _ (List.Mem.tail _ (List.Mem.tail _ (List.Mem.tail _ (List.Mem.tail _ (List.Mem.tail _ (List.Mem.head _)))))))))
  clear hn
  obtain ⟨g0, g1, g2, g3, g4, g5, g6, g7, g8, g9, g10, g11, g12, g13, g14, g15, g16, g17, g18, g19, g20, g21, g22, g23, g24, g25, g26, g27, g28, g29, g30, g31, g32, g33, g34, g35, g36⟩ := id hG
  have r_CM := sx_gr_CM hR
  have r_MT3 := sx_gr_MT3 hR
  have r_QM := sx_gr_QM hR
  have r_ga3 := sx_gr_ga3 hR
  have r_gb3 := sx_gr_gb3 hR
  have hQ : γ 18595 = 1 := by omega
  obtain ⟨s1, s2, s3, s4⟩ := g34 hQ
  exact sx_q_m_cma3_0 hG (fun _ => ⟨s1, s2, s3, fun m2 h8 hm2 => (by
    by_cases e : m2 = 3
    · subst e; exact (show sy_om (γ 18579) (γ 18635) (γ 18647) from ⟨by omega, by omega⟩)
    · exact s4 m2 h8 (by omega))⟩)
theorem sx_p_m_cmb3 : sx_okm sx_HH sx_r_m_cmb3 := by
  intro γ A x hG hR hn
  have n0 : 0 ≤ (-1) + (1 * γ 18595 + 0) := hn _ (List.Mem.head _)
  have n1 : 0 ≤ 1 + ((-1) * γ 18595 + 0) := hn _ (List.Mem.tail _ (List.Mem.head _))
  have n2 : 0 ≤ (-4) + (1 * x + 0) := hn _ (List.Mem.tail _ (List.Mem.tail _ (List.Mem.head _)))
  have n3 : 0 ≤ 4 + ((-1) * x + 0) := hn _ (List.Mem.tail _ (List.Mem.tail _ (List.Mem.tail _ (List.Mem.head _))))
  have n4 : 0 ≤ (-3) + (1 * γ 18656 + 0) := hn _ (List.Mem.tail _ (List.Mem.tail _ (List.Mem.tail _ (List.Mem.tail _ (List.Mem.head _)))))
  have n5 : 0 ≤ 3 + ((-1) * γ 18656 + 0) := hn _ (List.Mem.tail _ (List.Mem.tail _ (List.Mem.tail _ (List.Mem.tail _ (List.Mem.tail _ (List.Mem.head _))))))
  have n6 : 0 ≤ 0 + ((-1) * γ 18579 + 0) := hn _ (List.Mem.tail _ (List.Mem.tail _ (List.Mem.tail _ (List.Mem.tail _ (List.Mem.tail _ (List.Mem.tail _ (List.Mem.head _)))))))
  have n7 : 0 ≤ 1 + ((-1) * γ 18635 + ((-1) * γ 18647 + 0)) := hn _ (List.Mem.tail _ (List.Mem.tail _ (List.Mem.tail _ (List.Mem.tail _ (List.Mem.tail _ (List.Mem.tail _ (List.Mem.tail _ (List.Mem.head _))))))))
  clear hn
  obtain ⟨g0, g1, g2, g3, g4, g5, g6, g7, g8, g9, g10, g11, g12, g13, g14, g15, g16, g17, g18, g19, g20, g21, g22, g23, g24, g25, g26, g27, g28, g29, g30, g31, g32, g33, g34, g35, g36⟩ := id hG
  have r_CM := sx_gr_CM hR
  have r_MT3 := sx_gr_MT3 hR
  have r_QM := sx_gr_QM hR
  have r_ga3 := sx_gr_ga3 hR
  have r_gb3 := sx_gr_gb3 hR
  have hQ : γ 18595 = 1 := by omega
  obtain ⟨s1, s2, s3, s4⟩ := g34 hQ
  exact sx_q_m_cmb3_0 hG (fun _ => ⟨s1, s2, s3, fun m2 h8 hm2 => (by
    by_cases e : m2 = 3
    · subst e; exact (show sy_om (γ 18579) (γ 18635) (γ 18647) from ⟨by omega, by omega⟩)
    · exact s4 m2 h8 (by omega))⟩)
theorem sx_p_m_cmv3 : sx_okm sx_HH sx_r_m_cmv3 := by
  intro γ A x hG hR hn
  have n0 : 0 ≤ (-1) + (1 * γ 18595 + 0) := hn _ (List.Mem.head _)
  have n1 : 0 ≤ 1 + ((-1) * γ 18595 + 0) := hn _ (List.Mem.tail _ (List.Mem.head _))
  have n2 : 0 ≤ (-4) + (1 * x + 0) := hn _ (List.Mem.tail _ (List.Mem.tail _ (List.Mem.head _)))
  have n3 : 0 ≤ 4 + ((-1) * x + 0) := hn _ (List.Mem.tail _ (List.Mem.tail _ (List.Mem.tail _ (List.Mem.head _))))
  have n4 : 0 ≤ (-1) + (1 * γ 18579 + 0) := hn _ (List.Mem.tail _ (List.Mem.tail _ (List.Mem.tail _ (List.Mem.tail _ (List.Mem.head _)))))
  have n5 : 0 ≤ (-1) + (1 * γ 18635 + (1 * γ 18647 + 0)) := hn _ (List.Mem.tail _ (List.Mem.tail _ (List.Mem.tail _ (List.Mem.tail _ (List.Mem.tail _ (List.Mem.head _))))))
  have n6 : 0 ≤ 1 + ((-1) * γ 18635 + ((-1) * γ 18647 + 0)) := hn _ (List.Mem.tail _ (List.Mem.tail _ (List.Mem.tail _ (List.Mem.tail _ (List.Mem.tail _ (List.Mem.tail _ (List.Mem.head _)))))))
  have n7 : 0 ≤ (-4) + (1 * γ 18657 + 0) := hn _ (List.Mem.tail _ (List.Mem.tail _ (List.Mem.tail _ (List.Mem.tail _ (List.Mem.tail _ (List.Mem.tail _ (List.Mem.tail _ (List.Mem.head _))))))))
  clear hn
  obtain ⟨g0, g1, g2, g3, g4, g5, g6, g7, g8, g9, g10, g11, g12, g13, g14, g15, g16, g17, g18, g19, g20, g21, g22, g23, g24, g25, g26, g27, g28, g29, g30, g31, g32, g33, g34, g35, g36⟩ := id hG
  have r_MQ := sx_gr_MQ hR
  have r_MT3 := sx_gr_MT3 hR
  have r_QM := sx_gr_QM hR
  have r_RM := sx_gr_RM hR
  have r_ga3 := sx_gr_ga3 hR
  have r_gb3 := sx_gr_gb3 hR
  have hQ : γ 18595 = 1 := by omega
  obtain ⟨s1, s2, s3, s4⟩ := g34 hQ
  have hR0 := s2 3 (by decide) (by omega) (fun hk => (by
    obtain ⟨k1, k2⟩ : sy_om (γ 18579) (γ 18635) (γ 18647) := hk
    have := k1 (by omega); omega))
  exact sx_q_m_cmv3_0 hG (by omega)
theorem sx_p_m_cmw3 : sx_okm sx_HH sx_r_m_cmw3 := by
  intro γ A x hG hR hn
  have n0 : 0 ≤ (-1) + (1 * γ 18595 + 0) := hn _ (List.Mem.head _)
  have n1 : 0 ≤ 1 + ((-1) * γ 18595 + 0) := hn _ (List.Mem.tail _ (List.Mem.head _))
  have n2 : 0 ≤ (-4) + (1 * x + 0) := hn _ (List.Mem.tail _ (List.Mem.tail _ (List.Mem.head _)))
  have n3 : 0 ≤ 4 + ((-1) * x + 0) := hn _ (List.Mem.tail _ (List.Mem.tail _ (List.Mem.tail _ (List.Mem.head _))))
  have n4 : 0 ≤ 0 + ((-1) * γ 18579 + 0) := hn _ (List.Mem.tail _ (List.Mem.tail _ (List.Mem.tail _ (List.Mem.tail _ (List.Mem.head _)))))
  have n5 : 0 ≤ (-2) + (1 * γ 18635 + (1 * γ 18647 + 0)) := hn _ (List.Mem.tail _ (List.Mem.tail _ (List.Mem.tail _ (List.Mem.tail _ (List.Mem.tail _ (List.Mem.head _))))))
  have n6 : 0 ≤ (-4) + (1 * γ 18657 + 0) := hn _ (List.Mem.tail _ (List.Mem.tail _ (List.Mem.tail _ (List.Mem.tail _ (List.Mem.tail _ (List.Mem.tail _ (List.Mem.head _)))))))
  clear hn
  obtain ⟨g0, g1, g2, g3, g4, g5, g6, g7, g8, g9, g10, g11, g12, g13, g14, g15, g16, g17, g18, g19, g20, g21, g22, g23, g24, g25, g26, g27, g28, g29, g30, g31, g32, g33, g34, g35, g36⟩ := id hG
  have r_MQ := sx_gr_MQ hR
  have r_MT3 := sx_gr_MT3 hR
  have r_QM := sx_gr_QM hR
  have r_RM := sx_gr_RM hR
  have r_ga3 := sx_gr_ga3 hR
  have r_gb3 := sx_gr_gb3 hR
  have hQ : γ 18595 = 1 := by omega
  obtain ⟨s1, s2, s3, s4⟩ := g34 hQ
  have hR0 := s2 3 (by decide) (by omega) (fun hk => (by
    obtain ⟨k1, k2⟩ : sy_om (γ 18579) (γ 18635) (γ 18647) := hk
    have := k2 (by omega); omega))
  exact sx_q_m_cmw3_0 hG (by omega)
theorem sx_p_m_cma4 : sx_okm sx_HH sx_r_m_cma4 := by
  intro γ A x hG hR hn
  have n0 : 0 ≤ (-1) + (1 * γ 18595 + 0) := hn _ (List.Mem.head _)
  have n1 : 0 ≤ 1 + ((-1) * γ 18595 + 0) := hn _ (List.Mem.tail _ (List.Mem.head _))
  have n2 : 0 ≤ (-5) + (1 * x + 0) := hn _ (List.Mem.tail _ (List.Mem.tail _ (List.Mem.head _)))
  have n3 : 0 ≤ 5 + ((-1) * x + 0) := hn _ (List.Mem.tail _ (List.Mem.tail _ (List.Mem.tail _ (List.Mem.head _))))
  have n4 : 0 ≤ (-4) + (1 * γ 18656 + 0) := hn _ (List.Mem.tail _ (List.Mem.tail _ (List.Mem.tail _ (List.Mem.tail _ (List.Mem.head _)))))
  have n5 : 0 ≤ 4 + ((-1) * γ 18656 + 0) := hn _ (List.Mem.tail _ (List.Mem.tail _ (List.Mem.tail _ (List.Mem.tail _ (List.Mem.tail _ (List.Mem.head _))))))
  have n6 : 0 ≤ (-1) + (1 * γ 18580 + 0) := hn _ (List.Mem.tail _ (List.Mem.tail _ (List.Mem.tail _ (List.Mem.tail _ (List.Mem.tail _ (List.Mem.tail _ (List.Mem.head _)))))))
  have n7 : 0 ≤ 0 + (1 * γ 18636 + ((-1) * γ 18648 + 0)) := hn _ (List.Mem.tail _ (List.Mem.tail _ (List.Mem.tail _ (List.Mem.tail _ (List.Mem.tail _ (List.Mem.tail _ (List.Mem.tail _ (List.Mem.head _))))))))
  have n8 : 0 ≤ 0 + ((-1) * γ 18636 + (1 * γ 18648 + 0)) := hn _ (List.Mem.tail _ (List.Mem.tail _ (List.Mem.tail _ (List.Mem.tail _ (List.Mem.tail _ (List.Mem.tail _ (List.Mem.tail _ (List.Mem.tail _ (List.Mem.head _)))))))))
  clear hn
  obtain ⟨g0, g1, g2, g3, g4, g5, g6, g7, g8, g9, g10, g11, g12, g13, g14, g15, g16, g17, g18, g19, g20, g21, g22, g23, g24, g25, g26, g27, g28, g29, g30, g31, g32, g33, g34, g35, g36⟩ := id hG
  have r_CM := sx_gr_CM hR
  have r_MT4 := sx_gr_MT4 hR
  have r_QM := sx_gr_QM hR
  have r_ga4 := sx_gr_ga4 hR
  have r_gb4 := sx_gr_gb4 hR
  have hQ : γ 18595 = 1 := by omega
  obtain ⟨s1, s2, s3, s4⟩ := g34 hQ
  exact sx_q_m_cma4_0 hG (fun _ => ⟨s1, s2, s3, fun m2 h8 hm2 => (by
    by_cases e : m2 = 4
    · subst e; exact (show sy_om (γ 18580) (γ 18636) (γ 18648) from ⟨by omega, by omega⟩)
    · exact s4 m2 h8 (by omega))⟩)
theorem sx_p_m_cmb4 : sx_okm sx_HH sx_r_m_cmb4 := by
  intro γ A x hG hR hn
  have n0 : 0 ≤ (-1) + (1 * γ 18595 + 0) := hn _ (List.Mem.head _)
  have n1 : 0 ≤ 1 + ((-1) * γ 18595 + 0) := hn _ (List.Mem.tail _ (List.Mem.head _))
  have n2 : 0 ≤ (-5) + (1 * x + 0) := hn _ (List.Mem.tail _ (List.Mem.tail _ (List.Mem.head _)))
  have n3 : 0 ≤ 5 + ((-1) * x + 0) := hn _ (List.Mem.tail _ (List.Mem.tail _ (List.Mem.tail _ (List.Mem.head _))))
  have n4 : 0 ≤ (-4) + (1 * γ 18656 + 0) := hn _ (List.Mem.tail _ (List.Mem.tail _ (List.Mem.tail _ (List.Mem.tail _ (List.Mem.head _)))))
  have n5 : 0 ≤ 4 + ((-1) * γ 18656 + 0) := hn _ (List.Mem.tail _ (List.Mem.tail _ (List.Mem.tail _ (List.Mem.tail _ (List.Mem.tail _ (List.Mem.head _))))))
  have n6 : 0 ≤ 0 + ((-1) * γ 18580 + 0) := hn _ (List.Mem.tail _ (List.Mem.tail _ (List.Mem.tail _ (List.Mem.tail _ (List.Mem.tail _ (List.Mem.tail _ (List.Mem.head _)))))))
  have n7 : 0 ≤ 1 + ((-1) * γ 18636 + ((-1) * γ 18648 + 0)) := hn _ (List.Mem.tail _ (List.Mem.tail _ (List.Mem.tail _ (List.Mem.tail _ (List.Mem.tail _ (List.Mem.tail _ (List.Mem.tail _ (List.Mem.head _))))))))
  clear hn
  obtain ⟨g0, g1, g2, g3, g4, g5, g6, g7, g8, g9, g10, g11, g12, g13, g14, g15, g16, g17, g18, g19, g20, g21, g22, g23, g24, g25, g26, g27, g28, g29, g30, g31, g32, g33, g34, g35, g36⟩ := id hG
  have r_CM := sx_gr_CM hR
  have r_MT4 := sx_gr_MT4 hR
  have r_QM := sx_gr_QM hR
  have r_ga4 := sx_gr_ga4 hR
  have r_gb4 := sx_gr_gb4 hR
  have hQ : γ 18595 = 1 := by omega
  obtain ⟨s1, s2, s3, s4⟩ := g34 hQ
  exact sx_q_m_cmb4_0 hG (fun _ => ⟨s1, s2, s3, fun m2 h8 hm2 => (by
    by_cases e : m2 = 4
    · subst e; exact (show sy_om (γ 18580) (γ 18636) (γ 18648) from ⟨by omega, by omega⟩)
    · exact s4 m2 h8 (by omega))⟩)
theorem sx_p_m_cmv4 : sx_okm sx_HH sx_r_m_cmv4 := by
  intro γ A x hG hR hn
  have n0 : 0 ≤ (-1) + (1 * γ 18595 + 0) := hn _ (List.Mem.head _)
  have n1 : 0 ≤ 1 + ((-1) * γ 18595 + 0) := hn _ (List.Mem.tail _ (List.Mem.head _))
  have n2 : 0 ≤ (-5) + (1 * x + 0) := hn _ (List.Mem.tail _ (List.Mem.tail _ (List.Mem.head _)))
  have n3 : 0 ≤ 5 + ((-1) * x + 0) := hn _ (List.Mem.tail _ (List.Mem.tail _ (List.Mem.tail _ (List.Mem.head _))))
  have n4 : 0 ≤ (-1) + (1 * γ 18580 + 0) := hn _ (List.Mem.tail _ (List.Mem.tail _ (List.Mem.tail _ (List.Mem.tail _ (List.Mem.head _)))))
  have n5 : 0 ≤ (-1) + (1 * γ 18636 + (1 * γ 18648 + 0)) := hn _ (List.Mem.tail _ (List.Mem.tail _ (List.Mem.tail _ (List.Mem.tail _ (List.Mem.tail _ (List.Mem.head _))))))
  have n6 : 0 ≤ 1 + ((-1) * γ 18636 + ((-1) * γ 18648 + 0)) := hn _ (List.Mem.tail _ (List.Mem.tail _ (List.Mem.tail _ (List.Mem.tail _ (List.Mem.tail _ (List.Mem.tail _ (List.Mem.head _)))))))
  have n7 : 0 ≤ (-5) + (1 * γ 18657 + 0) := hn _ (List.Mem.tail _ (List.Mem.tail _ (List.Mem.tail _ (List.Mem.tail _ (List.Mem.tail _ (List.Mem.tail _ (List.Mem.tail _ (List.Mem.head _))))))))
  clear hn
  obtain ⟨g0, g1, g2, g3, g4, g5, g6, g7, g8, g9, g10, g11, g12, g13, g14, g15, g16, g17, g18, g19, g20, g21, g22, g23, g24, g25, g26, g27, g28, g29, g30, g31, g32, g33, g34, g35, g36⟩ := id hG
  have r_MQ := sx_gr_MQ hR
  have r_MT4 := sx_gr_MT4 hR
  have r_QM := sx_gr_QM hR
  have r_RM := sx_gr_RM hR
  have r_ga4 := sx_gr_ga4 hR
  have r_gb4 := sx_gr_gb4 hR
  have hQ : γ 18595 = 1 := by omega
  obtain ⟨s1, s2, s3, s4⟩ := g34 hQ
  have hR0 := s2 4 (by decide) (by omega) (fun hk => (by
    obtain ⟨k1, k2⟩ : sy_om (γ 18580) (γ 18636) (γ 18648) := hk
    have := k1 (by omega); omega))
  exact sx_q_m_cmv4_0 hG (by omega)
theorem sx_p_m_cmw4 : sx_okm sx_HH sx_r_m_cmw4 := by
  intro γ A x hG hR hn
  have n0 : 0 ≤ (-1) + (1 * γ 18595 + 0) := hn _ (List.Mem.head _)
  have n1 : 0 ≤ 1 + ((-1) * γ 18595 + 0) := hn _ (List.Mem.tail _ (List.Mem.head _))
  have n2 : 0 ≤ (-5) + (1 * x + 0) := hn _ (List.Mem.tail _ (List.Mem.tail _ (List.Mem.head _)))
  have n3 : 0 ≤ 5 + ((-1) * x + 0) := hn _ (List.Mem.tail _ (List.Mem.tail _ (List.Mem.tail _ (List.Mem.head _))))
  have n4 : 0 ≤ 0 + ((-1) * γ 18580 + 0) := hn _ (List.Mem.tail _ (List.Mem.tail _ (List.Mem.tail _ (List.Mem.tail _ (List.Mem.head _)))))
  have n5 : 0 ≤ (-2) + (1 * γ 18636 + (1 * γ 18648 + 0)) := hn _ (List.Mem.tail _ (List.Mem.tail _ (List.Mem.tail _ (List.Mem.tail _ (List.Mem.tail _ (List.Mem.head _))))))
  have n6 : 0 ≤ (-5) + (1 * γ 18657 + 0) := hn _ (List.Mem.tail _ (List.Mem.tail _ (List.Mem.tail _ (List.Mem.tail _ (List.Mem.tail _ (List.Mem.tail _ (List.Mem.head _)))))))
  clear hn
  obtain ⟨g0, g1, g2, g3, g4, g5, g6, g7, g8, g9, g10, g11, g12, g13, g14, g15, g16, g17, g18, g19, g20, g21, g22, g23, g24, g25, g26, g27, g28, g29, g30, g31, g32, g33, g34, g35, g36⟩ := id hG
  have r_MQ := sx_gr_MQ hR
  have r_MT4 := sx_gr_MT4 hR
  have r_QM := sx_gr_QM hR
  have r_RM := sx_gr_RM hR
  have r_ga4 := sx_gr_ga4 hR
  have r_gb4 := sx_gr_gb4 hR
  have hQ : γ 18595 = 1 := by omega
  obtain ⟨s1, s2, s3, s4⟩ := g34 hQ
  have hR0 := s2 4 (by decide) (by omega) (fun hk => (by
    obtain ⟨k1, k2⟩ : sy_om (γ 18580) (γ 18636) (γ 18648) := hk
    have := k2 (by omega); omega))
  exact sx_q_m_cmw4_0 hG (by omega)
theorem sx_p_m_cma5 : sx_okm sx_HH sx_r_m_cma5 := by
  intro γ A x hG hR hn
  have n0 : 0 ≤ (-1) + (1 * γ 18595 + 0) := hn _ (List.Mem.head _)
  have n1 : 0 ≤ 1 + ((-1) * γ 18595 + 0) := hn _ (List.Mem.tail _ (List.Mem.head _))
  have n2 : 0 ≤ (-6) + (1 * x + 0) := hn _ (List.Mem.tail _ (List.Mem.tail _ (List.Mem.head _)))
  have n3 : 0 ≤ 6 + ((-1) * x + 0) := hn _ (List.Mem.tail _ (List.Mem.tail _ (List.Mem.tail _ (List.Mem.head _))))
  have n4 : 0 ≤ (-5) + (1 * γ 18656 + 0) := hn _ (List.Mem.tail _ (List.Mem.tail _ (List.Mem.tail _ (List.Mem.tail _ (List.Mem.head _)))))
  have n5 : 0 ≤ 5 + ((-1) * γ 18656 + 0) := hn _ (List.Mem.tail _ (List.Mem.tail _ (List.Mem.tail _ (List.Mem.tail _ (List.Mem.tail _ (List.Mem.head _))))))
  have n6 : 0 ≤ (-1) + (1 * γ 18581 + 0) := hn _ (List.Mem.tail _ (List.Mem.tail _ (List.Mem.tail _ (List.Mem.tail _ (List.Mem.tail _ (List.Mem.tail _ (List.Mem.head _)))))))
  have n7 : 0 ≤ 0 + (1 * γ 18637 + ((-1) * γ 18649 + 0)) := hn _ (List.Mem.tail _ (List.Mem.tail _ (List.Mem.tail _ (List.Mem.tail _ (List.Mem.tail _ (List.Mem.tail _ (List.Mem.tail _ (List.Mem.head _))))))))
  have n8 : 0 ≤ 0 + ((-1) * γ 18637 + (1 * γ 18649 + 0)) := hn _ (List.Mem.tail _ (List.Mem.tail _ (List.Mem.tail _ (List.Mem.tail _ (List.Mem.tail _ (List.Mem.tail _ (List.Mem.tail _ (List.Mem.tail _ (List.Mem.head _)))))))))
  clear hn
  obtain ⟨g0, g1, g2, g3, g4, g5, g6, g7, g8, g9, g10, g11, g12, g13, g14, g15, g16, g17, g18, g19, g20, g21, g22, g23, g24, g25, g26, g27, g28, g29, g30, g31, g32, g33, g34, g35, g36⟩ := id hG
  have r_CM := sx_gr_CM hR
  have r_MT5 := sx_gr_MT5 hR
  have r_QM := sx_gr_QM hR
  have r_ga5 := sx_gr_ga5 hR
  have r_gb5 := sx_gr_gb5 hR
  have hQ : γ 18595 = 1 := by omega
  obtain ⟨s1, s2, s3, s4⟩ := g34 hQ
  exact sx_q_m_cma5_0 hG (fun _ => ⟨s1, s2, s3, fun m2 h8 hm2 => (by
    by_cases e : m2 = 5
    · subst e; exact (show sy_om (γ 18581) (γ 18637) (γ 18649) from ⟨by omega, by omega⟩)
    · exact s4 m2 h8 (by omega))⟩)
theorem sx_p_m_cmb5 : sx_okm sx_HH sx_r_m_cmb5 := by
  intro γ A x hG hR hn
  have n0 : 0 ≤ (-1) + (1 * γ 18595 + 0) := hn _ (List.Mem.head _)
  have n1 : 0 ≤ 1 + ((-1) * γ 18595 + 0) := hn _ (List.Mem.tail _ (List.Mem.head _))
  have n2 : 0 ≤ (-6) + (1 * x + 0) := hn _ (List.Mem.tail _ (List.Mem.tail _ (List.Mem.head _)))
  have n3 : 0 ≤ 6 + ((-1) * x + 0) := hn _ (List.Mem.tail _ (List.Mem.tail _ (List.Mem.tail _ (List.Mem.head _))))
  have n4 : 0 ≤ (-5) + (1 * γ 18656 + 0) := hn _ (List.Mem.tail _ (List.Mem.tail _ (List.Mem.tail _ (List.Mem.tail _ (List.Mem.head _)))))
  have n5 : 0 ≤ 5 + ((-1) * γ 18656 + 0) := hn _ (List.Mem.tail _ (List.Mem.tail _ (List.Mem.tail _ (List.Mem.tail _ (List.Mem.tail _ (List.Mem.head _))))))
  have n6 : 0 ≤ 0 + ((-1) * γ 18581 + 0) := hn _ (List.Mem.tail _ (List.Mem.tail _ (List.Mem.tail _ (List.Mem.tail _ (List.Mem.tail _ (List.Mem.tail _ (List.Mem.head _)))))))
  have n7 : 0 ≤ 1 + ((-1) * γ 18637 + ((-1) * γ 18649 + 0)) := hn _ (List.Mem.tail _ (List.Mem.tail _ (List.Mem.tail _ (List.Mem.tail _ (List.Mem.tail _ (List.Mem.tail _ (List.Mem.tail _ (List.Mem.head _))))))))
  clear hn
  obtain ⟨g0, g1, g2, g3, g4, g5, g6, g7, g8, g9, g10, g11, g12, g13, g14, g15, g16, g17, g18, g19, g20, g21, g22, g23, g24, g25, g26, g27, g28, g29, g30, g31, g32, g33, g34, g35, g36⟩ := id hG
  have r_CM := sx_gr_CM hR
  have r_MT5 := sx_gr_MT5 hR
  have r_QM := sx_gr_QM hR
  have r_ga5 := sx_gr_ga5 hR
  have r_gb5 := sx_gr_gb5 hR
  have hQ : γ 18595 = 1 := by omega
  obtain ⟨s1, s2, s3, s4⟩ := g34 hQ
  exact sx_q_m_cmb5_0 hG (fun _ => ⟨s1, s2, s3, fun m2 h8 hm2 => (by
    by_cases e : m2 = 5
    · subst e; exact (show sy_om (γ 18581) (γ 18637) (γ 18649) from ⟨by omega, by omega⟩)
    · exact s4 m2 h8 (by omega))⟩)
theorem sx_p_m_cmv5 : sx_okm sx_HH sx_r_m_cmv5 := by
  intro γ A x hG hR hn
  have n0 : 0 ≤ (-1) + (1 * γ 18595 + 0) := hn _ (List.Mem.head _)
  have n1 : 0 ≤ 1 + ((-1) * γ 18595 + 0) := hn _ (List.Mem.tail _ (List.Mem.head _))
  have n2 : 0 ≤ (-6) + (1 * x + 0) := hn _ (List.Mem.tail _ (List.Mem.tail _ (List.Mem.head _)))
  have n3 : 0 ≤ 6 + ((-1) * x + 0) := hn _ (List.Mem.tail _ (List.Mem.tail _ (List.Mem.tail _ (List.Mem.head _))))
  have n4 : 0 ≤ (-1) + (1 * γ 18581 + 0) := hn _ (List.Mem.tail _ (List.Mem.tail _ (List.Mem.tail _ (List.Mem.tail _ (List.Mem.head _)))))
  have n5 : 0 ≤ (-1) + (1 * γ 18637 + (1 * γ 18649 + 0)) := hn _ (List.Mem.tail _ (List.Mem.tail _ (List.Mem.tail _ (List.Mem.tail _ (List.Mem.tail _ (List.Mem.head _))))))
  have n6 : 0 ≤ 1 + ((-1) * γ 18637 + ((-1) * γ 18649 + 0)) := hn _ (List.Mem.tail _ (List.Mem.tail _ (List.Mem.tail _ (List.Mem.tail _ (List.Mem.tail _ (List.Mem.tail _ (List.Mem.head _)))))))
  have n7 : 0 ≤ (-6) + (1 * γ 18657 + 0) := hn _ (List.Mem.tail _ (List.Mem.tail _ (List.Mem.tail _ (List.Mem.tail _ (List.Mem.tail _ (List.Mem.tail _ (List.Mem.tail _ (List.Mem.head _))))))))
  clear hn
  obtain ⟨g0, g1, g2, g3, g4, g5, g6, g7, g8, g9, g10, g11, g12, g13, g14, g15, g16, g17, g18, g19, g20, g21, g22, g23, g24, g25, g26, g27, g28, g29, g30, g31, g32, g33, g34, g35, g36⟩ := id hG
  have r_MQ := sx_gr_MQ hR
  have r_MT5 := sx_gr_MT5 hR
  have r_QM := sx_gr_QM hR
  have r_RM := sx_gr_RM hR
  have r_ga5 := sx_gr_ga5 hR
  have r_gb5 := sx_gr_gb5 hR
  have hQ : γ 18595 = 1 := by omega
  obtain ⟨s1, s2, s3, s4⟩ := g34 hQ
  have hR0 := s2 5 (by decide) (by omega) (fun hk => (by
    obtain ⟨k1, k2⟩ : sy_om (γ 18581) (γ 18637) (γ 18649) := hk
    have := k1 (by omega); omega))
  exact sx_q_m_cmv5_0 hG (by omega)
theorem sx_p_m_cmw5 : sx_okm sx_HH sx_r_m_cmw5 := by
  intro γ A x hG hR hn
  have n0 : 0 ≤ (-1) + (1 * γ 18595 + 0) := hn _ (List.Mem.head _)
  have n1 : 0 ≤ 1 + ((-1) * γ 18595 + 0) := hn _ (List.Mem.tail _ (List.Mem.head _))
  have n2 : 0 ≤ (-6) + (1 * x + 0) := hn _ (List.Mem.tail _ (List.Mem.tail _ (List.Mem.head _)))
  have n3 : 0 ≤ 6 + ((-1) * x + 0) := hn _ (List.Mem.tail _ (List.Mem.tail _ (List.Mem.tail _ (List.Mem.head _))))
  have n4 : 0 ≤ 0 + ((-1) * γ 18581 + 0) := hn _ (List.Mem.tail _ (List.Mem.tail _ (List.Mem.tail _ (List.Mem.tail _ (List.Mem.head _)))))
  have n5 : 0 ≤ (-2) + (1 * γ 18637 + (1 * γ 18649 + 0)) := hn _ (List.Mem.tail _ (List.Mem.tail _ (List.Mem.tail _ (List.Mem.tail _ (List.Mem.tail _ (List.Mem.head _))))))
  have n6 : 0 ≤ (-6) + (1 * γ 18657 + 0) := hn _ (List.Mem.tail _ (List.Mem.tail _ (List.Mem.tail _ (List.Mem.tail _ (List.Mem.tail _ (List.Mem.tail _ (List.Mem.head _)))))))
  clear hn
  obtain ⟨g0, g1, g2, g3, g4, g5, g6, g7, g8, g9, g10, g11, g12, g13, g14, g15, g16, g17, g18, g19, g20, g21, g22, g23, g24, g25, g26, g27, g28, g29, g30, g31, g32, g33, g34, g35, g36⟩ := id hG
  have r_MQ := sx_gr_MQ hR
  have r_MT5 := sx_gr_MT5 hR
  have r_QM := sx_gr_QM hR
  have r_RM := sx_gr_RM hR
  have r_ga5 := sx_gr_ga5 hR
  have r_gb5 := sx_gr_gb5 hR
  have hQ : γ 18595 = 1 := by omega
  obtain ⟨s1, s2, s3, s4⟩ := g34 hQ
  have hR0 := s2 5 (by decide) (by omega) (fun hk => (by
    obtain ⟨k1, k2⟩ : sy_om (γ 18581) (γ 18637) (γ 18649) := hk
    have := k2 (by omega); omega))
  exact sx_q_m_cmw5_0 hG (by omega)
theorem sx_p_m_cma6 : sx_okm sx_HH sx_r_m_cma6 := by
  intro γ A x hG hR hn
  have n0 : 0 ≤ (-1) + (1 * γ 18595 + 0) := hn _ (List.Mem.head _)
  have n1 : 0 ≤ 1 + ((-1) * γ 18595 + 0) := hn _ (List.Mem.tail _ (List.Mem.head _))
  have n2 : 0 ≤ (-7) + (1 * x + 0) := hn _ (List.Mem.tail _ (List.Mem.tail _ (List.Mem.head _)))
  have n3 : 0 ≤ 7 + ((-1) * x + 0) := hn _ (List.Mem.tail _ (List.Mem.tail _ (List.Mem.tail _ (List.Mem.head _))))
  have n4 : 0 ≤ (-6) + (1 * γ 18656 + 0) := hn _ (List.Mem.tail _ (List.Mem.tail _ (List.Mem.tail _ (List.Mem.tail _ (List.Mem.head _)))))
  have n5 : 0 ≤ 6 + ((-1) * γ 18656 + 0) := hn _ (List.Mem.tail _ (List.Mem.tail _ (List.Mem.tail _ (List.Mem.tail _ (List.Mem.tail _ (List.Mem.head _))))))
  have n6 : 0 ≤ (-1) + (1 * γ 18582 + 0) := hn _ (List.Mem.tail _ (List.Mem.tail _ (List.Mem.tail _ (List.Mem.tail _ (List.Mem.tail _ (List.Mem.tail _ (List.Mem.head _)))))))
  have n7 : 0 ≤ 0 + (1 * γ 18638 + ((-1) * γ 18650 + 0)) := hn _ (List.Mem.tail _ (List.Mem.tail _ (List.Mem.tail _ (List.Mem.tail _ (List.Mem.tail _ (List.Mem.tail _ (List.Mem.tail _ (List.Mem.head _))))))))
  have n8 : 0 ≤ 0 + ((-1) * γ 18638 + (1 * γ 18650 + 0)) := hn _ (List.Mem.tail _ (List.Mem.tail _ (List.Mem.tail _ (List.Mem.tail _ (List.Mem.tail _ (List.Mem.tail _ (List.Mem.tail _ (List.Mem.tail _ (List.Mem.head _)))))))))
  clear hn
  obtain ⟨g0, g1, g2, g3, g4, g5, g6, g7, g8, g9, g10, g11, g12, g13, g14, g15, g16, g17, g18, g19, g20, g21, g22, g23, g24, g25, g26, g27, g28, g29, g30, g31, g32, g33, g34, g35, g36⟩ := id hG
  have r_CM := sx_gr_CM hR
  have r_MT6 := sx_gr_MT6 hR
  have r_QM := sx_gr_QM hR
  have r_ga6 := sx_gr_ga6 hR
  have r_gb6 := sx_gr_gb6 hR
  have hQ : γ 18595 = 1 := by omega
  obtain ⟨s1, s2, s3, s4⟩ := g34 hQ
  exact sx_q_m_cma6_0 hG (fun _ => ⟨s1, s2, s3, fun m2 h8 hm2 => (by
    by_cases e : m2 = 6
    · subst e; exact (show sy_om (γ 18582) (γ 18638) (γ 18650) from ⟨by omega, by omega⟩)
    · exact s4 m2 h8 (by omega))⟩)
theorem sx_p_m_cmb6 : sx_okm sx_HH sx_r_m_cmb6 := by
  intro γ A x hG hR hn
  have n0 : 0 ≤ (-1) + (1 * γ 18595 + 0) := hn _ (List.Mem.head _)
  have n1 : 0 ≤ 1 + ((-1) * γ 18595 + 0) := hn _ (List.Mem.tail _ (List.Mem.head _))
  have n2 : 0 ≤ (-7) + (1 * x + 0) := hn _ (List.Mem.tail _ (List.Mem.tail _ (List.Mem.head _)))
  have n3 : 0 ≤ 7 + ((-1) * x + 0) := hn _ (List.Mem.tail _ (List.Mem.tail _ (List.Mem.tail _ (List.Mem.head _))))
  have n4 : 0 ≤ (-6) + (1 * γ 18656 + 0) := hn _ (List.Mem.tail _ (List.Mem.tail _ (List.Mem.tail _ (List.Mem.tail _ (List.Mem.head _)))))
  have n5 : 0 ≤ 6 + ((-1) * γ 18656 + 0) := hn _ (List.Mem.tail _ (List.Mem.tail _ (List.Mem.tail _ (List.Mem.tail _ (List.Mem.tail _ (List.Mem.head _))))))
  have n6 : 0 ≤ 0 + ((-1) * γ 18582 + 0) := hn _ (List.Mem.tail _ (List.Mem.tail _ (List.Mem.tail _ (List.Mem.tail _ (List.Mem.tail _ (List.Mem.tail _ (List.Mem.head _)))))))
  have n7 : 0 ≤ 1 + ((-1) * γ 18638 + ((-1) * γ 18650 + 0)) := hn _ (List.Mem.tail _ (List.Mem.tail _ (List.Mem.tail _ (List.Mem.tail _ (List.Mem.tail _ (List.Mem.tail _ (List.Mem.tail _ (List.Mem.head _))))))))
  clear hn
  obtain ⟨g0, g1, g2, g3, g4, g5, g6, g7, g8, g9, g10, g11, g12, g13, g14, g15, g16, g17, g18, g19, g20, g21, g22, g23, g24, g25, g26, g27, g28, g29, g30, g31, g32, g33, g34, g35, g36⟩ := id hG
  have r_CM := sx_gr_CM hR
  have r_MT6 := sx_gr_MT6 hR
  have r_QM := sx_gr_QM hR
  have r_ga6 := sx_gr_ga6 hR
  have r_gb6 := sx_gr_gb6 hR
  have hQ : γ 18595 = 1 := by omega
  obtain ⟨s1, s2, s3, s4⟩ := g34 hQ
  exact sx_q_m_cmb6_0 hG (fun _ => ⟨s1, s2, s3, fun m2 h8 hm2 => (by
    by_cases e : m2 = 6
    · subst e; exact (show sy_om (γ 18582) (γ 18638) (γ 18650) from ⟨by omega, by omega⟩)
    · exact s4 m2 h8 (by omega))⟩)
theorem sx_p_m_cmv6 : sx_okm sx_HH sx_r_m_cmv6 := by
  intro γ A x hG hR hn
  have n0 : 0 ≤ (-1) + (1 * γ 18595 + 0) := hn _ (List.Mem.head _)
  have n1 : 0 ≤ 1 + ((-1) * γ 18595 + 0) := hn _ (List.Mem.tail _ (List.Mem.head _))
  have n2 : 0 ≤ (-7) + (1 * x + 0) := hn _ (List.Mem.tail _ (List.Mem.tail _ (List.Mem.head _)))
  have n3 : 0 ≤ 7 + ((-1) * x + 0) := hn _ (List.Mem.tail _ (List.Mem.tail _ (List.Mem.tail _ (List.Mem.head _))))
  have n4 : 0 ≤ (-1) + (1 * γ 18582 + 0) := hn _ (List.Mem.tail _ (List.Mem.tail _ (List.Mem.tail _ (List.Mem.tail _ (List.Mem.head _)))))
  have n5 : 0 ≤ (-1) + (1 * γ 18638 + (1 * γ 18650 + 0)) := hn _ (List.Mem.tail _ (List.Mem.tail _ (List.Mem.tail _ (List.Mem.tail _ (List.Mem.tail _ (List.Mem.head _))))))
  have n6 : 0 ≤ 1 + ((-1) * γ 18638 + ((-1) * γ 18650 + 0)) := hn _ (List.Mem.tail _ (List.Mem.tail _ (List.Mem.tail _ (List.Mem.tail _ (List.Mem.tail _ (List.Mem.tail _ (List.Mem.head _)))))))
  have n7 : 0 ≤ (-7) + (1 * γ 18657 + 0) := hn _ (List.Mem.tail _ (List.Mem.tail _ (List.Mem.tail _ (List.Mem.tail _ (List.Mem.tail _ (List.Mem.tail _ (List.Mem.tail _ (List.Mem.head _))))))))
  clear hn
  obtain ⟨g0, g1, g2, g3, g4, g5, g6, g7, g8, g9, g10, g11, g12, g13, g14, g15, g16, g17, g18, g19, g20, g21, g22, g23, g24, g25, g26, g27, g28, g29, g30, g31, g32, g33, g34, g35, g36⟩ := id hG
  have r_MQ := sx_gr_MQ hR
  have r_MT6 := sx_gr_MT6 hR
  have r_QM := sx_gr_QM hR
  have r_RM := sx_gr_RM hR
  have r_ga6 := sx_gr_ga6 hR
  have r_gb6 := sx_gr_gb6 hR
  have hQ : γ 18595 = 1 := by omega
  obtain ⟨s1, s2, s3, s4⟩ := g34 hQ
  have hR0 := s2 6 (by decide) (by omega) (fun hk => (by
    obtain ⟨k1, k2⟩ : sy_om (γ 18582) (γ 18638) (γ 18650) := hk
    have := k1 (by omega); omega))
  exact sx_q_m_cmv6_0 hG (by omega)
theorem sx_p_m_cmw6 : sx_okm sx_HH sx_r_m_cmw6 := by
  intro γ A x hG hR hn
  have n0 : 0 ≤ (-1) + (1 * γ 18595 + 0) := hn _ (List.Mem.head _)
  have n1 : 0 ≤ 1 + ((-1) * γ 18595 + 0) := hn _ (List.Mem.tail _ (List.Mem.head _))
  have n2 : 0 ≤ (-7) + (1 * x + 0) := hn _ (List.Mem.tail _ (List.Mem.tail _ (List.Mem.head _)))
  have n3 : 0 ≤ 7 + ((-1) * x + 0) := hn _ (List.Mem.tail _ (List.Mem.tail _ (List.Mem.tail _ (List.Mem.head _))))
  have n4 : 0 ≤ 0 + ((-1) * γ 18582 + 0) := hn _ (List.Mem.tail _ (List.Mem.tail _ (List.Mem.tail _ (List.Mem.tail _ (List.Mem.head _)))))
  have n5 : 0 ≤ (-2) + (1 * γ 18638 + (1 * γ 18650 + 0)) := hn _ (List.Mem.tail _ (List.Mem.tail _ (List.Mem.tail _ (List.Mem.tail _ (List.Mem.tail _ (List.Mem.head _))))))
  have n6 : 0 ≤ (-7) + (1 * γ 18657 + 0) := hn _ (List.Mem.tail _ (List.Mem.tail _ (List.Mem.tail _ (List.Mem.tail _ (List.Mem.tail _ (List.Mem.tail _ (List.Mem.head _)))))))
  clear hn
  obtain ⟨g0, g1, g2, g3, g4, g5, g6, g7, g8, g9, g10, g11, g12, g13, g14, g15, g16, g17, g18, g19, g20, g21, g22, g23, g24, g25, g26, g27, g28, g29, g30, g31, g32, g33, g34, g35, g36⟩ := id hG
  have r_MQ := sx_gr_MQ hR
  have r_MT6 := sx_gr_MT6 hR
  have r_QM := sx_gr_QM hR
  have r_RM := sx_gr_RM hR
  have r_ga6 := sx_gr_ga6 hR
  have r_gb6 := sx_gr_gb6 hR
  have hQ : γ 18595 = 1 := by omega
  obtain ⟨s1, s2, s3, s4⟩ := g34 hQ
  have hR0 := s2 6 (by decide) (by omega) (fun hk => (by
    obtain ⟨k1, k2⟩ : sy_om (γ 18582) (γ 18638) (γ 18650) := hk
    have := k2 (by omega); omega))
  exact sx_q_m_cmw6_0 hG (by omega)
theorem sx_p_m_cma7 : sx_okm sx_HH sx_r_m_cma7 := by
  intro γ A x hG hR hn
  have n0 : 0 ≤ (-1) + (1 * γ 18595 + 0) := hn _ (List.Mem.head _)
  have n1 : 0 ≤ 1 + ((-1) * γ 18595 + 0) := hn _ (List.Mem.tail _ (List.Mem.head _))
  have n2 : 0 ≤ (-8) + (1 * x + 0) := hn _ (List.Mem.tail _ (List.Mem.tail _ (List.Mem.head _)))
  have n3 : 0 ≤ 8 + ((-1) * x + 0) := hn _ (List.Mem.tail _ (List.Mem.tail _ (List.Mem.tail _ (List.Mem.head _))))
  have n4 : 0 ≤ (-7) + (1 * γ 18656 + 0) := hn _ (List.Mem.tail _ (List.Mem.tail _ (List.Mem.tail _ (List.Mem.tail _ (List.Mem.head _)))))
  have n5 : 0 ≤ 7 + ((-1) * γ 18656 + 0) := hn _ (List.Mem.tail _ (List.Mem.tail _ (List.Mem.tail _ (List.Mem.tail _ (List.Mem.tail _ (List.Mem.head _))))))
  have n6 : 0 ≤ (-1) + (1 * γ 18583 + 0) := hn _ (List.Mem.tail _ (List.Mem.tail _ (List.Mem.tail _ (List.Mem.tail _ (List.Mem.tail _ (List.Mem.tail _ (List.Mem.head _)))))))
  have n7 : 0 ≤ 0 + (1 * γ 18639 + ((-1) * γ 18651 + 0)) := hn _ (List.Mem.tail _ (List.Mem.tail _ (List.Mem.tail _ (List.Mem.tail _ (List.Mem.tail _ (List.Mem.tail _ (List.Mem.tail _ (List.Mem.head _))))))))
  have n8 : 0 ≤ 0 + ((-1) * γ 18639 + (1 * γ 18651 + 0)) := hn _ (List.Mem.tail _ (List.Mem.tail _ (List.Mem.tail _ (List.Mem.tail _ (List.Mem.tail _ (List.Mem.tail _ (List.Mem.tail _ (List.Mem.tail _ (List.Mem.head _)))))))))
  clear hn
  obtain ⟨g0, g1, g2, g3, g4, g5, g6, g7, g8, g9, g10, g11, g12, g13, g14, g15, g16, g17, g18, g19, g20, g21, g22, g23, g24, g25, g26, g27, g28, g29, g30, g31, g32, g33, g34, g35, g36⟩ := id hG
  have r_CM := sx_gr_CM hR
  have r_MT7 := sx_gr_MT7 hR
  have r_QM := sx_gr_QM hR
  have r_ga7 := sx_gr_ga7 hR
  have r_gb7 := sx_gr_gb7 hR
  have hQ : γ 18595 = 1 := by omega
  obtain ⟨s1, s2, s3, s4⟩ := g34 hQ
  exact sx_q_m_cma7_0 hG (fun _ => ⟨s1, s2, s3, fun m2 h8 hm2 => (by
    by_cases e : m2 = 7
    · subst e; exact (show sy_om (γ 18583) (γ 18639) (γ 18651) from ⟨by omega, by omega⟩)
    · exact s4 m2 h8 (by omega))⟩)
theorem sx_p_m_cmb7 : sx_okm sx_HH sx_r_m_cmb7 := by
  intro γ A x hG hR hn
  have n0 : 0 ≤ (-1) + (1 * γ 18595 + 0) := hn _ (List.Mem.head _)
  have n1 : 0 ≤ 1 + ((-1) * γ 18595 + 0) := hn _ (List.Mem.tail _ (List.Mem.head _))
  have n2 : 0 ≤ (-8) + (1 * x + 0) := hn _ (List.Mem.tail _ (List.Mem.tail _ (List.Mem.head _)))
  have n3 : 0 ≤ 8 + ((-1) * x + 0) := hn _ (List.Mem.tail _ (List.Mem.tail _ (List.Mem.tail _ (List.Mem.head _))))
  have n4 : 0 ≤ (-7) + (1 * γ 18656 + 0) := hn _ (List.Mem.tail _ (List.Mem.tail _ (List.Mem.tail _ (List.Mem.tail _ (List.Mem.head _)))))
  have n5 : 0 ≤ 7 + ((-1) * γ 18656 + 0) := hn _ (List.Mem.tail _ (List.Mem.tail _ (List.Mem.tail _ (List.Mem.tail _ (List.Mem.tail _ (List.Mem.head _))))))
  have n6 : 0 ≤ 0 + ((-1) * γ 18583 + 0) := hn _ (List.Mem.tail _ (List.Mem.tail _ (List.Mem.tail _ (List.Mem.tail _ (List.Mem.tail _ (List.Mem.tail _ (List.Mem.head _)))))))
  have n7 : 0 ≤ 1 + ((-1) * γ 18639 + ((-1) * γ 18651 + 0)) := hn _ (List.Mem.tail _ (List.Mem.tail _ (List.Mem.tail _ (List.Mem.tail _ (List.Mem.tail _ (List.Mem.tail _ (List.Mem.tail _ (List.Mem.head _))))))))
  clear hn
  obtain ⟨g0, g1, g2, g3, g4, g5, g6, g7, g8, g9, g10, g11, g12, g13, g14, g15, g16, g17, g18, g19, g20, g21, g22, g23, g24, g25, g26, g27, g28, g29, g30, g31, g32, g33, g34, g35, g36⟩ := id hG
  have r_CM := sx_gr_CM hR
  have r_MT7 := sx_gr_MT7 hR
  have r_QM := sx_gr_QM hR
  have r_ga7 := sx_gr_ga7 hR
  have r_gb7 := sx_gr_gb7 hR
  have hQ : γ 18595 = 1 := by omega
  obtain ⟨s1, s2, s3, s4⟩ := g34 hQ
  exact sx_q_m_cmb7_0 hG (fun _ => ⟨s1, s2, s3, fun m2 h8 hm2 => (by
    by_cases e : m2 = 7
    · subst e; exact (show sy_om (γ 18583) (γ 18639) (γ 18651) from ⟨by omega, by omega⟩)
    · exact s4 m2 h8 (by omega))⟩)
theorem sx_p_m_cmv7 : sx_okm sx_HH sx_r_m_cmv7 := by
  intro γ A x hG hR hn
  have n0 : 0 ≤ (-1) + (1 * γ 18595 + 0) := hn _ (List.Mem.head _)
  have n1 : 0 ≤ 1 + ((-1) * γ 18595 + 0) := hn _ (List.Mem.tail _ (List.Mem.head _))
  have n2 : 0 ≤ (-8) + (1 * x + 0) := hn _ (List.Mem.tail _ (List.Mem.tail _ (List.Mem.head _)))
  have n3 : 0 ≤ 8 + ((-1) * x + 0) := hn _ (List.Mem.tail _ (List.Mem.tail _ (List.Mem.tail _ (List.Mem.head _))))
  have n4 : 0 ≤ (-1) + (1 * γ 18583 + 0) := hn _ (List.Mem.tail _ (List.Mem.tail _ (List.Mem.tail _ (List.Mem.tail _ (List.Mem.head _)))))
  have n5 : 0 ≤ (-1) + (1 * γ 18639 + (1 * γ 18651 + 0)) := hn _ (List.Mem.tail _ (List.Mem.tail _ (List.Mem.tail _ (List.Mem.tail _ (List.Mem.tail _ (List.Mem.head _))))))
  have n6 : 0 ≤ 1 + ((-1) * γ 18639 + ((-1) * γ 18651 + 0)) := hn _ (List.Mem.tail _ (List.Mem.tail _ (List.Mem.tail _ (List.Mem.tail _ (List.Mem.tail _ (List.Mem.tail _ (List.Mem.head _)))))))
  have n7 : 0 ≤ (-8) + (1 * γ 18657 + 0) := hn _ (List.Mem.tail _ (List.Mem.tail _ (List.Mem.tail _ (List.Mem.tail _ (List.Mem.tail _ (List.Mem.tail _ (List.Mem.tail _ (List.Mem.head _))))))))
  clear hn
  obtain ⟨g0, g1, g2, g3, g4, g5, g6, g7, g8, g9, g10, g11, g12, g13, g14, g15, g16, g17, g18, g19, g20, g21, g22, g23, g24, g25, g26, g27, g28, g29, g30, g31, g32, g33, g34, g35, g36⟩ := id hG
  have r_MQ := sx_gr_MQ hR
  have r_MT7 := sx_gr_MT7 hR
  have r_QM := sx_gr_QM hR
  have r_RM := sx_gr_RM hR
  have r_ga7 := sx_gr_ga7 hR
  have r_gb7 := sx_gr_gb7 hR
  have hQ : γ 18595 = 1 := by omega
  obtain ⟨s1, s2, s3, s4⟩ := g34 hQ
  have hR0 := s2 7 (by decide) (by omega) (fun hk => (by
    obtain ⟨k1, k2⟩ : sy_om (γ 18583) (γ 18639) (γ 18651) := hk
    have := k1 (by omega); omega))
  exact sx_q_m_cmv7_0 hG (by omega)
theorem sx_p_m_cmw7 : sx_okm sx_HH sx_r_m_cmw7 := by
  intro γ A x hG hR hn
  have n0 : 0 ≤ (-1) + (1 * γ 18595 + 0) := hn _ (List.Mem.head _)
  have n1 : 0 ≤ 1 + ((-1) * γ 18595 + 0) := hn _ (List.Mem.tail _ (List.Mem.head _))
  have n2 : 0 ≤ (-8) + (1 * x + 0) := hn _ (List.Mem.tail _ (List.Mem.tail _ (List.Mem.head _)))
  have n3 : 0 ≤ 8 + ((-1) * x + 0) := hn _ (List.Mem.tail _ (List.Mem.tail _ (List.Mem.tail _ (List.Mem.head _))))
  have n4 : 0 ≤ 0 + ((-1) * γ 18583 + 0) := hn _ (List.Mem.tail _ (List.Mem.tail _ (List.Mem.tail _ (List.Mem.tail _ (List.Mem.head _)))))
  have n5 : 0 ≤ (-2) + (1 * γ 18639 + (1 * γ 18651 + 0)) := hn _ (List.Mem.tail _ (List.Mem.tail _ (List.Mem.tail _ (List.Mem.tail _ (List.Mem.tail _ (List.Mem.head _))))))
  have n6 : 0 ≤ (-8) + (1 * γ 18657 + 0) := hn _ (List.Mem.tail _ (List.Mem.tail _ (List.Mem.tail _ (List.Mem.tail _ (List.Mem.tail _ (List.Mem.tail _ (List.Mem.head _)))))))
  clear hn
  obtain ⟨g0, g1, g2, g3, g4, g5, g6, g7, g8, g9, g10, g11, g12, g13, g14, g15, g16, g17, g18, g19, g20, g21, g22, g23, g24, g25, g26, g27, g28, g29, g30, g31, g32, g33, g34, g35, g36⟩ := id hG
  have r_MQ := sx_gr_MQ hR
  have r_MT7 := sx_gr_MT7 hR
  have r_QM := sx_gr_QM hR
  have r_RM := sx_gr_RM hR
  have r_ga7 := sx_gr_ga7 hR
  have r_gb7 := sx_gr_gb7 hR
  have hQ : γ 18595 = 1 := by omega
  obtain ⟨s1, s2, s3, s4⟩ := g34 hQ
  have hR0 := s2 7 (by decide) (by omega) (fun hk => (by
    obtain ⟨k1, k2⟩ : sy_om (γ 18583) (γ 18639) (γ 18651) := hk
    have := k2 (by omega); omega))
  exact sx_q_m_cmw7_0 hG (by omega)
theorem sx_p_m_cma8 : sx_okm sx_HH sx_r_m_cma8 := by
  intro γ A x hG hR hn
  have n0 : 0 ≤ (-1) + (1 * γ 18595 + 0) := hn _ (List.Mem.head _)
  have n1 : 0 ≤ 1 + ((-1) * γ 18595 + 0) := hn _ (List.Mem.tail _ (List.Mem.head _))
  have n2 : 0 ≤ (-9) + (1 * x + 0) := hn _ (List.Mem.tail _ (List.Mem.tail _ (List.Mem.head _)))
  have n3 : 0 ≤ 9 + ((-1) * x + 0) := hn _ (List.Mem.tail _ (List.Mem.tail _ (List.Mem.tail _ (List.Mem.head _))))
  have n4 : 0 ≤ (-8) + (1 * γ 18656 + 0) := hn _ (List.Mem.tail _ (List.Mem.tail _ (List.Mem.tail _ (List.Mem.tail _ (List.Mem.head _)))))
  have n5 : 0 ≤ 8 + ((-1) * γ 18656 + 0) := hn _ (List.Mem.tail _ (List.Mem.tail _ (List.Mem.tail _ (List.Mem.tail _ (List.Mem.tail _ (List.Mem.head _))))))
  have n6 : 0 ≤ (-1) + (1 * γ 18584 + 0) := hn _ (List.Mem.tail _ (List.Mem.tail _ (List.Mem.tail _ (List.Mem.tail _ (List.Mem.tail _ (List.Mem.tail _ (List.Mem.head _)))))))
  have n7 : 0 ≤ 0 + (1 * γ 18640 + ((-1) * γ 18652 + 0)) := hn _ (List.Mem.tail _ (List.Mem.tail _ (List.Mem.tail _ (List.Mem.tail _ (List.Mem.tail _ (List.Mem.tail _ (List.Mem.tail _ (List.Mem.head _))))))))
  have n8 : 0 ≤ 0 + ((-1) * γ 18640 + (1 * γ 18652 + 0)) := hn _ (List.Mem.tail _ (List.Mem.tail _ (List.Mem.tail _ (List.Mem.tail _ (List.Mem.tail _ (List.Mem.tail _ (List.Mem.tail _ (List.Mem.tail _ (List.Mem.head _)))))))))
  clear hn
  obtain ⟨g0, g1, g2, g3, g4, g5, g6, g7, g8, g9, g10, g11, g12, g13, g14, g15, g16, g17, g18, g19, g20, g21, g22, g23, g24, g25, g26, g27, g28, g29, g30, g31, g32, g33, g34, g35, g36⟩ := id hG
  have r_CM := sx_gr_CM hR
  have r_MT8 := sx_gr_MT8 hR
  have r_QM := sx_gr_QM hR
  have r_ga8 := sx_gr_ga8 hR
  have r_gb8 := sx_gr_gb8 hR
  have hQ : γ 18595 = 1 := by omega
  obtain ⟨s1, s2, s3, s4⟩ := g34 hQ
  exact sx_q_m_cma8_0 hG (fun _ => ⟨s1, s2, s3, fun m2 h8 hm2 => (by
    by_cases e : m2 = 8
    · subst e; exact (show sy_om (γ 18584) (γ 18640) (γ 18652) from ⟨by omega, by omega⟩)
    · exact s4 m2 h8 (by omega))⟩)
theorem sx_p_m_cmb8 : sx_okm sx_HH sx_r_m_cmb8 := by
  intro γ A x hG hR hn
  have n0 : 0 ≤ (-1) + (1 * γ 18595 + 0) := hn _ (List.Mem.head _)
  have n1 : 0 ≤ 1 + ((-1) * γ 18595 + 0) := hn _ (List.Mem.tail _ (List.Mem.head _))
  have n2 : 0 ≤ (-9) + (1 * x + 0) := hn _ (List.Mem.tail _ (List.Mem.tail _ (List.Mem.head _)))
  have n3 : 0 ≤ 9 + ((-1) * x + 0) := hn _ (List.Mem.tail _ (List.Mem.tail _ (List.Mem.tail _ (List.Mem.head _))))
  have n4 : 0 ≤ (-8) + (1 * γ 18656 + 0) := hn _ (List.Mem.tail _ (List.Mem.tail _ (List.Mem.tail _ (List.Mem.tail _ (List.Mem.head _)))))
  have n5 : 0 ≤ 8 + ((-1) * γ 18656 + 0) := hn _ (List.Mem.tail _ (List.Mem.tail _ (List.Mem.tail _ (List.Mem.tail _ (List.Mem.tail _ (List.Mem.head _))))))
  have n6 : 0 ≤ 0 + ((-1) * γ 18584 + 0) := hn _ (List.Mem.tail _ (List.Mem.tail _ (List.Mem.tail _ (List.Mem.tail _ (List.Mem.tail _ (List.Mem.tail _ (List.Mem.head _)))))))
  have n7 : 0 ≤ 1 + ((-1) * γ 18640 + ((-1) * γ 18652 + 0)) := hn _ (List.Mem.tail _ (List.Mem.tail _ (List.Mem.tail _ (List.Mem.tail _ (List.Mem.tail _ (List.Mem.tail _ (List.Mem.tail _ (List.Mem.head _))))))))
  clear hn
  obtain ⟨g0, g1, g2, g3, g4, g5, g6, g7, g8, g9, g10, g11, g12, g13, g14, g15, g16, g17, g18, g19, g20, g21, g22, g23, g24, g25, g26, g27, g28, g29, g30, g31, g32, g33, g34, g35, g36⟩ := id hG
  have r_CM := sx_gr_CM hR
  have r_MT8 := sx_gr_MT8 hR
  have r_QM := sx_gr_QM hR
  have r_ga8 := sx_gr_ga8 hR
  have r_gb8 := sx_gr_gb8 hR
  have hQ : γ 18595 = 1 := by omega
  obtain ⟨s1, s2, s3, s4⟩ := g34 hQ
  exact sx_q_m_cmb8_0 hG (fun _ => ⟨s1, s2, s3, fun m2 h8 hm2 => (by
    by_cases e : m2 = 8
    · subst e; exact (show sy_om (γ 18584) (γ 18640) (γ 18652) from ⟨by omega, by omega⟩)
    · exact s4 m2 h8 (by omega))⟩)
theorem sx_p_m_cmv8 : sx_okm sx_HH sx_r_m_cmv8 := by
  intro γ A x hG hR hn
  have n0 : 0 ≤ (-1) + (1 * γ 18595 + 0) := hn _ (List.Mem.head _)
  have n1 : 0 ≤ 1 + ((-1) * γ 18595 + 0) := hn _ (List.Mem.tail _ (List.Mem.head _))
  have n2 : 0 ≤ (-9) + (1 * x + 0) := hn _ (List.Mem.tail _ (List.Mem.tail _ (List.Mem.head _)))
  have n3 : 0 ≤ 9 + ((-1) * x + 0) := hn _ (List.Mem.tail _ (List.Mem.tail _ (List.Mem.tail _ (List.Mem.head _))))
  have n4 : 0 ≤ (-1) + (1 * γ 18584 + 0) := hn _ (List.Mem.tail _ (List.Mem.tail _ (List.Mem.tail _ (List.Mem.tail _ (List.Mem.head _)))))
  have n5 : 0 ≤ (-1) + (1 * γ 18640 + (1 * γ 18652 + 0)) := hn _ (List.Mem.tail _ (List.Mem.tail _ (List.Mem.tail _ (List.Mem.tail _ (List.Mem.tail _ (List.Mem.head _))))))
  have n6 : 0 ≤ 1 + ((-1) * γ 18640 + ((-1) * γ 18652 + 0)) := hn _ (List.Mem.tail _ (List.Mem.tail _ (List.Mem.tail _ (List.Mem.tail _ (List.Mem.tail _ (List.Mem.tail _ (List.Mem.head _)))))))
  have n7 : 0 ≤ (-9) + (1 * γ 18657 + 0) := hn _ (List.Mem.tail _ (List.Mem.tail _ (List.Mem.tail _ (List.Mem.tail _ (List.Mem.tail _ (List.Mem.tail _ (List.Mem.tail _ (List.Mem.head _))))))))
  clear hn
  obtain ⟨g0, g1, g2, g3, g4, g5, g6, g7, g8, g9, g10, g11, g12, g13, g14, g15, g16, g17, g18, g19, g20, g21, g22, g23, g24, g25, g26, g27, g28, g29, g30, g31, g32, g33, g34, g35, g36⟩ := id hG
  have r_MQ := sx_gr_MQ hR
  have r_MT8 := sx_gr_MT8 hR
  have r_QM := sx_gr_QM hR
  have r_RM := sx_gr_RM hR
  have r_ga8 := sx_gr_ga8 hR
  have r_gb8 := sx_gr_gb8 hR
  have hQ : γ 18595 = 1 := by omega
  obtain ⟨s1, s2, s3, s4⟩ := g34 hQ
  have hR0 := s2 8 (by decide) (by omega) (fun hk => (by
    obtain ⟨k1, k2⟩ : sy_om (γ 18584) (γ 18640) (γ 18652) := hk
    have := k1 (by omega); omega))
  exact sx_q_m_cmv8_0 hG (by omega)
theorem sx_p_m_cmw8 : sx_okm sx_HH sx_r_m_cmw8 := by
  intro γ A x hG hR hn
  have n0 : 0 ≤ (-1) + (1 * γ 18595 + 0) := hn _ (List.Mem.head _)
  have n1 : 0 ≤ 1 + ((-1) * γ 18595 + 0) := hn _ (List.Mem.tail _ (List.Mem.head _))
  have n2 : 0 ≤ (-9) + (1 * x + 0) := hn _ (List.Mem.tail _ (List.Mem.tail _ (List.Mem.head _)))
  have n3 : 0 ≤ 9 + ((-1) * x + 0) := hn _ (List.Mem.tail _ (List.Mem.tail _ (List.Mem.tail _ (List.Mem.head _))))
  have n4 : 0 ≤ 0 + ((-1) * γ 18584 + 0) := hn _ (List.Mem.tail _ (List.Mem.tail _ (List.Mem.tail _ (List.Mem.tail _ (List.Mem.head _)))))
  have n5 : 0 ≤ (-2) + (1 * γ 18640 + (1 * γ 18652 + 0)) := hn _ (List.Mem.tail _ (List.Mem.tail _ (List.Mem.tail _ (List.Mem.tail _ (List.Mem.tail _ (List.Mem.head _))))))
  have n6 : 0 ≤ (-9) + (1 * γ 18657 + 0) := hn _ (List.Mem.tail _ (List.Mem.tail _ (List.Mem.tail _ (List.Mem.tail _ (List.Mem.tail _ (List.Mem.tail _ (List.Mem.head _)))))))
  clear hn
  obtain ⟨g0, g1, g2, g3, g4, g5, g6, g7, g8, g9, g10, g11, g12, g13, g14, g15, g16, g17, g18, g19, g20, g21, g22, g23, g24, g25, g26, g27, g28, g29, g30, g31, g32, g33, g34, g35, g36⟩ := id hG
  have r_MQ := sx_gr_MQ hR
  have r_MT8 := sx_gr_MT8 hR
  have r_QM := sx_gr_QM hR
  have r_RM := sx_gr_RM hR
  have r_ga8 := sx_gr_ga8 hR
  have r_gb8 := sx_gr_gb8 hR
  have hQ : γ 18595 = 1 := by omega
  obtain ⟨s1, s2, s3, s4⟩ := g34 hQ
  have hR0 := s2 8 (by decide) (by omega) (fun hk => (by
    obtain ⟨k1, k2⟩ : sy_om (γ 18584) (γ 18640) (γ 18652) := hk
    have := k2 (by omega); omega))
  exact sx_q_m_cmw8_0 hG (by omega)
theorem sx_p_m_cma9 : sx_okm sx_HH sx_r_m_cma9 := by
  intro γ A x hG hR hn
  have n0 : 0 ≤ (-1) + (1 * γ 18595 + 0) := hn _ (List.Mem.head _)
  have n1 : 0 ≤ 1 + ((-1) * γ 18595 + 0) := hn _ (List.Mem.tail _ (List.Mem.head _))
  have n2 : 0 ≤ (-10) + (1 * x + 0) := hn _ (List.Mem.tail _ (List.Mem.tail _ (List.Mem.head _)))
  have n3 : 0 ≤ 10 + ((-1) * x + 0) := hn _ (List.Mem.tail _ (List.Mem.tail _ (List.Mem.tail _ (List.Mem.head _))))
  have n4 : 0 ≤ (-9) + (1 * γ 18656 + 0) := hn _ (List.Mem.tail _ (List.Mem.tail _ (List.Mem.tail _ (List.Mem.tail _ (List.Mem.head _)))))
  have n5 : 0 ≤ 9 + ((-1) * γ 18656 + 0) := hn _ (List.Mem.tail _ (List.Mem.tail _ (List.Mem.tail _ (List.Mem.tail _ (List.Mem.tail _ (List.Mem.head _))))))
  have n6 : 0 ≤ (-1) + (1 * γ 18585 + 0) := hn _ (List.Mem.tail _ (List.Mem.tail _ (List.Mem.tail _ (List.Mem.tail _ (List.Mem.tail _ (List.Mem.tail _ (List.Mem.head _)))))))
  have n7 : 0 ≤ 0 + (1 * γ 18641 + ((-1) * γ 18653 + 0)) := hn _ (List.Mem.tail _ (List.Mem.tail _ (List.Mem.tail _ (List.Mem.tail _ (List.Mem.tail _ (List.Mem.tail _ (List.Mem.tail _ (List.Mem.head _))))))))
  have n8 : 0 ≤ 0 + ((-1) * γ 18641 + (1 * γ 18653 + 0)) := hn _ (List.Mem.tail _ (List.Mem.tail _ (List.Mem.tail _ (List.Mem.tail _ (List.Mem.tail _ (List.Mem.tail _ (List.Mem.tail _ (List.Mem.tail _ (List.Mem.head _)))))))))
  clear hn
  obtain ⟨g0, g1, g2, g3, g4, g5, g6, g7, g8, g9, g10, g11, g12, g13, g14, g15, g16, g17, g18, g19, g20, g21, g22, g23, g24, g25, g26, g27, g28, g29, g30, g31, g32, g33, g34, g35, g36⟩ := id hG
  have r_CM := sx_gr_CM hR
  have r_MT9 := sx_gr_MT9 hR
  have r_QM := sx_gr_QM hR
  have r_ga9 := sx_gr_ga9 hR
  have r_gb9 := sx_gr_gb9 hR
  have hQ : γ 18595 = 1 := by omega
  obtain ⟨s1, s2, s3, s4⟩ := g34 hQ
  exact sx_q_m_cma9_0 hG (fun _ => ⟨s1, s2, s3, fun m2 h8 hm2 => (by
    by_cases e : m2 = 9
    · subst e; exact (show sy_om (γ 18585) (γ 18641) (γ 18653) from ⟨by omega, by omega⟩)
    · exact s4 m2 h8 (by omega))⟩)
theorem sx_p_m_cmb9 : sx_okm sx_HH sx_r_m_cmb9 := by
  intro γ A x hG hR hn
  have n0 : 0 ≤ (-1) + (1 * γ 18595 + 0) := hn _ (List.Mem.head _)
  have n1 : 0 ≤ 1 + ((-1) * γ 18595 + 0) := hn _ (List.Mem.tail _ (List.Mem.head _))
  have n2 : 0 ≤ (-10) + (1 * x + 0) := hn _ (List.Mem.tail _ (List.Mem.tail _ (List.Mem.head _)))
  have n3 : 0 ≤ 10 + ((-1) * x + 0) := hn _ (List.Mem.tail _ (List.Mem.tail _ (List.Mem.tail _ (List.Mem.head _))))
  have n4 : 0 ≤ (-9) + (1 * γ 18656 + 0) := hn _ (List.Mem.tail _ (List.Mem.tail _ (List.Mem.tail _ (List.Mem.tail _ (List.Mem.head _)))))
  have n5 : 0 ≤ 9 + ((-1) * γ 18656 + 0) := hn _ (List.Mem.tail _ (List.Mem.tail _ (List.Mem.tail _ (List.Mem.tail _ (List.Mem.tail _ (List.Mem.head _))))))
  have n6 : 0 ≤ 0 + ((-1) * γ 18585 + 0) := hn _ (List.Mem.tail _ (List.Mem.tail _ (List.Mem.tail _ (List.Mem.tail _ (List.Mem.tail _ (List.Mem.tail _ (List.Mem.head _)))))))
  have n7 : 0 ≤ 1 + ((-1) * γ 18641 + ((-1) * γ 18653 + 0)) := hn _ (List.Mem.tail _ (List.Mem.tail _ (List.Mem.tail _ (List.Mem.tail _ (List.Mem.tail _ (List.Mem.tail _ (List.Mem.tail _ (List.Mem.head _))))))))
  clear hn
  obtain ⟨g0, g1, g2, g3, g4, g5, g6, g7, g8, g9, g10, g11, g12, g13, g14, g15, g16, g17, g18, g19, g20, g21, g22, g23, g24, g25, g26, g27, g28, g29, g30, g31, g32, g33, g34, g35, g36⟩ := id hG
  have r_CM := sx_gr_CM hR
  have r_MT9 := sx_gr_MT9 hR
  have r_QM := sx_gr_QM hR
  have r_ga9 := sx_gr_ga9 hR
  have r_gb9 := sx_gr_gb9 hR
  have hQ : γ 18595 = 1 := by omega
  obtain ⟨s1, s2, s3, s4⟩ := g34 hQ
  exact sx_q_m_cmb9_0 hG (fun _ => ⟨s1, s2, s3, fun m2 h8 hm2 => (by
    by_cases e : m2 = 9
    · subst e; exact (show sy_om (γ 18585) (γ 18641) (γ 18653) from ⟨by omega, by omega⟩)
    · exact s4 m2 h8 (by omega))⟩)
theorem sx_p_m_cmv9 : sx_okm sx_HH sx_r_m_cmv9 := by
  intro γ A x hG hR hn
  have n0 : 0 ≤ (-1) + (1 * γ 18595 + 0) := hn _ (List.Mem.head _)
  have n1 : 0 ≤ 1 + ((-1) * γ 18595 + 0) := hn _ (List.Mem.tail _ (List.Mem.head _))
  have n2 : 0 ≤ (-10) + (1 * x + 0) := hn _ (List.Mem.tail _ (List.Mem.tail _ (List.Mem.head _)))
  have n3 : 0 ≤ 10 + ((-1) * x + 0) := hn _ (List.Mem.tail _ (List.Mem.tail _ (List.Mem.tail _ (List.Mem.head _))))
  have n4 : 0 ≤ (-1) + (1 * γ 18585 + 0) := hn _ (List.Mem.tail _ (List.Mem.tail _ (List.Mem.tail _ (List.Mem.tail _ (List.Mem.head _)))))
  have n5 : 0 ≤ (-1) + (1 * γ 18641 + (1 * γ 18653 + 0)) := hn _ (List.Mem.tail _ (List.Mem.tail _ (List.Mem.tail _ (List.Mem.tail _ (List.Mem.tail _ (List.Mem.head _))))))
  have n6 : 0 ≤ 1 + ((-1) * γ 18641 + ((-1) * γ 18653 + 0)) := hn _ (List.Mem.tail _ (List.Mem.tail _ (List.Mem.tail _ (List.Mem.tail _ (List.Mem.tail _ (List.Mem.tail _ (List.Mem.head _)))))))
  have n7 : 0 ≤ (-10) + (1 * γ 18657 + 0) := hn _ (List.Mem.tail _ (List.Mem.tail _ (List.Mem.tail _ (List.Mem.tail _ (List.Mem.tail _ (List.Mem.tail _ (List.Mem.tail _ (List.Mem.head _))))))))
  clear hn
  obtain ⟨g0, g1, g2, g3, g4, g5, g6, g7, g8, g9, g10, g11, g12, g13, g14, g15, g16, g17, g18, g19, g20, g21, g22, g23, g24, g25, g26, g27, g28, g29, g30, g31, g32, g33, g34, g35, g36⟩ := id hG
  have r_MQ := sx_gr_MQ hR
  have r_MT9 := sx_gr_MT9 hR
  have r_QM := sx_gr_QM hR
  have r_RM := sx_gr_RM hR
  have r_ga9 := sx_gr_ga9 hR
  have r_gb9 := sx_gr_gb9 hR
  have hQ : γ 18595 = 1 := by omega
  obtain ⟨s1, s2, s3, s4⟩ := g34 hQ
  have hR0 := s2 9 (by decide) (by omega) (fun hk => (by
    obtain ⟨k1, k2⟩ : sy_om (γ 18585) (γ 18641) (γ 18653) := hk
    have := k1 (by omega); omega))
  exact sx_q_m_cmv9_0 hG (by omega)
theorem sx_p_m_cmw9 : sx_okm sx_HH sx_r_m_cmw9 := by
  intro γ A x hG hR hn
  have n0 : 0 ≤ (-1) + (1 * γ 18595 + 0) := hn _ (List.Mem.head _)
  have n1 : 0 ≤ 1 + ((-1) * γ 18595 + 0) := hn _ (List.Mem.tail _ (List.Mem.head _))
  have n2 : 0 ≤ (-10) + (1 * x + 0) := hn _ (List.Mem.tail _ (List.Mem.tail _ (List.Mem.head _)))
  have n3 : 0 ≤ 10 + ((-1) * x + 0) := hn _ (List.Mem.tail _ (List.Mem.tail _ (List.Mem.tail _ (List.Mem.head _))))
  have n4 : 0 ≤ 0 + ((-1) * γ 18585 + 0) := hn _ (List.Mem.tail _ (List.Mem.tail _ (List.Mem.tail _ (List.Mem.tail _ (List.Mem.head _)))))
  have n5 : 0 ≤ (-2) + (1 * γ 18641 + (1 * γ 18653 + 0)) := hn _ (List.Mem.tail _ (List.Mem.tail _ (List.Mem.tail _ (List.Mem.tail _ (List.Mem.tail _ (List.Mem.head _))))))
  have n6 : 0 ≤ (-10) + (1 * γ 18657 + 0) := hn _ (List.Mem.tail _ (List.Mem.tail _ (List.Mem.tail _ (List.Mem.tail _ (List.Mem.tail _ (List.Mem.tail _ (List.Mem.head _)))))))
  clear hn
  obtain ⟨g0, g1, g2, g3, g4, g5, g6, g7, g8, g9, g10, g11, g12, g13, g14, g15, g16, g17, g18, g19, g20, g21, g22, g23, g24, g25, g26, g27, g28, g29, g30, g31, g32, g33, g34, g35, g36⟩ := id hG
  have r_MQ := sx_gr_MQ hR
  have r_MT9 := sx_gr_MT9 hR
  have r_QM := sx_gr_QM hR
  have r_RM := sx_gr_RM hR
  have r_ga9 := sx_gr_ga9 hR
  have r_gb9 := sx_gr_gb9 hR
  have hQ : γ 18595 = 1 := by omega
  obtain ⟨s1, s2, s3, s4⟩ := g34 hQ
  have hR0 := s2 9 (by decide) (by omega) (fun hk => (by
    obtain ⟨k1, k2⟩ : sy_om (γ 18585) (γ 18641) (γ 18653) := hk
    have := k2 (by omega); omega))
  exact sx_q_m_cmw9_0 hG (by omega)
theorem sx_p_m_cma10 : sx_okm sx_HH sx_r_m_cma10 := by
  intro γ A x hG hR hn
  have n0 : 0 ≤ (-1) + (1 * γ 18595 + 0) := hn _ (List.Mem.head _)
  have n1 : 0 ≤ 1 + ((-1) * γ 18595 + 0) := hn _ (List.Mem.tail _ (List.Mem.head _))
  have n2 : 0 ≤ (-11) + (1 * x + 0) := hn _ (List.Mem.tail _ (List.Mem.tail _ (List.Mem.head _)))
  have n3 : 0 ≤ 11 + ((-1) * x + 0) := hn _ (List.Mem.tail _ (List.Mem.tail _ (List.Mem.tail _ (List.Mem.head _))))
  have n4 : 0 ≤ (-10) + (1 * γ 18656 + 0) := hn _ (List.Mem.tail _ (List.Mem.tail _ (List.Mem.tail _ (List.Mem.tail _ (List.Mem.head _)))))
  have n5 : 0 ≤ 10 + ((-1) * γ 18656 + 0) := hn _ (List.Mem.tail _ (List.Mem.tail _ (List.Mem.tail _ (List.Mem.tail _ (List.Mem.tail _ (List.Mem.head _))))))
  have n6 : 0 ≤ (-1) + (1 * γ 18586 + 0) := hn _ (List.Mem.tail _ (List.Mem.tail _ (List.Mem.tail _ (List.Mem.tail _ (List.Mem.tail _ (List.Mem.tail _ (List.Mem.head _)))))))
  have n7 : 0 ≤ 0 + (1 * γ 18642 + ((-1) * γ 18654 + 0)) := hn _ (List.Mem.tail _ (List.Mem.tail _ (List.Mem.tail _ (List.Mem.tail _ (List.Mem.tail _ (List.Mem.tail _ (List.Mem.tail _ (List.Mem.head _))))))))
  have n8 : 0 ≤ 0 + ((-1) * γ 18642 + (1 * γ 18654 + 0)) := hn _ (List.Mem.tail _ (List.Mem.tail _ (List.Mem.tail _ (List.Mem.tail _ (List.Mem.tail _ (List.Mem.tail _ (List.Mem.tail _ (List.Mem.tail _ (List.Mem.head _)))))))))
  clear hn
  obtain ⟨g0, g1, g2, g3, g4, g5, g6, g7, g8, g9, g10, g11, g12, g13, g14, g15, g16, g17, g18, g19, g20, g21, g22, g23, g24, g25, g26, g27, g28, g29, g30, g31, g32, g33, g34, g35, g36⟩ := id hG
  have r_CM := sx_gr_CM hR
  have r_MT10 := sx_gr_MT10 hR
  have r_QM := sx_gr_QM hR
  have r_ga10 := sx_gr_ga10 hR
  have r_gb10 := sx_gr_gb10 hR
  have hQ : γ 18595 = 1 := by omega
  obtain ⟨s1, s2, s3, s4⟩ := g34 hQ
  exact sx_q_m_cma10_0 hG (fun _ => ⟨s1, s2, s3, fun m2 h8 hm2 => (by
    by_cases e : m2 = 10
    · subst e; exact (show sy_om (γ 18586) (γ 18642) (γ 18654) from ⟨by omega, by omega⟩)
    · exact s4 m2 h8 (by omega))⟩)
theorem sx_p_m_cmb10 : sx_okm sx_HH sx_r_m_cmb10 := by
  intro γ A x hG hR hn
  have n0 : 0 ≤ (-1) + (1 * γ 18595 + 0) := hn _ (List.Mem.head _)
  have n1 : 0 ≤ 1 + ((-1) * γ 18595 + 0) := hn _ (List.Mem.tail _ (List.Mem.head _))
  have n2 : 0 ≤ (-11) + (1 * x + 0) := hn _ (List.Mem.tail _ (List.Mem.tail _ (List.Mem.head _)))
  have n3 : 0 ≤ 11 + ((-1) * x + 0) := hn _ (List.Mem.tail _ (List.Mem.tail _ (List.Mem.tail _ (List.Mem.head _))))
  have n4 : 0 ≤ (-10) + (1 * γ 18656 + 0) := hn _ (List.Mem.tail _ (List.Mem.tail _ (List.Mem.tail _ (List.Mem.tail _ (List.Mem.head _)))))
  have n5 : 0 ≤ 10 + ((-1) * γ 18656 + 0) := hn _ (List.Mem.tail _ (List.Mem.tail _ (List.Mem.tail _ (List.Mem.tail _ (List.Mem.tail _ (List.Mem.head _))))))
  have n6 : 0 ≤ 0 + ((-1) * γ 18586 + 0) := hn _ (List.Mem.tail _ (List.Mem.tail _ (List.Mem.tail _ (List.Mem.tail _ (List.Mem.tail _ (List.Mem.tail _ (List.Mem.head _)))))))
  have n7 : 0 ≤ 1 + ((-1) * γ 18642 + ((-1) * γ 18654 + 0)) := hn _ (List.Mem.tail _ (List.Mem.tail _ (List.Mem.tail _ (List.Mem.tail _ (List.Mem.tail _ (List.Mem.tail _ (List.Mem.tail _ (List.Mem.head _))))))))
  clear hn
  obtain ⟨g0, g1, g2, g3, g4, g5, g6, g7, g8, g9, g10, g11, g12, g13, g14, g15, g16, g17, g18, g19, g20, g21, g22, g23, g24, g25, g26, g27, g28, g29, g30, g31, g32, g33, g34, g35, g36⟩ := id hG
  have r_CM := sx_gr_CM hR
  have r_MT10 := sx_gr_MT10 hR
  have r_QM := sx_gr_QM hR
  have r_ga10 := sx_gr_ga10 hR
  have r_gb10 := sx_gr_gb10 hR
  have hQ : γ 18595 = 1 := by omega
  obtain ⟨s1, s2, s3, s4⟩ := g34 hQ
  exact sx_q_m_cmb10_0 hG (fun _ => ⟨s1, s2, s3, fun m2 h8 hm2 => (by
    by_cases e : m2 = 10
    · subst e; exact (show sy_om (γ 18586) (γ 18642) (γ 18654) from ⟨by omega, by omega⟩)
    · exact s4 m2 h8 (by omega))⟩)
theorem sx_p_m_cmv10 : sx_okm sx_HH sx_r_m_cmv10 := by
  intro γ A x hG hR hn
  have n0 : 0 ≤ (-1) + (1 * γ 18595 + 0) := hn _ (List.Mem.head _)
  have n1 : 0 ≤ 1 + ((-1) * γ 18595 + 0) := hn _ (List.Mem.tail _ (List.Mem.head _))
  have n2 : 0 ≤ (-11) + (1 * x + 0) := hn _ (List.Mem.tail _ (List.Mem.tail _ (List.Mem.head _)))
  have n3 : 0 ≤ 11 + ((-1) * x + 0) := hn _ (List.Mem.tail _ (List.Mem.tail _ (List.Mem.tail _ (List.Mem.head _))))
  have n4 : 0 ≤ (-1) + (1 * γ 18586 + 0) := hn _ (List.Mem.tail _ (List.Mem.tail _ (List.Mem.tail _ (List.Mem.tail _ (List.Mem.head _)))))
  have n5 : 0 ≤ (-1) + (1 * γ 18642 + (1 * γ 18654 + 0)) := hn _ (List.Mem.tail _ (List.Mem.tail _ (List.Mem.tail _ (List.Mem.tail _ (List.Mem.tail _ (List.Mem.head _))))))
  have n6 : 0 ≤ 1 + ((-1) * γ 18642 + ((-1) * γ 18654 + 0)) := hn _ (List.Mem.tail _ (List.Mem.tail _ (List.Mem.tail _ (List.Mem.tail _ (List.Mem.tail _ (List.Mem.tail _ (List.Mem.head _)))))))
  have n7 : 0 ≤ (-11) + (1 * γ 18657 + 0) := hn _ (List.Mem.tail _ (List.Mem.tail _ (List.Mem.tail _ (List.Mem.tail _ (List.Mem.tail _ (List.Mem.tail _ (List.Mem.tail _ (List.Mem.head _))))))))
  clear hn
  obtain ⟨g0, g1, g2, g3, g4, g5, g6, g7, g8, g9, g10, g11, g12, g13, g14, g15, g16, g17, g18, g19, g20, g21, g22, g23, g24, g25, g26, g27, g28, g29, g30, g31, g32, g33, g34, g35, g36⟩ := id hG
  have r_MQ := sx_gr_MQ hR
  have r_MT10 := sx_gr_MT10 hR
  have r_QM := sx_gr_QM hR
  have r_RM := sx_gr_RM hR
  have r_ga10 := sx_gr_ga10 hR
  have r_gb10 := sx_gr_gb10 hR
  have hQ : γ 18595 = 1 := by omega
  obtain ⟨s1, s2, s3, s4⟩ := g34 hQ
  have hR0 := s2 10 (by decide) (by omega) (fun hk => (by
    obtain ⟨k1, k2⟩ : sy_om (γ 18586) (γ 18642) (γ 18654) := hk
    have := k1 (by omega); omega))
  exact sx_q_m_cmv10_0 hG (by omega)
theorem sx_p_m_cmw10 : sx_okm sx_HH sx_r_m_cmw10 := by
  intro γ A x hG hR hn
  have n0 : 0 ≤ (-1) + (1 * γ 18595 + 0) := hn _ (List.Mem.head _)
  have n1 : 0 ≤ 1 + ((-1) * γ 18595 + 0) := hn _ (List.Mem.tail _ (List.Mem.head _))
  have n2 : 0 ≤ (-11) + (1 * x + 0) := hn _ (List.Mem.tail _ (List.Mem.tail _ (List.Mem.head _)))
  have n3 : 0 ≤ 11 + ((-1) * x + 0) := hn _ (List.Mem.tail _ (List.Mem.tail _ (List.Mem.tail _ (List.Mem.head _))))
  have n4 : 0 ≤ 0 + ((-1) * γ 18586 + 0) := hn _ (List.Mem.tail _ (List.Mem.tail _ (List.Mem.tail _ (List.Mem.tail _ (List.Mem.head _)))))
  have n5 : 0 ≤ (-2) + (1 * γ 18642 + (1 * γ 18654 + 0)) := hn _ (List.Mem.tail _ (List.Mem.tail _ (List.Mem.tail _ (List.Mem.tail _ (List.Mem.tail _ (List.Mem.head _))))))
  have n6 : 0 ≤ (-11) + (1 * γ 18657 + 0) := hn _ (List.Mem.tail _ (List.Mem.tail _ (List.Mem.tail _ (List.Mem.tail _ (List.Mem.tail _ (List.Mem.tail _ (List.Mem.head _)))))))
  clear hn
  obtain ⟨g0, g1, g2, g3, g4, g5, g6, g7, g8, g9, g10, g11, g12, g13, g14, g15, g16, g17, g18, g19, g20, g21, g22, g23, g24, g25, g26, g27, g28, g29, g30, g31, g32, g33, g34, g35, g36⟩ := id hG
  have r_MQ := sx_gr_MQ hR
  have r_MT10 := sx_gr_MT10 hR
  have r_QM := sx_gr_QM hR
  have r_RM := sx_gr_RM hR
  have r_ga10 := sx_gr_ga10 hR
  have r_gb10 := sx_gr_gb10 hR
  have hQ : γ 18595 = 1 := by omega
  obtain ⟨s1, s2, s3, s4⟩ := g34 hQ
  have hR0 := s2 10 (by decide) (by omega) (fun hk => (by
    obtain ⟨k1, k2⟩ : sy_om (γ 18586) (γ 18642) (γ 18654) := hk
    have := k2 (by omega); omega))
  exact sx_q_m_cmw10_0 hG (by omega)
theorem sx_p_m_cma11 : sx_okm sx_HH sx_r_m_cma11 := by
  intro γ A x hG hR hn
  have n0 : 0 ≤ (-1) + (1 * γ 18595 + 0) := hn _ (List.Mem.head _)
  have n1 : 0 ≤ 1 + ((-1) * γ 18595 + 0) := hn _ (List.Mem.tail _ (List.Mem.head _))
  have n2 : 0 ≤ (-12) + (1 * x + 0) := hn _ (List.Mem.tail _ (List.Mem.tail _ (List.Mem.head _)))
  have n3 : 0 ≤ 12 + ((-1) * x + 0) := hn _ (List.Mem.tail _ (List.Mem.tail _ (List.Mem.tail _ (List.Mem.head _))))
  have n4 : 0 ≤ (-11) + (1 * γ 18656 + 0) := hn _ (List.Mem.tail _ (List.Mem.tail _ (List.Mem.tail _ (List.Mem.tail _ (List.Mem.head _)))))
  have n5 : 0 ≤ 11 + ((-1) * γ 18656 + 0) := hn _ (List.Mem.tail _ (List.Mem.tail _ (List.Mem.tail _ (List.Mem.tail _ (List.Mem.tail _ (List.Mem.head _))))))
  have n6 : 0 ≤ (-1) + (1 * γ 18587 + 0) := hn _ (List.Mem.tail _ (List.Mem.tail _ (List.Mem.tail _ (List.Mem.tail _ (List.Mem.tail _ (List.Mem.tail _ (List.Mem.head _)))))))
  have n7 : 0 ≤ 0 + (1 * γ 18643 + ((-1) * γ 18655 + 0)) := hn _ (List.Mem.tail _ (List.Mem.tail _ (List.Mem.tail _ (List.Mem.tail _ (List.Mem.tail _ (List.Mem.tail _ (List.Mem.tail _ (List.Mem.head _))))))))
  have n8 : 0 ≤ 0 + ((-1) * γ 18643 + (1 * γ 18655 + 0)) := hn _ (List.Mem.tail _ (List.Mem.tail _ (List.Mem.tail _ (List.Mem.tail _ (List.Mem.tail _ (List.Mem.tail _ (List.Mem.tail _ (List.Mem.tail _ (List.Mem.head _)))))))))
  clear hn
  obtain ⟨g0, g1, g2, g3, g4, g5, g6, g7, g8, g9, g10, g11, g12, g13, g14, g15, g16, g17, g18, g19, g20, g21, g22, g23, g24, g25, g26, g27, g28, g29, g30, g31, g32, g33, g34, g35, g36⟩ := id hG
  have r_CM := sx_gr_CM hR
  have r_MT11 := sx_gr_MT11 hR
  have r_QM := sx_gr_QM hR
  have r_ga11 := sx_gr_ga11 hR
  have r_gb11 := sx_gr_gb11 hR
  have hQ : γ 18595 = 1 := by omega
  obtain ⟨s1, s2, s3, s4⟩ := g34 hQ
  exact sx_q_m_cma11_0 hG (fun _ => ⟨s1, s2, s3, fun m2 h8 hm2 => (by
    by_cases e : m2 = 11
    · subst e; exact (show sy_om (γ 18587) (γ 18643) (γ 18655) from ⟨by omega, by omega⟩)
    · exact s4 m2 h8 (by omega))⟩)
theorem sx_p_m_cmb11 : sx_okm sx_HH sx_r_m_cmb11 := by
  intro γ A x hG hR hn
  have n0 : 0 ≤ (-1) + (1 * γ 18595 + 0) := hn _ (List.Mem.head _)
  have n1 : 0 ≤ 1 + ((-1) * γ 18595 + 0) := hn _ (List.Mem.tail _ (List.Mem.head _))
  have n2 : 0 ≤ (-12) + (1 * x + 0) := hn _ (List.Mem.tail _ (List.Mem.tail _ (List.Mem.head _)))
  have n3 : 0 ≤ 12 + ((-1) * x + 0) := hn _ (List.Mem.tail _ (List.Mem.tail _ (List.Mem.tail _ (List.Mem.head _))))
  have n4 : 0 ≤ (-11) + (1 * γ 18656 + 0) := hn _ (List.Mem.tail _ (List.Mem.tail _ (List.Mem.tail _ (List.Mem.tail _ (List.Mem.head _)))))
  have n5 : 0 ≤ 11 + ((-1) * γ 18656 + 0) := hn _ (List.Mem.tail _ (List.Mem.tail _ (List.Mem.tail _ (List.Mem.tail _ (List.Mem.tail _ (List.Mem.head _))))))
  have n6 : 0 ≤ 0 + ((-1) * γ 18587 + 0) := hn _ (List.Mem.tail _ (List.Mem.tail _ (List.Mem.tail _ (List.Mem.tail _ (List.Mem.tail _ (List.Mem.tail _ (List.Mem.head _)))))))
  have n7 : 0 ≤ 1 + ((-1) * γ 18643 + ((-1) * γ 18655 + 0)) := hn _ (List.Mem.tail _ (List.Mem.tail _ (List.Mem.tail _ (List.Mem.tail _ (List.Mem.tail _ (List.Mem.tail _ (List.Mem.tail _ (List.Mem.head _))))))))
  clear hn
  obtain ⟨g0, g1, g2, g3, g4, g5, g6, g7, g8, g9, g10, g11, g12, g13, g14, g15, g16, g17, g18, g19, g20, g21, g22, g23, g24, g25, g26, g27, g28, g29, g30, g31, g32, g33, g34, g35, g36⟩ := id hG
  have r_CM := sx_gr_CM hR
  have r_MT11 := sx_gr_MT11 hR
  have r_QM := sx_gr_QM hR
  have r_ga11 := sx_gr_ga11 hR
  have r_gb11 := sx_gr_gb11 hR
  have hQ : γ 18595 = 1 := by omega
  obtain ⟨s1, s2, s3, s4⟩ := g34 hQ
  exact sx_q_m_cmb11_0 hG (fun _ => ⟨s1, s2, s3, fun m2 h8 hm2 => (by
    by_cases e : m2 = 11
    · subst e; exact (show sy_om (γ 18587) (γ 18643) (γ 18655) from ⟨by omega, by omega⟩)
    · exact s4 m2 h8 (by omega))⟩)
theorem sx_p_m_cmv11 : sx_okm sx_HH sx_r_m_cmv11 := by
  intro γ A x hG hR hn
  have n0 : 0 ≤ (-1) + (1 * γ 18595 + 0) := hn _ (List.Mem.head _)
  have n1 : 0 ≤ 1 + ((-1) * γ 18595 + 0) := hn _ (List.Mem.tail _ (List.Mem.head _))
  have n2 : 0 ≤ (-12) + (1 * x + 0) := hn _ (List.Mem.tail _ (List.Mem.tail _ (List.Mem.head _)))
  have n3 : 0 ≤ 12 + ((-1) * x + 0) := hn _ (List.Mem.tail _ (List.Mem.tail _ (List.Mem.tail _ (List.Mem.head _))))
  have n4 : 0 ≤ (-1) + (1 * γ 18587 + 0) := hn _ (List.Mem.tail _ (List.Mem.tail _ (List.Mem.tail _ (List.Mem.tail _ (List.Mem.head _)))))
  have n5 : 0 ≤ (-1) + (1 * γ 18643 + (1 * γ 18655 + 0)) := hn _ (List.Mem.tail _ (List.Mem.tail _ (List.Mem.tail _ (List.Mem.tail _ (List.Mem.tail _ (List.Mem.head _))))))
  have n6 : 0 ≤ 1 + ((-1) * γ 18643 + ((-1) * γ 18655 + 0)) := hn _ (List.Mem.tail _ (List.Mem.tail _ (List.Mem.tail _ (List.Mem.tail _ (List.Mem.tail _ (List.Mem.tail _ (List.Mem.head _)))))))
  have n7 : 0 ≤ (-12) + (1 * γ 18657 + 0) := hn _ (List.Mem.tail _ (List.Mem.tail _ (List.Mem.tail _ (List.Mem.tail _ (List.Mem.tail _ (List.Mem.tail _ (List.Mem.tail _ (List.Mem.head _))))))))
  clear hn
  obtain ⟨g0, g1, g2, g3, g4, g5, g6, g7, g8, g9, g10, g11, g12, g13, g14, g15, g16, g17, g18, g19, g20, g21, g22, g23, g24, g25, g26, g27, g28, g29, g30, g31, g32, g33, g34, g35, g36⟩ := id hG
  have r_MQ := sx_gr_MQ hR
  have r_MT11 := sx_gr_MT11 hR
  have r_QM := sx_gr_QM hR
  have r_RM := sx_gr_RM hR
  have r_ga11 := sx_gr_ga11 hR
  have r_gb11 := sx_gr_gb11 hR
  have hQ : γ 18595 = 1 := by omega
  obtain ⟨s1, s2, s3, s4⟩ := g34 hQ
  have hR0 := s2 11 (by decide) (by omega) (fun hk => (by
    obtain ⟨k1, k2⟩ : sy_om (γ 18587) (γ 18643) (γ 18655) := hk
    have := k1 (by omega); omega))
  exact sx_q_m_cmv11_0 hG (by omega)
theorem sx_p_m_cmw11 : sx_okm sx_HH sx_r_m_cmw11 := by
  intro γ A x hG hR hn
  have n0 : 0 ≤ (-1) + (1 * γ 18595 + 0) := hn _ (List.Mem.head _)
  have n1 : 0 ≤ 1 + ((-1) * γ 18595 + 0) := hn _ (List.Mem.tail _ (List.Mem.head _))
  have n2 : 0 ≤ (-12) + (1 * x + 0) := hn _ (List.Mem.tail _ (List.Mem.tail _ (List.Mem.head _)))
  have n3 : 0 ≤ 12 + ((-1) * x + 0) := hn _ (List.Mem.tail _ (List.Mem.tail _ (List.Mem.tail _ (List.Mem.head _))))
  have n4 : 0 ≤ 0 + ((-1) * γ 18587 + 0) := hn _ (List.Mem.tail _ (List.Mem.tail _ (List.Mem.tail _ (List.Mem.tail _ (List.Mem.head _)))))
  have n5 : 0 ≤ (-2) + (1 * γ 18643 + (1 * γ 18655 + 0)) := hn _ (List.Mem.tail _ (List.Mem.tail _ (List.Mem.tail _ (List.Mem.tail _ (List.Mem.tail _ (List.Mem.head _))))))
  have n6 : 0 ≤ (-12) + (1 * γ 18657 + 0) := hn _ (List.Mem.tail _ (List.Mem.tail _ (List.Mem.tail _ (List.Mem.tail _ (List.Mem.tail _ (List.Mem.tail _ (List.Mem.head _)))))))
  clear hn
  obtain ⟨g0, g1, g2, g3, g4, g5, g6, g7, g8, g9, g10, g11, g12, g13, g14, g15, g16, g17, g18, g19, g20, g21, g22, g23, g24, g25, g26, g27, g28, g29, g30, g31, g32, g33, g34, g35, g36⟩ := id hG
  have r_MQ := sx_gr_MQ hR
  have r_MT11 := sx_gr_MT11 hR
  have r_QM := sx_gr_QM hR
  have r_RM := sx_gr_RM hR
  have r_ga11 := sx_gr_ga11 hR
  have r_gb11 := sx_gr_gb11 hR
  have hQ : γ 18595 = 1 := by omega
  obtain ⟨s1, s2, s3, s4⟩ := g34 hQ
  have hR0 := s2 11 (by decide) (by omega) (fun hk => (by
    obtain ⟨k1, k2⟩ : sy_om (γ 18587) (γ 18643) (γ 18655) := hk
    have := k2 (by omega); omega))
  exact sx_q_m_cmw11_0 hG (by omega)
theorem sx_p_m_cme : sx_okm sx_HH sx_r_m_cme := by
  intro γ A x hG hR hn
  have n0 : 0 ≤ (-1) + (1 * γ 18595 + 0) := hn _ (List.Mem.head _)
  have n1 : 0 ≤ 1 + ((-1) * γ 18595 + 0) := hn _ (List.Mem.tail _ (List.Mem.head _))
  have n2 : 0 ≤ 0 + ((-1) * γ 12805 + (1 * γ 18657 + 0)) := hn _ (List.Mem.tail _ (List.Mem.tail _ (List.Mem.head _)))
  have n3 : 0 ≤ 0 + (1 * γ 12805 + ((-1) * γ 18657 + 0)) := hn _ (List.Mem.tail _ (List.Mem.tail _ (List.Mem.tail _ (List.Mem.head _))))
  clear hn
  obtain ⟨g0, g1, g2, g3, g4, g5, g6, g7, g8, g9, g10, g11, g12, g13, g14, g15, g16, g17, g18, g19, g20, g21, g22, g23, g24, g25, g26, g27, g28, g29, g30, g31, g32, g33, g34, g35, g36⟩ := id hG
  have r_CM := sx_gr_CM hR
  have r_MQ := sx_gr_MQ hR
  have r_QM := sx_gr_QM hR
  have r_RM := sx_gr_RM hR
  have r_SZ := sx_gr_SZ hR
  have hQ : γ 18595 = 1 := by omega
  obtain ⟨s1, s2, s3, s4⟩ := g34 hQ
  by_cases h : γ 12805 ≤ γ 18656
  · have h1 := s3 (fun m2 h8 hm2 => s4 m2 h8 (by omega))
    exact sx_q_m_cme_0 hG (by omega) (by omega)
  · exact sx_q_m_cme_1 hG (by omega)
theorem sx_p_m_b0 : sx_okm sx_HH sx_r_m_b0 := by
  intro γ A x hG hR hn
  have n0 : 0 ≤ (-1) + (1 * γ 18595 + 0) := hn _ (List.Mem.head _)
  have n1 : 0 ≤ 1 + ((-1) * γ 18595 + 0) := hn _ (List.Mem.tail _ (List.Mem.head _))
  have n2 : 0 ≤ 0 + ((-1) * γ 18596 + (1 * x + 0)) := hn _ (List.Mem.tail _ (List.Mem.tail _ (List.Mem.head _)))
  have n3 : 0 ≤ 0 + (1 * γ 18596 + ((-1) * x + 0)) := hn _ (List.Mem.tail _ (List.Mem.tail _ (List.Mem.tail _ (List.Mem.head _))))
  have n4 : 0 ≤ (-1) + (1 * x + 0) := hn _ (List.Mem.tail _ (List.Mem.tail _ (List.Mem.tail _ (List.Mem.tail _ (List.Mem.head _)))))
  have n5 : 0 ≤ 255 + ((-1) * x + 0) := hn _ (List.Mem.tail _ (List.Mem.tail _ (List.Mem.tail _ (List.Mem.tail _ (List.Mem.tail _ (List.Mem.head _))))))
  clear hn
  obtain ⟨g0, g1, g2, g3, g4, g5, g6, g7, g8, g9, g10, g11, g12, g13, g14, g15, g16, g17, g18, g19, g20, g21, g22, g23, g24, g25, g26, g27, g28, g29, g30, g31, g32, g33, g34, g35, g36⟩ := id hG
  have r_PB := sx_gr_PB hR
  have r_PG := sx_gr_PG hR
  have r_QM := sx_gr_QM hR
  have hQ : γ 18595 = 1 := by omega
  obtain ⟨h1, h2⟩ := (g19 hQ).2 (by omega) (by omega)
  exact sx_q_m_b0_0 hG (by omega) (fun _ => by rw [show 0 + (1 * x + 0) = γ 18596 by omega]; omega)
theorem sx_p_m_bz : sx_okm sx_HH sx_r_m_bz := by
  intro γ A x hG hR hn
  have n0 : 0 ≤ (-1) + (1 * γ 18595 + 0) := hn _ (List.Mem.head _)
  have n1 : 0 ≤ 1 + ((-1) * γ 18595 + 0) := hn _ (List.Mem.tail _ (List.Mem.head _))
  have n2 : 0 ≤ 0 + ((-1) * γ 18660 + (1 * x + 0)) := hn _ (List.Mem.tail _ (List.Mem.tail _ (List.Mem.head _)))
  have n3 : 0 ≤ 0 + (1 * γ 18660 + ((-1) * x + 0)) := hn _ (List.Mem.tail _ (List.Mem.tail _ (List.Mem.tail _ (List.Mem.head _))))
  clear hn
  obtain ⟨g0, g1, g2, g3, g4, g5, g6, g7, g8, g9, g10, g11, g12, g13, g14, g15, g16, g17, g18, g19, g20, g21, g22, g23, g24, g25, g26, g27, g28, g29, g30, g31, g32, g33, g34, g35, g36⟩ := id hG
  have r_KV := sx_gr_KV hR
  have r_QM := sx_gr_QM hR
  have r_RC := sx_gr_RC hR
  have hQ : γ 18595 = 1 := by omega
  have h1 := g36 hQ
  by_cases h : x ≤ 0
  · rw [show (γ 18660).toNat = 0 by omega, show sx_pop 0 = 0 from rfl] at h1
    exact sx_q_m_bz_0 hG (by omega) (by omega)
  · exact sx_q_m_bz_1 hG (by omega)
theorem sx_p_m_gq : sx_okm sx_HH sx_r_m_gq := by
  intro γ A x hG hR hn
  have n0 : 0 ≤ (-1) + (1 * γ 18595 + 0) := hn _ (List.Mem.head _)
  have n1 : 0 ≤ 1 + ((-1) * γ 18595 + 0) := hn _ (List.Mem.tail _ (List.Mem.head _))
  clear hn
  obtain ⟨g0, g1, g2, g3, g4, g5, g6, g7, g8, g9, g10, g11, g12, g13, g14, g15, g16, g17, g18, g19, g20, g21, g22, g23, g24, g25, g26, g27, g28, g29, g30, g31, g32, g33, g34, g35, g36⟩ := id hG
  have r_PG := sx_gr_PG hR
  have r_QM := sx_gr_QM hR
  have hQ : γ 18595 = 1 := by omega
  by_cases h : x = γ 18596
  · exact sx_q_m_gq_1 hG (by omega) (by omega)
  · by_cases h2 : x < γ 18596
    · exact sx_q_m_gq_0 hG (by omega)
    · exact sx_q_m_gq_2 hG (by omega)
theorem sx_p_a_bd0 : sx_okn sx_HH sx_r_a_bd0 := by
  intro γ A x y hG hR hx0 hx1 hy0 hy1 hn
  have n0 : 0 ≤ (-1) + (1 * γ 18595 + 0) := hn _ (List.Mem.head _)
  have n1 : 0 ≤ 1 + ((-1) * γ 18595 + 0) := hn _ (List.Mem.tail _ (List.Mem.head _))
  have n2 : 0 ≤ 0 + ((-1) * γ 18544 + (1 * x + 0)) := hn _ (List.Mem.tail _ (List.Mem.tail _ (List.Mem.head _)))
  have n3 : 0 ≤ 0 + (1 * γ 18544 + ((-1) * x + 0)) := hn _ (List.Mem.tail _ (List.Mem.tail _ (List.Mem.tail _ (List.Mem.head _))))
  have n4 : 0 ≤ 0 + ((-1) * γ 18596 + (1 * y + 0)) := hn _ (List.Mem.tail _ (List.Mem.tail _ (List.Mem.tail _ (List.Mem.tail _ (List.Mem.head _)))))
  have n5 : 0 ≤ 0 + (1 * γ 18596 + ((-1) * y + 0)) := hn _ (List.Mem.tail _ (List.Mem.tail _ (List.Mem.tail _ (List.Mem.tail _ (List.Mem.tail _ (List.Mem.head _))))))
  have n6 : 0 ≤ (-1) + (1 * γ 18597 + 0) := hn _ (List.Mem.tail _ (List.Mem.tail _ (List.Mem.tail _ (List.Mem.tail _ (List.Mem.tail _ (List.Mem.tail _ (List.Mem.head _)))))))
  have n7 : 0 ≤ (-1) + (1 * γ 18623 + 0) := hn _ (List.Mem.tail _ (List.Mem.tail _ (List.Mem.tail _ (List.Mem.tail _ (List.Mem.tail _ (List.Mem.tail _ (List.Mem.tail _ (List.Mem.head _))))))))
  clear hn
  obtain ⟨g0, g1, g2, g3, g4, g5, g6, g7, g8, g9, g10, g11, g12, g13, g14, g15, g16, g17, g18, g19, g20, g21, g22, g23, g24, g25, g26, g27, g28, g29, g30, g31, g32, g33, g34, g35, g36⟩ := id hG
  have r_BD0 := sx_gr_BD0 hR
  have r_KN := sx_gr_KN hR
  have r_PG := sx_gr_PG hR
  have r_QM := sx_gr_QM hR
  have r_RX := sx_gr_RX hR
  have r_XB0 := sx_gr_XB0 hR
  have r_pg0 := sx_gr_pg0 hR
  have hQ : γ 18595 = 1 := by omega
  obtain ⟨a1, a2, a3⟩ := g10 hQ
  have ex : x = γ 18544 := by omega
  have ey : y = γ 18596 := by omega
  obtain ⟨s1, s2, s3, s4⟩ := g33 hQ
  by_cases h : γ 18613 = 0
  · have h1 := a2.mp h
    exact sx_q_a_bd0_1 hG (by omega) (by rw [ex, ey, h1]; omega)
  · have hR0 := s2 0 (by decide) (by omega) (fun hk => (by
      rcases hk with hk | ⟨-, hk⟩
      · have hk : γ 18597 = 0 := hk
        omega
      · exact h hk))
    have hne : (γ 18544).toNat &&& (γ 18596).toNat ≠ (γ 18544).toNat := fun q => h (a2.mpr q)
    have hle : (γ 18544).toNat &&& (γ 18596).toNat ≤ (γ 18544).toNat := Nat.and_le_left
    exact sx_q_a_bd0_0 hG ((((γ 18544).toNat &&& (γ 18596).toNat : Nat) : Int)) (⟨by omega, by omega⟩) (by omega) (by omega) (by omega) (by rw [ex, ey]; omega)
theorem sx_p_a_bd1 : sx_okn sx_HH sx_r_a_bd1 := by
  intro γ A x y hG hR hx0 hx1 hy0 hy1 hn
  have n0 : 0 ≤ (-1) + (1 * γ 18595 + 0) := hn _ (List.Mem.head _)
  have n1 : 0 ≤ 1 + ((-1) * γ 18595 + 0) := hn _ (List.Mem.tail _ (List.Mem.head _))
  have n2 : 0 ≤ 0 + ((-1) * γ 18545 + (1 * x + 0)) := hn _ (List.Mem.tail _ (List.Mem.tail _ (List.Mem.head _)))
  have n3 : 0 ≤ 0 + (1 * γ 18545 + ((-1) * x + 0)) := hn _ (List.Mem.tail _ (List.Mem.tail _ (List.Mem.tail _ (List.Mem.head _))))
  have n4 : 0 ≤ 0 + ((-1) * γ 18596 + (1 * y + 0)) := hn _ (List.Mem.tail _ (List.Mem.tail _ (List.Mem.tail _ (List.Mem.tail _ (List.Mem.head _)))))
  have n5 : 0 ≤ 0 + (1 * γ 18596 + ((-1) * y + 0)) := hn _ (List.Mem.tail _ (List.Mem.tail _ (List.Mem.tail _ (List.Mem.tail _ (List.Mem.tail _ (List.Mem.head _))))))
  have n6 : 0 ≤ (-1) + (1 * γ 18598 + 0) := hn _ (List.Mem.tail _ (List.Mem.tail _ (List.Mem.tail _ (List.Mem.tail _ (List.Mem.tail _ (List.Mem.tail _ (List.Mem.head _)))))))
  have n7 : 0 ≤ (-2) + (1 * γ 18623 + 0) := hn _ (List.Mem.tail _ (List.Mem.tail _ (List.Mem.tail _ (List.Mem.tail _ (List.Mem.tail _ (List.Mem.tail _ (List.Mem.tail _ (List.Mem.head _))))))))
  clear hn
  obtain ⟨g0, g1, g2, g3, g4, g5, g6, g7, g8, g9, g10, g11, g12, g13, g14, g15, g16, g17, g18, g19, g20, g21, g22, g23, g24, g25, g26, g27, g28, g29, g30, g31, g32, g33, g34, g35, g36⟩ := id hG
  have r_BD1 := sx_gr_BD1 hR
  have r_KN := sx_gr_KN hR
  have r_PG := sx_gr_PG hR
  have r_QM := sx_gr_QM hR
  have r_RX := sx_gr_RX hR
  have r_XB1 := sx_gr_XB1 hR
  have r_pg1 := sx_gr_pg1 hR
  have hQ : γ 18595 = 1 := by omega
  obtain ⟨a1, a2, a3⟩ := g11 hQ
  have ex : x = γ 18545 := by omega
  have ey : y = γ 18596 := by omega
  obtain ⟨s1, s2, s3, s4⟩ := g33 hQ
  by_cases h : γ 18614 = 0
  · have h1 := a2.mp h
    exact sx_q_a_bd1_1 hG (by omega) (by rw [ex, ey, h1]; omega)
  · have hR0 := s2 1 (by decide) (by omega) (fun hk => (by
      rcases hk with hk | ⟨-, hk⟩
      · have hk : γ 18598 = 0 := hk
        omega
      · exact h hk))
    have hne : (γ 18545).toNat &&& (γ 18596).toNat ≠ (γ 18545).toNat := fun q => h (a2.mpr q)
    have hle : (γ 18545).toNat &&& (γ 18596).toNat ≤ (γ 18545).toNat := Nat.and_le_left
    exact sx_q_a_bd1_0 hG ((((γ 18545).toNat &&& (γ 18596).toNat : Nat) : Int)) (⟨by omega, by omega⟩) (by omega) (by omega) (by omega) (by rw [ex, ey]; omega)
theorem sx_p_a_bd2 : sx_okn sx_HH sx_r_a_bd2 := by
  intro γ A x y hG hR hx0 hx1 hy0 hy1 hn
  have n0 : 0 ≤ (-1) + (1 * γ 18595 + 0) := hn _ (List.Mem.head _)
  have n1 : 0 ≤ 1 + ((-1) * γ 18595 + 0) := hn _ (List.Mem.tail _ (List.Mem.head _))
  have n2 : 0 ≤ 0 + ((-1) * γ 18546 + (1 * x + 0)) := hn _ (List.Mem.tail _ (List.Mem.tail _ (List.Mem.head _)))
  have n3 : 0 ≤ 0 + (1 * γ 18546 + ((-1) * x + 0)) := hn _ (List.Mem.tail _ (List.Mem.tail _ (List.Mem.tail _ (List.Mem.head _))))
  have n4 : 0 ≤ 0 + ((-1) * γ 18596 + (1 * y + 0)) := hn _ (List.Mem.tail _ (List.Mem.tail _ (List.Mem.tail _ (List.Mem.tail _ (List.Mem.head _)))))
  have n5 : 0 ≤ 0 + (1 * γ 18596 + ((-1) * y + 0)) := hn _ (List.Mem.tail _ (List.Mem.tail _ (List.Mem.tail _ (List.Mem.tail _ (List.Mem.tail _ (List.Mem.head _))))))
  have n6 : 0 ≤ (-1) + (1 * γ 18599 + 0) := hn _ (List.Mem.tail _ (List.Mem.tail _ (List.Mem.tail _ (List.Mem.tail _ (List.Mem.tail _ (List.Mem.tail _ (List.Mem.head _)))))))
  have n7 : 0 ≤ (-3) + (1 * γ 18623 + 0) := hn _ (List.Mem.tail _ (List.Mem.tail _ (List.Mem.tail _ (List.Mem.tail _ (List.Mem.tail _ (List.Mem.tail _ (List.Mem.tail _ (List.Mem.head _))))))))
  clear hn
  obtain ⟨g0, g1, g2, g3, g4, g5, g6, g7, g8, g9, g10, g11, g12, g13, g14, g15, g16, g17, g18, g19, g20, g21, g22, g23, g24, g25, g26, g27, g28, g29, g30, g31, g32, g33, g34, g35, g36⟩ := id hG
  have r_BD2 := sx_gr_BD2 hR
  have r_KN := sx_gr_KN hR
  have r_PG := sx_gr_PG hR
  have r_QM := sx_gr_QM hR
  have r_RX := sx_gr_RX hR
  have r_XB2 := sx_gr_XB2 hR
  have r_pg2 := sx_gr_pg2 hR
  have hQ : γ 18595 = 1 := by omega
  obtain ⟨a1, a2, a3⟩ := g12 hQ
  have ex : x = γ 18546 := by omega
  have ey : y = γ 18596 := by omega
  obtain ⟨s1, s2, s3, s4⟩ := g33 hQ
  by_cases h : γ 18615 = 0
  · have h1 := a2.mp h
    exact sx_q_a_bd2_1 hG (by omega) (by rw [ex, ey, h1]; omega)
  · have hR0 := s2 2 (by decide) (by omega) (fun hk => (by
      rcases hk with hk | ⟨-, hk⟩
      · have hk : γ 18599 = 0 := hk
        omega
      · exact h hk))
    have hne : (γ 18546).toNat &&& (γ 18596).toNat ≠ (γ 18546).toNat := fun q => h (a2.mpr q)
    have hle : (γ 18546).toNat &&& (γ 18596).toNat ≤ (γ 18546).toNat := Nat.and_le_left
    exact sx_q_a_bd2_0 hG ((((γ 18546).toNat &&& (γ 18596).toNat : Nat) : Int)) (⟨by omega, by omega⟩) (by omega) (by omega) (by omega) (by rw [ex, ey]; omega)
theorem sx_p_a_bd3 : sx_okn sx_HH sx_r_a_bd3 := by
  intro γ A x y hG hR hx0 hx1 hy0 hy1 hn
  have n0 : 0 ≤ (-1) + (1 * γ 18595 + 0) := hn _ (List.Mem.head _)
  have n1 : 0 ≤ 1 + ((-1) * γ 18595 + 0) := hn _ (List.Mem.tail _ (List.Mem.head _))
  have n2 : 0 ≤ 0 + ((-1) * γ 18547 + (1 * x + 0)) := hn _ (List.Mem.tail _ (List.Mem.tail _ (List.Mem.head _)))
  have n3 : 0 ≤ 0 + (1 * γ 18547 + ((-1) * x + 0)) := hn _ (List.Mem.tail _ (List.Mem.tail _ (List.Mem.tail _ (List.Mem.head _))))
  have n4 : 0 ≤ 0 + ((-1) * γ 18596 + (1 * y + 0)) := hn _ (List.Mem.tail _ (List.Mem.tail _ (List.Mem.tail _ (List.Mem.tail _ (List.Mem.head _)))))
  have n5 : 0 ≤ 0 + (1 * γ 18596 + ((-1) * y + 0)) := hn _ (List.Mem.tail _ (List.Mem.tail _ (List.Mem.tail _ (List.Mem.tail _ (List.Mem.tail _ (List.Mem.head _))))))
  have n6 : 0 ≤ (-1) + (1 * γ 18600 + 0) := hn _ (List.Mem.tail _ (List.Mem.tail _ (List.Mem.tail _ (List.Mem.tail _ (List.Mem.tail _ (List.Mem.tail _ (List.Mem.head _)))))))
  have n7 : 0 ≤ (-4) + (1 * γ 18623 + 0) := hn _ (List.Mem.tail _ (List.Mem.tail _ (List.Mem.tail _ (List.Mem.tail _ (List.Mem.tail _ (List.Mem.tail _ (List.Mem.tail _ (List.Mem.head _))))))))
  clear hn
  obtain ⟨g0, g1, g2, g3, g4, g5, g6, g7, g8, g9, g10, g11, g12, g13, g14, g15, g16, g17, g18, g19, g20, g21, g22, g23, g24, g25, g26, g27, g28, g29, g30, g31, g32, g33, g34, g35, g36⟩ := id hG
  have r_BD3 := sx_gr_BD3 hR
  have r_KN := sx_gr_KN hR
  have r_PG := sx_gr_PG hR
  have r_QM := sx_gr_QM hR
  have r_RX := sx_gr_RX hR
  have r_XB3 := sx_gr_XB3 hR
  have r_pg3 := sx_gr_pg3 hR
  have hQ : γ 18595 = 1 := by omega
  obtain ⟨a1, a2, a3⟩ := g13 hQ
  have ex : x = γ 18547 := by omega
  have ey : y = γ 18596 := by omega
  obtain ⟨s1, s2, s3, s4⟩ := g33 hQ
  by_cases h : γ 18616 = 0
  · have h1 := a2.mp h
    exact sx_q_a_bd3_1 hG (by omega) (by rw [ex, ey, h1]; omega)
  · have hR0 := s2 3 (by decide) (by omega) (fun hk => (by
      rcases hk with hk | ⟨-, hk⟩
      · have hk : γ 18600 = 0 := hk
        omega
      · exact h hk))
    have hne : (γ 18547).toNat &&& (γ 18596).toNat ≠ (γ 18547).toNat := fun q => h (a2.mpr q)
    have hle : (γ 18547).toNat &&& (γ 18596).toNat ≤ (γ 18547).toNat := Nat.and_le_left
    exact sx_q_a_bd3_0 hG ((((γ 18547).toNat &&& (γ 18596).toNat : Nat) : Int)) (⟨by omega, by omega⟩) (by omega) (by omega) (by omega) (by rw [ex, ey]; omega)
theorem sx_p_a_bd4 : sx_okn sx_HH sx_r_a_bd4 := by
  intro γ A x y hG hR hx0 hx1 hy0 hy1 hn
  have n0 : 0 ≤ (-1) + (1 * γ 18595 + 0) := hn _ (List.Mem.head _)
  have n1 : 0 ≤ 1 + ((-1) * γ 18595 + 0) := hn _ (List.Mem.tail _ (List.Mem.head _))
  have n2 : 0 ≤ 0 + ((-1) * γ 18548 + (1 * x + 0)) := hn _ (List.Mem.tail _ (List.Mem.tail _ (List.Mem.head _)))
  have n3 : 0 ≤ 0 + (1 * γ 18548 + ((-1) * x + 0)) := hn _ (List.Mem.tail _ (List.Mem.tail _ (List.Mem.tail _ (List.Mem.head _))))
  have n4 : 0 ≤ 0 + ((-1) * γ 18596 + (1 * y + 0)) := hn _ (List.Mem.tail _ (List.Mem.tail _ (List.Mem.tail _ (List.Mem.tail _ (List.Mem.head _)))))
  have n5 : 0 ≤ 0 + (1 * γ 18596 + ((-1) * y + 0)) := hn _ (List.Mem.tail _ (List.Mem.tail _ (List.Mem.tail _ (List.Mem.tail _ (List.Mem.tail _ (List.Mem.head _))))))
  have n6 : 0 ≤ (-1) + (1 * γ 18601 + 0) := hn _ (List.Mem.tail _ (List.Mem.tail _ (List.Mem.tail _ (List.Mem.tail _ (List.Mem.tail _ (List.Mem.tail _ (List.Mem.head _)))))))
  have n7 : 0 ≤ (-5) + (1 * γ 18623 + 0) := hn _ (List.Mem.tail _ (List.Mem.tail _ (List.Mem.tail _ (List.Mem.tail _ (List.Mem.tail _ (List.Mem.tail _ (List.Mem.tail _ (List.Mem.head _))))))))
  clear hn
  obtain ⟨g0, g1, g2, g3, g4, g5, g6, g7, g8, g9, g10, g11, g12, g13, g14, g15, g16, g17, g18, g19, g20, g21, g22, g23, g24, g25, g26, g27, g28, g29, g30, g31, g32, g33, g34, g35, g36⟩ := id hG
  have r_BD4 := sx_gr_BD4 hR
  have r_KN := sx_gr_KN hR
  have r_PG := sx_gr_PG hR
  have r_QM := sx_gr_QM hR
  have r_RX := sx_gr_RX hR
  have r_XB4 := sx_gr_XB4 hR
  have r_pg4 := sx_gr_pg4 hR
  have hQ : γ 18595 = 1 := by omega
  obtain ⟨a1, a2, a3⟩ := g14 hQ
  have ex : x = γ 18548 := by omega
  have ey : y = γ 18596 := by omega
  obtain ⟨s1, s2, s3, s4⟩ := g33 hQ
  by_cases h : γ 18617 = 0
  · have h1 := a2.mp h
    exact sx_q_a_bd4_1 hG (by omega) (by rw [ex, ey, h1]; omega)
  · have hR0 := s2 4 (by decide) (by omega) (fun hk => (by
      rcases hk with hk | ⟨-, hk⟩
      · have hk : γ 18601 = 0 := hk
        omega
      · exact h hk))
    have hne : (γ 18548).toNat &&& (γ 18596).toNat ≠ (γ 18548).toNat := fun q => h (a2.mpr q)
    have hle : (γ 18548).toNat &&& (γ 18596).toNat ≤ (γ 18548).toNat := Nat.and_le_left
    exact sx_q_a_bd4_0 hG ((((γ 18548).toNat &&& (γ 18596).toNat : Nat) : Int)) (⟨by omega, by omega⟩) (by omega) (by omega) (by omega) (by rw [ex, ey]; omega)
theorem sx_p_a_bd5 : sx_okn sx_HH sx_r_a_bd5 := by
  intro γ A x y hG hR hx0 hx1 hy0 hy1 hn
  have n0 : 0 ≤ (-1) + (1 * γ 18595 + 0) := hn _ (List.Mem.head _)
  have n1 : 0 ≤ 1 + ((-1) * γ 18595 + 0) := hn _ (List.Mem.tail _ (List.Mem.head _))
  have n2 : 0 ≤ 0 + ((-1) * γ 18549 + (1 * x + 0)) := hn _ (List.Mem.tail _ (List.Mem.tail _ (List.Mem.head _)))
  have n3 : 0 ≤ 0 + (1 * γ 18549 + ((-1) * x + 0)) := hn _ (List.Mem.tail _ (List.Mem.tail _ (List.Mem.tail _ (List.Mem.head _))))
  have n4 : 0 ≤ 0 + ((-1) * γ 18596 + (1 * y + 0)) := hn _ (List.Mem.tail _ (List.Mem.tail _ (List.Mem.tail _ (List.Mem.tail _ (List.Mem.head _)))))
  have n5 : 0 ≤ 0 + (1 * γ 18596 + ((-1) * y + 0)) := hn _ (List.Mem.tail _ (List.Mem.tail _ (List.Mem.tail _ (List.Mem.tail _ (List.Mem.tail _ (List.Mem.head _))))))
  have n6 : 0 ≤ (-1) + (1 * γ 18602 + 0) := hn _ (List.Mem.tail _ (List.Mem.tail _ (List.Mem.tail _ (List.Mem.tail _ (List.Mem.tail _ (List.Mem.tail _ (List.Mem.head _)))))))
  have n7 : 0 ≤ (-6) + (1 * γ 18623 + 0) := hn _ (List.Mem.tail _ (List.Mem.tail _ (List.Mem.tail _ (List.Mem.tail _ (List.Mem.tail _ (List.Mem.tail _ (List.Mem.tail _ (List.Mem.head _))))))))
  clear hn
  obtain ⟨g0, g1, g2, g3, g4, g5, g6, g7, g8, g9, g10, g11, g12, g13, g14, g15, g16, g17, g18, g19, g20, g21, g22, g23, g24, g25, g26, g27, g28, g29, g30, g31, g32, g33, g34, g35, g36⟩ := id hG
  have r_BD5 := sx_gr_BD5 hR
  have r_KN := sx_gr_KN hR
  have r_PG := sx_gr_PG hR
  have r_QM := sx_gr_QM hR
  have r_RX := sx_gr_RX hR
  have r_XB5 := sx_gr_XB5 hR
  have r_pg5 := sx_gr_pg5 hR
  have hQ : γ 18595 = 1 := by omega
  obtain ⟨a1, a2, a3⟩ := g15 hQ
  have ex : x = γ 18549 := by omega
  have ey : y = γ 18596 := by omega
  obtain ⟨s1, s2, s3, s4⟩ := g33 hQ
  by_cases h : γ 18618 = 0
  · have h1 := a2.mp h
    exact sx_q_a_bd5_1 hG (by omega) (by rw [ex, ey, h1]; omega)
  · have hR0 := s2 5 (by decide) (by omega) (fun hk => (by
      rcases hk with hk | ⟨-, hk⟩
      · have hk : γ 18602 = 0 := hk
        omega
      · exact h hk))
    have hne : (γ 18549).toNat &&& (γ 18596).toNat ≠ (γ 18549).toNat := fun q => h (a2.mpr q)
    have hle : (γ 18549).toNat &&& (γ 18596).toNat ≤ (γ 18549).toNat := Nat.and_le_left
    exact sx_q_a_bd5_0 hG ((((γ 18549).toNat &&& (γ 18596).toNat : Nat) : Int)) (⟨by omega, by omega⟩) (by omega) (by omega) (by omega) (by rw [ex, ey]; omega)
theorem sx_p_a_bd6 : sx_okn sx_HH sx_r_a_bd6 := by
  intro γ A x y hG hR hx0 hx1 hy0 hy1 hn
  have n0 : 0 ≤ (-1) + (1 * γ 18595 + 0) := hn _ (List.Mem.head _)
  have n1 : 0 ≤ 1 + ((-1) * γ 18595 + 0) := hn _ (List.Mem.tail _ (List.Mem.head _))
  have n2 : 0 ≤ 0 + ((-1) * γ 18550 + (1 * x + 0)) := hn _ (List.Mem.tail _ (List.Mem.tail _ (List.Mem.head _)))
  have n3 : 0 ≤ 0 + (1 * γ 18550 + ((-1) * x + 0)) := hn _ (List.Mem.tail _ (List.Mem.tail _ (List.Mem.tail _ (List.Mem.head _))))
  have n4 : 0 ≤ 0 + ((-1) * γ 18596 + (1 * y + 0)) := hn _ (List.Mem.tail _ (List.Mem.tail _ (List.Mem.tail _ (List.Mem.tail _ (List.Mem.head _)))))
  have n5 : 0 ≤ 0 + (1 * γ 18596 + ((-1) * y + 0)) := hn _ (List.Mem.tail _ (List.Mem.tail _ (List.Mem.tail _ (List.Mem.tail _ (List.Mem.tail _ (List.Mem.head _))))))
  have n6 : 0 ≤ (-1) + (1 * γ 18603 + 0) := hn _ (List.Mem.tail _ (List.Mem.tail _ (List.Mem.tail _ (List.Mem.tail _ (List.Mem.tail _ (List.Mem.tail _ (List.Mem.head _)))))))
  have n7 : 0 ≤ (-7) + (1 * γ 18623 + 0) := hn _ (List.Mem.tail _ (List.Mem.tail _ (List.Mem.tail _ (List.Mem.tail _ (List.Mem.tail _ (List.Mem.tail _ (List.Mem.tail _ (List.Mem.head _))))))))
  clear hn
  obtain ⟨g0, g1, g2, g3, g4, g5, g6, g7, g8, g9, g10, g11, g12, g13, g14, g15, g16, g17, g18, g19, g20, g21, g22, g23, g24, g25, g26, g27, g28, g29, g30, g31, g32, g33, g34, g35, g36⟩ := id hG
  have r_BD6 := sx_gr_BD6 hR
  have r_KN := sx_gr_KN hR
  have r_PG := sx_gr_PG hR
  have r_QM := sx_gr_QM hR
  have r_RX := sx_gr_RX hR
  have r_XB6 := sx_gr_XB6 hR
  have r_pg6 := sx_gr_pg6 hR
  have hQ : γ 18595 = 1 := by omega
  obtain ⟨a1, a2, a3⟩ := g16 hQ
  have ex : x = γ 18550 := by omega
  have ey : y = γ 18596 := by omega
  obtain ⟨s1, s2, s3, s4⟩ := g33 hQ
  by_cases h : γ 18619 = 0
  · have h1 := a2.mp h
    exact sx_q_a_bd6_1 hG (by omega) (by rw [ex, ey, h1]; omega)
  · have hR0 := s2 6 (by decide) (by omega) (fun hk => (by
      rcases hk with hk | ⟨-, hk⟩
      · have hk : γ 18603 = 0 := hk
        omega
      · exact h hk))
    have hne : (γ 18550).toNat &&& (γ 18596).toNat ≠ (γ 18550).toNat := fun q => h (a2.mpr q)
    have hle : (γ 18550).toNat &&& (γ 18596).toNat ≤ (γ 18550).toNat := Nat.and_le_left
    exact sx_q_a_bd6_0 hG ((((γ 18550).toNat &&& (γ 18596).toNat : Nat) : Int)) (⟨by omega, by omega⟩) (by omega) (by omega) (by omega) (by rw [ex, ey]; omega)
theorem sx_p_a_bd7 : sx_okn sx_HH sx_r_a_bd7 := by
  intro γ A x y hG hR hx0 hx1 hy0 hy1 hn
  have n0 : 0 ≤ (-1) + (1 * γ 18595 + 0) := hn _ (List.Mem.head _)
  have n1 : 0 ≤ 1 + ((-1) * γ 18595 + 0) := hn _ (List.Mem.tail _ (List.Mem.head _))
  have n2 : 0 ≤ 0 + ((-1) * γ 18551 + (1 * x + 0)) := hn _ (List.Mem.tail _ (List.Mem.tail _ (List.Mem.head _)))
  have n3 : 0 ≤ 0 + (1 * γ 18551 + ((-1) * x + 0)) := hn _ (List.Mem.tail _ (List.Mem.tail _ (List.Mem.tail _ (List.Mem.head _))))
  have n4 : 0 ≤ 0 + ((-1) * γ 18596 + (1 * y + 0)) := hn _ (List.Mem.tail _ (List.Mem.tail _ (List.Mem.tail _ (List.Mem.tail _ (List.Mem.head _)))))
  have n5 : 0 ≤ 0 + (1 * γ 18596 + ((-1) * y + 0)) := hn _ (List.Mem.tail _ (List.Mem.tail _ (List.Mem.tail _ (List.Mem.tail _ (List.Mem.tail _ (List.Mem.head _))))))
  have n6 : 0 ≤ (-1) + (1 * γ 18604 + 0) := hn _ (List.Mem.tail _ (List.Mem.tail _ (List.Mem.tail _ (List.Mem.tail _ (List.Mem.tail _ (List.Mem.tail _ (List.Mem.head _)))))))
  have n7 : 0 ≤ (-8) + (1 * γ 18623 + 0) := hn _ (List.Mem.tail _ (List.Mem.tail _ (List.Mem.tail _ (List.Mem.tail _ (List.Mem.tail _ (List.Mem.tail _ (List.Mem.tail _ (List.Mem.head _))))))))
  clear hn
  obtain ⟨g0, g1, g2, g3, g4, g5, g6, g7, g8, g9, g10, g11, g12, g13, g14, g15, g16, g17, g18, g19, g20, g21, g22, g23, g24, g25, g26, g27, g28, g29, g30, g31, g32, g33, g34, g35, g36⟩ := id hG
  have r_BD7 := sx_gr_BD7 hR
  have r_KN := sx_gr_KN hR
  have r_PG := sx_gr_PG hR
  have r_QM := sx_gr_QM hR
  have r_RX := sx_gr_RX hR
  have r_XB7 := sx_gr_XB7 hR
  have r_pg7 := sx_gr_pg7 hR
  have hQ : γ 18595 = 1 := by omega
  obtain ⟨a1, a2, a3⟩ := g17 hQ
  have ex : x = γ 18551 := by omega
  have ey : y = γ 18596 := by omega
  obtain ⟨s1, s2, s3, s4⟩ := g33 hQ
  by_cases h : γ 18620 = 0
  · have h1 := a2.mp h
    exact sx_q_a_bd7_1 hG (by omega) (by rw [ex, ey, h1]; omega)
  · have hR0 := s2 7 (by decide) (by omega) (fun hk => (by
      rcases hk with hk | ⟨-, hk⟩
      · have hk : γ 18604 = 0 := hk
        omega
      · exact h hk))
    have hne : (γ 18551).toNat &&& (γ 18596).toNat ≠ (γ 18551).toNat := fun q => h (a2.mpr q)
    have hle : (γ 18551).toNat &&& (γ 18596).toNat ≤ (γ 18551).toNat := Nat.and_le_left
    exact sx_q_a_bd7_0 hG ((((γ 18551).toNat &&& (γ 18596).toNat : Nat) : Int)) (⟨by omega, by omega⟩) (by omega) (by omega) (by omega) (by rw [ex, ey]; omega)
theorem sx_p_a_wv : sx_okn sx_HH sx_r_a_wv := by
  intro γ A x y hG hR hx0 hx1 hy0 hy1 hn
  have n0 : 0 ≤ (-1) + (1 * γ 18595 + 0) := hn _ (List.Mem.head _)
  have n1 : 0 ≤ 1 + ((-1) * γ 18595 + 0) := hn _ (List.Mem.tail _ (List.Mem.head _))
  have n2 : 0 ≤ 0 + ((-1) * γ 18596 + (1 * x + 0)) := hn _ (List.Mem.tail _ (List.Mem.tail _ (List.Mem.head _)))
  have n3 : 0 ≤ 0 + (1 * γ 18596 + ((-1) * x + 0)) := hn _ (List.Mem.tail _ (List.Mem.tail _ (List.Mem.tail _ (List.Mem.head _))))
  have n4 : 0 ≤ 0 + ((-1) * γ 18624 + (1 * y + 0)) := hn _ (List.Mem.tail _ (List.Mem.tail _ (List.Mem.tail _ (List.Mem.tail _ (List.Mem.head _)))))
  have n5 : 0 ≤ 0 + (1 * γ 18624 + ((-1) * y + 0)) := hn _ (List.Mem.tail _ (List.Mem.tail _ (List.Mem.tail _ (List.Mem.tail _ (List.Mem.tail _ (List.Mem.head _))))))
  have n6 : 0 ≤ 0 + (1 * γ 18624 + ((-1) * x + 0)) := hn _ (List.Mem.tail _ (List.Mem.tail _ (List.Mem.tail _ (List.Mem.tail _ (List.Mem.tail _ (List.Mem.tail _ (List.Mem.head _)))))))
  clear hn
  obtain ⟨g0, g1, g2, g3, g4, g5, g6, g7, g8, g9, g10, g11, g12, g13, g14, g15, g16, g17, g18, g19, g20, g21, g22, g23, g24, g25, g26, g27, g28, g29, g30, g31, g32, g33, g34, g35, g36⟩ := id hG
  have r_PG := sx_gr_PG hR
  have r_QM := sx_gr_QM hR
  have r_WV := sx_gr_WV hR
  have hQ : γ 18595 = 1 := by omega
  have h1 := sy_and_w (g18 hQ) (P := x) (by omega) (by omega)
  have ey : y = γ 18624 := by omega
  exact sx_q_a_wv_0 hG (by rw [ey, h1]; omega)
theorem sx_p_hn_hs : sx_okw 2147483647 sx_fand sx_HH sx_r_hn_hs := by
  intro γ A x y hG hR hx0 hx1 hy0 hy1 hn
  have n0 : 0 ≤ (-1) + (1 * γ 18595 + 0) := hn _ (List.Mem.head _)
  have n1 : 0 ≤ 1 + ((-1) * γ 18595 + 0) := hn _ (List.Mem.tail _ (List.Mem.head _))
  have n2 : 0 ≤ 0 + ((-1) * γ 18628 + (1 * x + 0)) := hn _ (List.Mem.tail _ (List.Mem.tail _ (List.Mem.head _)))
  have n3 : 0 ≤ 0 + (1 * γ 18628 + ((-1) * x + 0)) := hn _ (List.Mem.tail _ (List.Mem.tail _ (List.Mem.tail _ (List.Mem.head _))))
  have n4 : 0 ≤ (-1) + (1 * y + 0) := hn _ (List.Mem.tail _ (List.Mem.tail _ (List.Mem.tail _ (List.Mem.tail _ (List.Mem.head _)))))
  have n5 : 0 ≤ 1 + ((-1) * y + 0) := hn _ (List.Mem.tail _ (List.Mem.tail _ (List.Mem.tail _ (List.Mem.tail _ (List.Mem.tail _ (List.Mem.head _))))))
  clear hn
  obtain ⟨g0, g1, g2, g3, g4, g5, g6, g7, g8, g9, g10, g11, g12, g13, g14, g15, g16, g17, g18, g19, g20, g21, g22, g23, g24, g25, g26, g27, g28, g29, g30, g31, g32, g33, g34, g35, g36⟩ := id hG
  have r_HB := sx_gr_HB hR
  have r_HS := sx_gr_HS hR
  have r_QM := sx_gr_QM hR
  have hQ : γ 18595 = 1 := by omega
  have h1 : γ 18629 = γ 18628 % 2 := g7
  have h2 := sy_and1 hx0
  have ey : y = 1 := by omega
  have ex : x = γ 18628 := by omega
  exact sx_q_hn_hs_0 hG (by rw [ey, h2, ex]; omega)
theorem sx_p_hn_hi : sx_okw 2147483647 sx_fand sx_HH sx_r_hn_hi := by
  intro γ A x y hG hR hx0 hx1 hy0 hy1 hn
  have n0 : 0 ≤ (-1) + (1 * γ 18595 + 0) := hn _ (List.Mem.head _)
  have n1 : 0 ≤ 1 + ((-1) * γ 18595 + 0) := hn _ (List.Mem.tail _ (List.Mem.head _))
  have n2 : 0 ≤ 0 + ((-1) * γ 18628 + (1 * x + 0)) := hn _ (List.Mem.tail _ (List.Mem.tail _ (List.Mem.head _)))
  have n3 : 0 ≤ 0 + (1 * γ 18628 + ((-1) * x + 0)) := hn _ (List.Mem.tail _ (List.Mem.tail _ (List.Mem.tail _ (List.Mem.head _))))
  have n4 : 0 ≤ 0 + ((-1) * γ 18630 + (1 * y + 0)) := hn _ (List.Mem.tail _ (List.Mem.tail _ (List.Mem.tail _ (List.Mem.tail _ (List.Mem.head _)))))
  have n5 : 0 ≤ 0 + (1 * γ 18630 + ((-1) * y + 0)) := hn _ (List.Mem.tail _ (List.Mem.tail _ (List.Mem.tail _ (List.Mem.tail _ (List.Mem.tail _ (List.Mem.head _))))))
  have n6 : 0 ≤ (-1) + (1 * γ 18629 + 0) := hn _ (List.Mem.tail _ (List.Mem.tail _ (List.Mem.tail _ (List.Mem.tail _ (List.Mem.tail _ (List.Mem.tail _ (List.Mem.head _)))))))
  have n7 : 0 ≤ (-1) + (1 * γ 18631 + 0) := hn _ (List.Mem.tail _ (List.Mem.tail _ (List.Mem.tail _ (List.Mem.tail _ (List.Mem.tail _ (List.Mem.tail _ (List.Mem.tail _ (List.Mem.head _))))))))
  clear hn
  obtain ⟨g0, g1, g2, g3, g4, g5, g6, g7, g8, g9, g10, g11, g12, g13, g14, g15, g16, g17, g18, g19, g20, g21, g22, g23, g24, g25, g26, g27, g28, g29, g30, g31, g32, g33, g34, g35, g36⟩ := id hG
  have r_HB := sx_gr_HB hR
  have r_HS := sx_gr_HS hR
  have r_IB := sx_gr_IB hR
  have r_IS := sx_gr_IS hR
  have r_QM := sx_gr_QM hR
  have hQ : γ 18595 = 1 := by omega
  have h1 : γ 18629 = γ 18628 % 2 := g7
  have h2 : γ 18631 = γ 18630 % 2 := g8
  have h3 := sy_and_odd hx0 hy0 (by omega) (by omega)
  have hz := sy_and_r (x := x) (y := y) hx0
  exact sx_q_hn_hi_0 hG (sx_fand x y) (⟨by omega, by omega⟩) (by omega) (by unfold sy_par; omega)
theorem sx_p_hn_ap0 : sx_okw 2147483647 sx_fand sx_HH sx_r_hn_ap0 := by
  intro γ A x y hG hR hx0 hx1 hy0 hy1 hn
  have n0 : 0 ≤ (-1) + (1 * γ 18595 + 0) := hn _ (List.Mem.head _)
  have n1 : 0 ≤ 1 + ((-1) * γ 18595 + 0) := hn _ (List.Mem.tail _ (List.Mem.head _))
  have n2 : 0 ≤ 0 + ((-1) * γ 18536 + (1 * x + 0)) := hn _ (List.Mem.tail _ (List.Mem.tail _ (List.Mem.head _)))
  have n3 : 0 ≤ 0 + (1 * γ 18536 + ((-1) * x + 0)) := hn _ (List.Mem.tail _ (List.Mem.tail _ (List.Mem.tail _ (List.Mem.head _))))
  have n4 : 0 ≤ 0 + ((-1) * γ 18596 + (1 * y + 0)) := hn _ (List.Mem.tail _ (List.Mem.tail _ (List.Mem.tail _ (List.Mem.tail _ (List.Mem.head _)))))
  have n5 : 0 ≤ 0 + (1 * γ 18596 + ((-1) * y + 0)) := hn _ (List.Mem.tail _ (List.Mem.tail _ (List.Mem.tail _ (List.Mem.tail _ (List.Mem.tail _ (List.Mem.head _))))))
  have n6 : 0 ≤ (-1) + (1 * γ 18597 + 0) := hn _ (List.Mem.tail _ (List.Mem.tail _ (List.Mem.tail _ (List.Mem.tail _ (List.Mem.tail _ (List.Mem.tail _ (List.Mem.head _)))))))
  have n7 : 0 ≤ (-1) + (1 * γ 18623 + 0) := hn _ (List.Mem.tail _ (List.Mem.tail _ (List.Mem.tail _ (List.Mem.tail _ (List.Mem.tail _ (List.Mem.tail _ (List.Mem.tail _ (List.Mem.head _))))))))
  clear hn
  obtain ⟨g0, g1, g2, g3, g4, g5, g6, g7, g8, g9, g10, g11, g12, g13, g14, g15, g16, g17, g18, g19, g20, g21, g22, g23, g24, g25, g26, g27, g28, g29, g30, g31, g32, g33, g34, g35, g36⟩ := id hG
  have r_AP0 := sx_gr_AP0 hR
  have r_KN := sx_gr_KN hR
  have r_PG := sx_gr_PG hR
  have r_QM := sx_gr_QM hR
  have r_RX := sx_gr_RX hR
  have r_XA0 := sx_gr_XA0 hR
  have r_pg0 := sx_gr_pg0 hR
  have hQ : γ 18595 = 1 := by omega
  obtain ⟨a1, a2, a3⟩ := g10 hQ
  have ex : x = γ 18536 := by omega
  have ey : y = γ 18596 := by omega
  obtain ⟨s1, s2, s3, s4⟩ := g33 hQ
  by_cases h : γ 18605 = 0
  · have h1 := a1.mp h
    exact sx_q_hn_ap0_1 hG (by omega) (by unfold sx_fand; rw [ex, ey, h1] <;> rfl)
  · have hR0 := s2 0 (by decide) (by omega) (fun hk => (by
      rcases hk with hk | ⟨hk, -⟩
      · have hk : γ 18597 = 0 := hk
        omega
      · exact h hk))
    have hne : (γ 18536).toNat &&& (γ 18596).toNat ≠ 0 := fun q => h (a1.mpr q)
    have hz := sy_and_r (x := x) (y := y) hx0
    have hz1 : 1 ≤ sx_fand x y := by
      unfold sx_fand
      rw [ex, ey]
      omega
    exact sx_q_hn_ap0_0 hG (sx_fand x y) (⟨by omega, by omega⟩) (by omega) (by omega) (by omega) (by omega)
theorem sx_p_hn_ap1 : sx_okw 2147483647 sx_fand sx_HH sx_r_hn_ap1 := by
  intro γ A x y hG hR hx0 hx1 hy0 hy1 hn
  have n0 : 0 ≤ (-1) + (1 * γ 18595 + 0) := hn _ (List.Mem.head _)
  have n1 : 0 ≤ 1 + ((-1) * γ 18595 + 0) := hn _ (List.Mem.tail _ (List.Mem.head _))
  have n2 : 0 ≤ 0 + ((-1) * γ 18537 + (1 * x + 0)) := hn _ (List.Mem.tail _ (List.Mem.tail _ (List.Mem.head _)))
  have n3 : 0 ≤ 0 + (1 * γ 18537 + ((-1) * x + 0)) := hn _ (List.Mem.tail _ (List.Mem.tail _ (List.Mem.tail _ (List.Mem.head _))))
  have n4 : 0 ≤ 0 + ((-1) * γ 18596 + (1 * y + 0)) := hn _ (List.Mem.tail _ (List.Mem.tail _ (List.Mem.tail _ (List.Mem.tail _ (List.Mem.head _)))))
  have n5 : 0 ≤ 0 + (1 * γ 18596 + ((-1) * y + 0)) := hn _ (List.Mem.tail _ (List.Mem.tail _ (List.Mem.tail _ (List.Mem.tail _ (List.Mem.tail _ (List.Mem.head _))))))
  have n6 : 0 ≤ (-1) + (1 * γ 18598 + 0) := hn _ (List.Mem.tail _ (List.Mem.tail _ (List.Mem.tail _ (List.Mem.tail _ (List.Mem.tail _ (List.Mem.tail _ (List.Mem.head _)))))))
  have n7 : 0 ≤ (-2) + (1 * γ 18623 + 0) := hn _ (List.Mem.tail _ (List.Mem.tail _ (List.Mem.tail _ (List.Mem.tail _ (List.Mem.tail _ (List.Mem.tail _ (List.Mem.tail _ (List.Mem.head _))))))))
  clear hn
  obtain ⟨g0, g1, g2, g3, g4, g5, g6, g7, g8, g9, g10, g11, g12, g13, g14, g15, g16, g17, g18, g19, g20, g21, g22, g23, g24, g25, g26, g27, g28, g29, g30, g31, g32, g33, g34, g35, g36⟩ := id hG
  have r_AP1 := sx_gr_AP1 hR
  have r_KN := sx_gr_KN hR
  have r_PG := sx_gr_PG hR
  have r_QM := sx_gr_QM hR
  have r_RX := sx_gr_RX hR
  have r_XA1 := sx_gr_XA1 hR
  have r_pg1 := sx_gr_pg1 hR
  have hQ : γ 18595 = 1 := by omega
  obtain ⟨a1, a2, a3⟩ := g11 hQ
  have ex : x = γ 18537 := by omega
  have ey : y = γ 18596 := by omega
  obtain ⟨s1, s2, s3, s4⟩ := g33 hQ
  by_cases h : γ 18606 = 0
  · have h1 := a1.mp h
    exact sx_q_hn_ap1_1 hG (by omega) (by unfold sx_fand; rw [ex, ey, h1] <;> rfl)
  · have hR0 := s2 1 (by decide) (by omega) (fun hk => (by
      rcases hk with hk | ⟨hk, -⟩
      · have hk : γ 18598 = 0 := hk
        omega
      · exact h hk))
    have hne : (γ 18537).toNat &&& (γ 18596).toNat ≠ 0 := fun q => h (a1.mpr q)
    have hz := sy_and_r (x := x) (y := y) hx0
    have hz1 : 1 ≤ sx_fand x y := by
      unfold sx_fand
      rw [ex, ey]
      omega
    exact sx_q_hn_ap1_0 hG (sx_fand x y) (⟨by omega, by omega⟩) (by omega) (by omega) (by omega) (by omega)
theorem sx_p_hn_ap2 : sx_okw 2147483647 sx_fand sx_HH sx_r_hn_ap2 := by
  intro γ A x y hG hR hx0 hx1 hy0 hy1 hn
  have n0 : 0 ≤ (-1) + (1 * γ 18595 + 0) := hn _ (List.Mem.head _)
  have n1 : 0 ≤ 1 + ((-1) * γ 18595 + 0) := hn _ (List.Mem.tail _ (List.Mem.head _))
  have n2 : 0 ≤ 0 + ((-1) * γ 18538 + (1 * x + 0)) := hn _ (List.Mem.tail _ (List.Mem.tail _ (List.Mem.head _)))
  have n3 : 0 ≤ 0 + (1 * γ 18538 + ((-1) * x + 0)) := hn _ (List.Mem.tail _ (List.Mem.tail _ (List.Mem.tail _ (List.Mem.head _))))
  have n4 : 0 ≤ 0 + ((-1) * γ 18596 + (1 * y + 0)) := hn _ (List.Mem.tail _ (List.Mem.tail _ (List.Mem.tail _ (List.Mem.tail _ (List.Mem.head _)))))
  have n5 : 0 ≤ 0 + (1 * γ 18596 + ((-1) * y + 0)) := hn _ (List.Mem.tail _ (List.Mem.tail _ (List.Mem.tail _ (List.Mem.tail _ (List.Mem.tail _ (List.Mem.head _))))))
  have n6 : 0 ≤ (-1) + (1 * γ 18599 + 0) := hn _ (List.Mem.tail _ (List.Mem.tail _ (List.Mem.tail _ (List.Mem.tail _ (List.Mem.tail _ (List.Mem.tail _ (List.Mem.head _)))))))
  have n7 : 0 ≤ (-3) + (1 * γ 18623 + 0) := hn _ (List.Mem.tail _ (List.Mem.tail _ (List.Mem.tail _ (List.Mem.tail _ (List.Mem.tail _ (List.Mem.tail _ (List.Mem.tail _ (List.Mem.head _))))))))
  clear hn
  obtain ⟨g0, g1, g2, g3, g4, g5, g6, g7, g8, g9, g10, g11, g12, g13, g14, g15, g16, g17, g18, g19, g20, g21, g22, g23, g24, g25, g26, g27, g28, g29, g30, g31, g32, g33, g34, g35, g36⟩ := id hG
  have r_AP2 := sx_gr_AP2 hR
  have r_KN := sx_gr_KN hR
  have r_PG := sx_gr_PG hR
  have r_QM := sx_gr_QM hR
  have r_RX := sx_gr_RX hR
  have r_XA2 := sx_gr_XA2 hR
  have r_pg2 := sx_gr_pg2 hR
  have hQ : γ 18595 = 1 := by omega
  obtain ⟨a1, a2, a3⟩ := g12 hQ
  have ex : x = γ 18538 := by omega
  have ey : y = γ 18596 := by omega
  obtain ⟨s1, s2, s3, s4⟩ := g33 hQ
  by_cases h : γ 18607 = 0
  · have h1 := a1.mp h
    exact sx_q_hn_ap2_1 hG (by omega) (by unfold sx_fand; rw [ex, ey, h1] <;> rfl)
  · have hR0 := s2 2 (by decide) (by omega) (fun hk => (by
      rcases hk with hk | ⟨hk, -⟩
      · have hk : γ 18599 = 0 := hk
        omega
      · exact h hk))
    have hne : (γ 18538).toNat &&& (γ 18596).toNat ≠ 0 := fun q => h (a1.mpr q)
    have hz := sy_and_r (x := x) (y := y) hx0
    have hz1 : 1 ≤ sx_fand x y := by
      unfold sx_fand
      rw [ex, ey]
      omega
    exact sx_q_hn_ap2_0 hG (sx_fand x y) (⟨by omega, by omega⟩) (by omega) (by omega) (by omega) (by omega)
theorem sx_p_hn_ap3 : sx_okw 2147483647 sx_fand sx_HH sx_r_hn_ap3 := by
  intro γ A x y hG hR hx0 hx1 hy0 hy1 hn
  have n0 : 0 ≤ (-1) + (1 * γ 18595 + 0) := hn _ (List.Mem.head _)
  have n1 : 0 ≤ 1 + ((-1) * γ 18595 + 0) := hn _ (List.Mem.tail _ (List.Mem.head _))
  have n2 : 0 ≤ 0 + ((-1) * γ 18539 + (1 * x + 0)) := hn _ (List.Mem.tail _ (List.Mem.tail _ (List.Mem.head _)))
  have n3 : 0 ≤ 0 + (1 * γ 18539 + ((-1) * x + 0)) := hn _ (List.Mem.tail _ (List.Mem.tail _ (List.Mem.tail _ (List.Mem.head _))))
  have n4 : 0 ≤ 0 + ((-1) * γ 18596 + (1 * y + 0)) := hn _ (List.Mem.tail _ (List.Mem.tail _ (List.Mem.tail _ (List.Mem.tail _ (List.Mem.head _)))))
  have n5 : 0 ≤ 0 + (1 * γ 18596 + ((-1) * y + 0)) := hn _ (List.Mem.tail _ (List.Mem.tail _ (List.Mem.tail _ (List.Mem.tail _ (List.Mem.tail _ (List.Mem.head _))))))
  have n6 : 0 ≤ (-1) + (1 * γ 18600 + 0) := hn _ (List.Mem.tail _ (List.Mem.tail _ (List.Mem.tail _ (List.Mem.tail _ (List.Mem.tail _ (List.Mem.tail _ (List.Mem.head _)))))))
  have n7 : 0 ≤ (-4) + (1 * γ 18623 + 0) := hn _ (List.Mem.tail _ (List.Mem.tail _ (List.Mem.tail _ (List.Mem.tail _ (List.Mem.tail _ (List.Mem.tail _ (List.Mem.tail _ (List.Mem.head _))))))))
  clear hn
  obtain ⟨g0, g1, g2, g3, g4, g5, g6, g7, g8, g9, g10, g11, g12, g13, g14, g15, g16, g17, g18, g19, g20, g21, g22, g23, g24, g25, g26, g27, g28, g29, g30, g31, g32, g33, g34, g35, g36⟩ := id hG
  have r_AP3 := sx_gr_AP3 hR
  have r_KN := sx_gr_KN hR
  have r_PG := sx_gr_PG hR
  have r_QM := sx_gr_QM hR
  have r_RX := sx_gr_RX hR
  have r_XA3 := sx_gr_XA3 hR
  have r_pg3 := sx_gr_pg3 hR
  have hQ : γ 18595 = 1 := by omega
  obtain ⟨a1, a2, a3⟩ := g13 hQ
  have ex : x = γ 18539 := by omega
  have ey : y = γ 18596 := by omega
  obtain ⟨s1, s2, s3, s4⟩ := g33 hQ
  by_cases h : γ 18608 = 0
  · have h1 := a1.mp h
    exact sx_q_hn_ap3_1 hG (by omega) (by unfold sx_fand; rw [ex, ey, h1] <;> rfl)
  · have hR0 := s2 3 (by decide) (by omega) (fun hk => (by
      rcases hk with hk | ⟨hk, -⟩
      · have hk : γ 18600 = 0 := hk
        omega
      · exact h hk))
    have hne : (γ 18539).toNat &&& (γ 18596).toNat ≠ 0 := fun q => h (a1.mpr q)
    have hz := sy_and_r (x := x) (y := y) hx0
    have hz1 : 1 ≤ sx_fand x y := by
      unfold sx_fand
      rw [ex, ey]
      omega
    exact sx_q_hn_ap3_0 hG (sx_fand x y) (⟨by omega, by omega⟩) (by omega) (by omega) (by omega) (by omega)
theorem sx_p_hn_ap4 : sx_okw 2147483647 sx_fand sx_HH sx_r_hn_ap4 := by
  intro γ A x y hG hR hx0 hx1 hy0 hy1 hn
  have n0 : 0 ≤ (-1) + (1 * γ 18595 + 0) := hn _ (List.Mem.head _)
  have n1 : 0 ≤ 1 + ((-1) * γ 18595 + 0) := hn _ (List.Mem.tail _ (List.Mem.head _))
  have n2 : 0 ≤ 0 + ((-1) * γ 18540 + (1 * x + 0)) := hn _ (List.Mem.tail _ (List.Mem.tail _ (List.Mem.head _)))
  have n3 : 0 ≤ 0 + (1 * γ 18540 + ((-1) * x + 0)) := hn _ (List.Mem.tail _ (List.Mem.tail _ (List.Mem.tail _ (List.Mem.head _))))
  have n4 : 0 ≤ 0 + ((-1) * γ 18596 + (1 * y + 0)) := hn _ (List.Mem.tail _ (List.Mem.tail _ (List.Mem.tail _ (List.Mem.tail _ (List.Mem.head _)))))
  have n5 : 0 ≤ 0 + (1 * γ 18596 + ((-1) * y + 0)) := hn _ (List.Mem.tail _ (List.Mem.tail _ (List.Mem.tail _ (List.Mem.tail _ (List.Mem.tail _ (List.Mem.head _))))))
  have n6 : 0 ≤ (-1) + (1 * γ 18601 + 0) := hn _ (List.Mem.tail _ (List.Mem.tail _ (List.Mem.tail _ (List.Mem.tail _ (List.Mem.tail _ (List.Mem.tail _ (List.Mem.head _)))))))
  have n7 : 0 ≤ (-5) + (1 * γ 18623 + 0) := hn _ (List.Mem.tail _ (List.Mem.tail _ (List.Mem.tail _ (List.Mem.tail _ (List.Mem.tail _ (List.Mem.tail _ (List.Mem.tail _ (List.Mem.head _))))))))
  clear hn
  obtain ⟨g0, g1, g2, g3, g4, g5, g6, g7, g8, g9, g10, g11, g12, g13, g14, g15, g16, g17, g18, g19, g20, g21, g22, g23, g24, g25, g26, g27, g28, g29, g30, g31, g32, g33, g34, g35, g36⟩ := id hG
  have r_AP4 := sx_gr_AP4 hR
  have r_KN := sx_gr_KN hR
  have r_PG := sx_gr_PG hR
  have r_QM := sx_gr_QM hR
  have r_RX := sx_gr_RX hR
  have r_XA4 := sx_gr_XA4 hR
  have r_pg4 := sx_gr_pg4 hR
  have hQ : γ 18595 = 1 := by omega
  obtain ⟨a1, a2, a3⟩ := g14 hQ
  have ex : x = γ 18540 := by omega
  have ey : y = γ 18596 := by omega
  obtain ⟨s1, s2, s3, s4⟩ := g33 hQ
  by_cases h : γ 18609 = 0
  · have h1 := a1.mp h
    exact sx_q_hn_ap4_1 hG (by omega) (by unfold sx_fand; rw [ex, ey, h1] <;> rfl)
  · have hR0 := s2 4 (by decide) (by omega) (fun hk => (by
      rcases hk with hk | ⟨hk, -⟩
      · have hk : γ 18601 = 0 := hk
        omega
      · exact h hk))
    have hne : (γ 18540).toNat &&& (γ 18596).toNat ≠ 0 := fun q => h (a1.mpr q)
    have hz := sy_and_r (x := x) (y := y) hx0
    have hz1 : 1 ≤ sx_fand x y := by
      unfold sx_fand
      rw [ex, ey]
      omega
    exact sx_q_hn_ap4_0 hG (sx_fand x y) (⟨by omega, by omega⟩) (by omega) (by omega) (by omega) (by omega)
theorem sx_p_hn_ap5 : sx_okw 2147483647 sx_fand sx_HH sx_r_hn_ap5 := by
  intro γ A x y hG hR hx0 hx1 hy0 hy1 hn
  have n0 : 0 ≤ (-1) + (1 * γ 18595 + 0) := hn _ (List.Mem.head _)
  have n1 : 0 ≤ 1 + ((-1) * γ 18595 + 0) := hn _ (List.Mem.tail _ (List.Mem.head _))
  have n2 : 0 ≤ 0 + ((-1) * γ 18541 + (1 * x + 0)) := hn _ (List.Mem.tail _ (List.Mem.tail _ (List.Mem.head _)))
  have n3 : 0 ≤ 0 + (1 * γ 18541 + ((-1) * x + 0)) := hn _ (List.Mem.tail _ (List.Mem.tail _ (List.Mem.tail _ (List.Mem.head _))))
  have n4 : 0 ≤ 0 + ((-1) * γ 18596 + (1 * y + 0)) := hn _ (List.Mem.tail _ (List.Mem.tail _ (List.Mem.tail _ (List.Mem.tail _ (List.Mem.head _)))))
  have n5 : 0 ≤ 0 + (1 * γ 18596 + ((-1) * y + 0)) := hn _ (List.Mem.tail _ (List.Mem.tail _ (List.Mem.tail _ (List.Mem.tail _ (List.Mem.tail _ (List.Mem.head _))))))
  have n6 : 0 ≤ (-1) + (1 * γ 18602 + 0) := hn _ (List.Mem.tail _ (List.Mem.tail _ (List.Mem.tail _ (List.Mem.tail _ (List.Mem.tail _ (List.Mem.tail _ (List.Mem.head _)))))))
  have n7 : 0 ≤ (-6) + (1 * γ 18623 + 0) := hn _ (List.Mem.tail _ (List.Mem.tail _ (List.Mem.tail _ (List.Mem.tail _ (List.Mem.tail _ (List.Mem.tail _ (List.Mem.tail _ (List.Mem.head _))))))))
  clear hn
  obtain ⟨g0, g1, g2, g3, g4, g5, g6, g7, g8, g9, g10, g11, g12, g13, g14, g15, g16, g17, g18, g19, g20, g21, g22, g23, g24, g25, g26, g27, g28, g29, g30, g31, g32, g33, g34, g35, g36⟩ := id hG
  have r_AP5 := sx_gr_AP5 hR
  have r_KN := sx_gr_KN hR
  have r_PG := sx_gr_PG hR
  have r_QM := sx_gr_QM hR
  have r_RX := sx_gr_RX hR
  have r_XA5 := sx_gr_XA5 hR
  have r_pg5 := sx_gr_pg5 hR
  have hQ : γ 18595 = 1 := by omega
  obtain ⟨a1, a2, a3⟩ := g15 hQ
  have ex : x = γ 18541 := by omega
  have ey : y = γ 18596 := by omega
  obtain ⟨s1, s2, s3, s4⟩ := g33 hQ
  by_cases h : γ 18610 = 0
  · have h1 := a1.mp h
    exact sx_q_hn_ap5_1 hG (by omega) (by unfold sx_fand; rw [ex, ey, h1] <;> rfl)
  · have hR0 := s2 5 (by decide) (by omega) (fun hk => (by
      rcases hk with hk | ⟨hk, -⟩
      · have hk : γ 18602 = 0 := hk
        omega
      · exact h hk))
    have hne : (γ 18541).toNat &&& (γ 18596).toNat ≠ 0 := fun q => h (a1.mpr q)
    have hz := sy_and_r (x := x) (y := y) hx0
    have hz1 : 1 ≤ sx_fand x y := by
      unfold sx_fand
      rw [ex, ey]
      omega
    exact sx_q_hn_ap5_0 hG (sx_fand x y) (⟨by omega, by omega⟩) (by omega) (by omega) (by omega) (by omega)
theorem sx_p_hn_ap6 : sx_okw 2147483647 sx_fand sx_HH sx_r_hn_ap6 := by
  intro γ A x y hG hR hx0 hx1 hy0 hy1 hn
  have n0 : 0 ≤ (-1) + (1 * γ 18595 + 0) := hn _ (List.Mem.head _)
  have n1 : 0 ≤ 1 + ((-1) * γ 18595 + 0) := hn _ (List.Mem.tail _ (List.Mem.head _))
  have n2 : 0 ≤ 0 + ((-1) * γ 18542 + (1 * x + 0)) := hn _ (List.Mem.tail _ (List.Mem.tail _ (List.Mem.head _)))
  have n3 : 0 ≤ 0 + (1 * γ 18542 + ((-1) * x + 0)) := hn _ (List.Mem.tail _ (List.Mem.tail _ (List.Mem.tail _ (List.Mem.head _))))
  have n4 : 0 ≤ 0 + ((-1) * γ 18596 + (1 * y + 0)) := hn _ (List.Mem.tail _ (List.Mem.tail _ (List.Mem.tail _ (List.Mem.tail _ (List.Mem.head _)))))
  have n5 : 0 ≤ 0 + (1 * γ 18596 + ((-1) * y + 0)) := hn _ (List.Mem.tail _ (List.Mem.tail _ (List.Mem.tail _ (List.Mem.tail _ (List.Mem.tail _ (List.Mem.head _))))))
  have n6 : 0 ≤ (-1) + (1 * γ 18603 + 0) := hn _ (List.Mem.tail _ (List.Mem.tail _ (List.Mem.tail _ (List.Mem.tail _ (List.Mem.tail _ (List.Mem.tail _ (List.Mem.head _)))))))
  have n7 : 0 ≤ (-7) + (1 * γ 18623 + 0) := hn _ (List.Mem.tail _ (List.Mem.tail _ (List.Mem.tail _ (List.Mem.tail _ (List.Mem.tail _ (List.Mem.tail _ (List.Mem.tail _ (List.Mem.head _))))))))
  clear hn
  obtain ⟨g0, g1, g2, g3, g4, g5, g6, g7, g8, g9, g10, g11, g12, g13, g14, g15, g16, g17, g18, g19, g20, g21, g22, g23, g24, g25, g26, g27, g28, g29, g30, g31, g32, g33, g34, g35, g36⟩ := id hG
  have r_AP6 := sx_gr_AP6 hR
  have r_KN := sx_gr_KN hR
  have r_PG := sx_gr_PG hR
  have r_QM := sx_gr_QM hR
  have r_RX := sx_gr_RX hR
  have r_XA6 := sx_gr_XA6 hR
  have r_pg6 := sx_gr_pg6 hR
  have hQ : γ 18595 = 1 := by omega
  obtain ⟨a1, a2, a3⟩ := g16 hQ
  have ex : x = γ 18542 := by omega
  have ey : y = γ 18596 := by omega
  obtain ⟨s1, s2, s3, s4⟩ := g33 hQ
  by_cases h : γ 18611 = 0
  · have h1 := a1.mp h
    exact sx_q_hn_ap6_1 hG (by omega) (by unfold sx_fand; rw [ex, ey, h1] <;> rfl)
  · have hR0 := s2 6 (by decide) (by omega) (fun hk => (by
      rcases hk with hk | ⟨hk, -⟩
      · have hk : γ 18603 = 0 := hk
        omega
      · exact h hk))
    have hne : (γ 18542).toNat &&& (γ 18596).toNat ≠ 0 := fun q => h (a1.mpr q)
    have hz := sy_and_r (x := x) (y := y) hx0
    have hz1 : 1 ≤ sx_fand x y := by
      unfold sx_fand
      rw [ex, ey]
      omega
    exact sx_q_hn_ap6_0 hG (sx_fand x y) (⟨by omega, by omega⟩) (by omega) (by omega) (by omega) (by omega)
theorem sx_p_hn_ap7 : sx_okw 2147483647 sx_fand sx_HH sx_r_hn_ap7 := by
  intro γ A x y hG hR hx0 hx1 hy0 hy1 hn
  have n0 : 0 ≤ (-1) + (1 * γ 18595 + 0) := hn _ (List.Mem.head _)
  have n1 : 0 ≤ 1 + ((-1) * γ 18595 + 0) := hn _ (List.Mem.tail _ (List.Mem.head _))
  have n2 : 0 ≤ 0 + ((-1) * γ 18543 + (1 * x + 0)) := hn _ (List.Mem.tail _ (List.Mem.tail _ (List.Mem.head _)))
  have n3 : 0 ≤ 0 + (1 * γ 18543 + ((-1) * x + 0)) := hn _ (List.Mem.tail _ (List.Mem.tail _ (List.Mem.tail _ (List.Mem.head _))))
  have n4 : 0 ≤ 0 + ((-1) * γ 18596 + (1 * y + 0)) := hn _ (List.Mem.tail _ (List.Mem.tail _ (List.Mem.tail _ (List.Mem.tail _ (List.Mem.head _)))))
  have n5 : 0 ≤ 0 + (1 * γ 18596 + ((-1) * y + 0)) := hn _ (List.Mem.tail _ (List.Mem.tail _ (List.Mem.tail _ (List.Mem.tail _ (List.Mem.tail _ (List.Mem.head _))))))
  have n6 : 0 ≤ (-1) + (1 * γ 18604 + 0) := hn _ (List.Mem.tail _ (List.Mem.tail _ (List.Mem.tail _ (List.Mem.tail _ (List.Mem.tail _ (List.Mem.tail _ (List.Mem.head _)))))))
  have n7 : 0 ≤ (-8) + (1 * γ 18623 + 0) := hn _ (List.Mem.tail _ (List.Mem.tail _ (List.Mem.tail _ (List.Mem.tail _ (List.Mem.tail _ (List.Mem.tail _ (List.Mem.tail _ (List.Mem.head _))))))))
  clear hn
  obtain ⟨g0, g1, g2, g3, g4, g5, g6, g7, g8, g9, g10, g11, g12, g13, g14, g15, g16, g17, g18, g19, g20, g21, g22, g23, g24, g25, g26, g27, g28, g29, g30, g31, g32, g33, g34, g35, g36⟩ := id hG
  have r_AP7 := sx_gr_AP7 hR
  have r_KN := sx_gr_KN hR
  have r_PG := sx_gr_PG hR
  have r_QM := sx_gr_QM hR
  have r_RX := sx_gr_RX hR
  have r_XA7 := sx_gr_XA7 hR
  have r_pg7 := sx_gr_pg7 hR
  have hQ : γ 18595 = 1 := by omega
  obtain ⟨a1, a2, a3⟩ := g17 hQ
  have ex : x = γ 18543 := by omega
  have ey : y = γ 18596 := by omega
  obtain ⟨s1, s2, s3, s4⟩ := g33 hQ
  by_cases h : γ 18612 = 0
  · have h1 := a1.mp h
    exact sx_q_hn_ap7_1 hG (by omega) (by unfold sx_fand; rw [ex, ey, h1] <;> rfl)
  · have hR0 := s2 7 (by decide) (by omega) (fun hk => (by
      rcases hk with hk | ⟨hk, -⟩
      · have hk : γ 18604 = 0 := hk
        omega
      · exact h hk))
    have hne : (γ 18543).toNat &&& (γ 18596).toNat ≠ 0 := fun q => h (a1.mpr q)
    have hz := sy_and_r (x := x) (y := y) hx0
    have hz1 : 1 ≤ sx_fand x y := by
      unfold sx_fand
      rw [ex, ey]
      omega
    exact sx_q_hn_ap7_0 hG (sx_fand x y) (⟨by omega, by omega⟩) (by omega) (by omega) (by omega) (by omega)
theorem sx_p_hn_bw0 : sx_okw 2147483647 sx_fand sx_HH sx_r_hn_bw0 := by
  intro γ A x y hG hR hx0 hx1 hy0 hy1 hn
  have n0 : 0 ≤ (-1) + (1 * γ 18595 + 0) := hn _ (List.Mem.head _)
  have n1 : 0 ≤ 1 + ((-1) * γ 18595 + 0) := hn _ (List.Mem.tail _ (List.Mem.head _))
  have n2 : 0 ≤ 0 + ((-1) * γ 18544 + (1 * x + 0)) := hn _ (List.Mem.tail _ (List.Mem.tail _ (List.Mem.head _)))
  have n3 : 0 ≤ 0 + (1 * γ 18544 + ((-1) * x + 0)) := hn _ (List.Mem.tail _ (List.Mem.tail _ (List.Mem.tail _ (List.Mem.head _))))
  have n4 : 0 ≤ 0 + ((-1) * γ 18624 + (1 * y + 0)) := hn _ (List.Mem.tail _ (List.Mem.tail _ (List.Mem.tail _ (List.Mem.tail _ (List.Mem.head _)))))
  have n5 : 0 ≤ 0 + (1 * γ 18624 + ((-1) * y + 0)) := hn _ (List.Mem.tail _ (List.Mem.tail _ (List.Mem.tail _ (List.Mem.tail _ (List.Mem.tail _ (List.Mem.head _))))))
  clear hn
  obtain ⟨g0, g1, g2, g3, g4, g5, g6, g7, g8, g9, g10, g11, g12, g13, g14, g15, g16, g17, g18, g19, g20, g21, g22, g23, g24, g25, g26, g27, g28, g29, g30, g31, g32, g33, g34, g35, g36⟩ := id hG
  have r_BD0 := sx_gr_BD0 hR
  have r_QM := sx_gr_QM hR
  have r_WV := sx_gr_WV hR
  have hQ : γ 18595 = 1 := by omega
  obtain ⟨a1, a2, a3⟩ := g10 hQ
  have ex : x = γ 18544 := by omega
  have ey : y = γ 18624 := by omega
  exact sx_q_hn_bw0_0 hG (by unfold sx_fand; rw [ex, ey, a3]; omega)
theorem sx_p_hn_bw1 : sx_okw 2147483647 sx_fand sx_HH sx_r_hn_bw1 := by
  intro γ A x y hG hR hx0 hx1 hy0 hy1 hn
  have n0 : 0 ≤ (-1) + (1 * γ 18595 + 0) := hn _ (List.Mem.head _)
  have n1 : 0 ≤ 1 + ((-1) * γ 18595 + 0) := hn _ (List.Mem.tail _ (List.Mem.head _))
  have n2 : 0 ≤ 0 + ((-1) * γ 18545 + (1 * x + 0)) := hn _ (List.Mem.tail _ (List.Mem.tail _ (List.Mem.head _)))
  have n3 : 0 ≤ 0 + (1 * γ 18545 + ((-1) * x + 0)) := hn _ (List.Mem.tail _ (List.Mem.tail _ (List.Mem.tail _ (List.Mem.head _))))
  have n4 : 0 ≤ 0 + ((-1) * γ 18624 + (1 * y + 0)) := hn _ (List.Mem.tail _ (List.Mem.tail _ (List.Mem.tail _ (List.Mem.tail _ (List.Mem.head _)))))
  have n5 : 0 ≤ 0 + (1 * γ 18624 + ((-1) * y + 0)) := hn _ (List.Mem.tail _ (List.Mem.tail _ (List.Mem.tail _ (List.Mem.tail _ (List.Mem.tail _ (List.Mem.head _))))))
  clear hn
  obtain ⟨g0, g1, g2, g3, g4, g5, g6, g7, g8, g9, g10, g11, g12, g13, g14, g15, g16, g17, g18, g19, g20, g21, g22, g23, g24, g25, g26, g27, g28, g29, g30, g31, g32, g33, g34, g35, g36⟩ := id hG
  have r_BD1 := sx_gr_BD1 hR
  have r_QM := sx_gr_QM hR
  have r_WV := sx_gr_WV hR
  have hQ : γ 18595 = 1 := by omega
  obtain ⟨a1, a2, a3⟩ := g11 hQ
  have ex : x = γ 18545 := by omega
  have ey : y = γ 18624 := by omega
  exact sx_q_hn_bw1_0 hG (by unfold sx_fand; rw [ex, ey, a3]; omega)
theorem sx_p_hn_bw2 : sx_okw 2147483647 sx_fand sx_HH sx_r_hn_bw2 := by
  intro γ A x y hG hR hx0 hx1 hy0 hy1 hn
  have n0 : 0 ≤ (-1) + (1 * γ 18595 + 0) := hn _ (List.Mem.head _)
  have n1 : 0 ≤ 1 + ((-1) * γ 18595 + 0) := hn _ (List.Mem.tail _ (List.Mem.head _))
  have n2 : 0 ≤ 0 + ((-1) * γ 18546 + (1 * x + 0)) := hn _ (List.Mem.tail _ (List.Mem.tail _ (List.Mem.head _)))
  have n3 : 0 ≤ 0 + (1 * γ 18546 + ((-1) * x + 0)) := hn _ (List.Mem.tail _ (List.Mem.tail _ (List.Mem.tail _ (List.Mem.head _))))
  have n4 : 0 ≤ 0 + ((-1) * γ 18624 + (1 * y + 0)) := hn _ (List.Mem.tail _ (List.Mem.tail _ (List.Mem.tail _ (List.Mem.tail _ (List.Mem.head _)))))
  have n5 : 0 ≤ 0 + (1 * γ 18624 + ((-1) * y + 0)) := hn _ (List.Mem.tail _ (List.Mem.tail _ (List.Mem.tail _ (List.Mem.tail _ (List.Mem.tail _ (List.Mem.head _))))))
  clear hn
  obtain ⟨g0, g1, g2, g3, g4, g5, g6, g7, g8, g9, g10, g11, g12, g13, g14, g15, g16, g17, g18, g19, g20, g21, g22, g23, g24, g25, g26, g27, g28, g29, g30, g31, g32, g33, g34, g35, g36⟩ := id hG
  have r_BD2 := sx_gr_BD2 hR
  have r_QM := sx_gr_QM hR
  have r_WV := sx_gr_WV hR
  have hQ : γ 18595 = 1 := by omega
  obtain ⟨a1, a2, a3⟩ := g12 hQ
  have ex : x = γ 18546 := by omega
  have ey : y = γ 18624 := by omega
  exact sx_q_hn_bw2_0 hG (by unfold sx_fand; rw [ex, ey, a3]; omega)
theorem sx_p_hn_bw3 : sx_okw 2147483647 sx_fand sx_HH sx_r_hn_bw3 := by
  intro γ A x y hG hR hx0 hx1 hy0 hy1 hn
  have n0 : 0 ≤ (-1) + (1 * γ 18595 + 0) := hn _ (List.Mem.head _)
  have n1 : 0 ≤ 1 + ((-1) * γ 18595 + 0) := hn _ (List.Mem.tail _ (List.Mem.head _))
  have n2 : 0 ≤ 0 + ((-1) * γ 18547 + (1 * x + 0)) := hn _ (List.Mem.tail _ (List.Mem.tail _ (List.Mem.head _)))
  have n3 : 0 ≤ 0 + (1 * γ 18547 + ((-1) * x + 0)) := hn _ (List.Mem.tail _ (List.Mem.tail _ (List.Mem.tail _ (List.Mem.head _))))
  have n4 : 0 ≤ 0 + ((-1) * γ 18624 + (1 * y + 0)) := hn _ (List.Mem.tail _ (List.Mem.tail _ (List.Mem.tail _ (List.Mem.tail _ (List.Mem.head _)))))
  have n5 : 0 ≤ 0 + (1 * γ 18624 + ((-1) * y + 0)) := hn _ (List.Mem.tail _ (List.Mem.tail _ (List.Mem.tail _ (List.Mem.tail _ (List.Mem.tail _ (List.Mem.head _))))))
  clear hn
  obtain ⟨g0, g1, g2, g3, g4, g5, g6, g7, g8, g9, g10, g11, g12, g13, g14, g15, g16, g17, g18, g19, g20, g21, g22, g23, g24, g25, g26, g27, g28, g29, g30, g31, g32, g33, g34, g35, g36⟩ := id hG
  have r_BD3 := sx_gr_BD3 hR
  have r_QM := sx_gr_QM hR
  have r_WV := sx_gr_WV hR
  have hQ : γ 18595 = 1 := by omega
  obtain ⟨a1, a2, a3⟩ := g13 hQ
  have ex : x = γ 18547 := by omega
  have ey : y = γ 18624 := by omega
  exact sx_q_hn_bw3_0 hG (by unfold sx_fand; rw [ex, ey, a3]; omega)
theorem sx_p_hn_bw4 : sx_okw 2147483647 sx_fand sx_HH sx_r_hn_bw4 := by
  intro γ A x y hG hR hx0 hx1 hy0 hy1 hn
  have n0 : 0 ≤ (-1) + (1 * γ 18595 + 0) := hn _ (List.Mem.head _)
  have n1 : 0 ≤ 1 + ((-1) * γ 18595 + 0) := hn _ (List.Mem.tail _ (List.Mem.head _))
  have n2 : 0 ≤ 0 + ((-1) * γ 18548 + (1 * x + 0)) := hn _ (List.Mem.tail _ (List.Mem.tail _ (List.Mem.head _)))
  have n3 : 0 ≤ 0 + (1 * γ 18548 + ((-1) * x + 0)) := hn _ (List.Mem.tail _ (List.Mem.tail _ (List.Mem.tail _ (List.Mem.head _))))
  have n4 : 0 ≤ 0 + ((-1) * γ 18624 + (1 * y + 0)) := hn _ (List.Mem.tail _ (List.Mem.tail _ (List.Mem.tail _ (List.Mem.tail _ (List.Mem.head _)))))
  have n5 : 0 ≤ 0 + (1 * γ 18624 + ((-1) * y + 0)) := hn _ (List.Mem.tail _ (List.Mem.tail _ (List.Mem.tail _ (List.Mem.tail _ (List.Mem.tail _ (List.Mem.head _))))))
  clear hn
  obtain ⟨g0, g1, g2, g3, g4, g5, g6, g7, g8, g9, g10, g11, g12, g13, g14, g15, g16, g17, g18, g19, g20, g21, g22, g23, g24, g25, g26, g27, g28, g29, g30, g31, g32, g33, g34, g35, g36⟩ := id hG
  have r_BD4 := sx_gr_BD4 hR
  have r_QM := sx_gr_QM hR
  have r_WV := sx_gr_WV hR
  have hQ : γ 18595 = 1 := by omega
  obtain ⟨a1, a2, a3⟩ := g14 hQ
  have ex : x = γ 18548 := by omega
  have ey : y = γ 18624 := by omega
  exact sx_q_hn_bw4_0 hG (by unfold sx_fand; rw [ex, ey, a3]; omega)
theorem sx_p_hn_bw5 : sx_okw 2147483647 sx_fand sx_HH sx_r_hn_bw5 := by
  intro γ A x y hG hR hx0 hx1 hy0 hy1 hn
  have n0 : 0 ≤ (-1) + (1 * γ 18595 + 0) := hn _ (List.Mem.head _)
  have n1 : 0 ≤ 1 + ((-1) * γ 18595 + 0) := hn _ (List.Mem.tail _ (List.Mem.head _))
  have n2 : 0 ≤ 0 + ((-1) * γ 18549 + (1 * x + 0)) := hn _ (List.Mem.tail _ (List.Mem.tail _ (List.Mem.head _)))
  have n3 : 0 ≤ 0 + (1 * γ 18549 + ((-1) * x + 0)) := hn _ (List.Mem.tail _ (List.Mem.tail _ (List.Mem.tail _ (List.Mem.head _))))
  have n4 : 0 ≤ 0 + ((-1) * γ 18624 + (1 * y + 0)) := hn _ (List.Mem.tail _ (List.Mem.tail _ (List.Mem.tail _ (List.Mem.tail _ (List.Mem.head _)))))
  have n5 : 0 ≤ 0 + (1 * γ 18624 + ((-1) * y + 0)) := hn _ (List.Mem.tail _ (List.Mem.tail _ (List.Mem.tail _ (List.Mem.tail _ (List.Mem.tail _ (List.Mem.head _))))))
  clear hn
  obtain ⟨g0, g1, g2, g3, g4, g5, g6, g7, g8, g9, g10, g11, g12, g13, g14, g15, g16, g17, g18, g19, g20, g21, g22, g23, g24, g25, g26, g27, g28, g29, g30, g31, g32, g33, g34, g35, g36⟩ := id hG
  have r_BD5 := sx_gr_BD5 hR
  have r_QM := sx_gr_QM hR
  have r_WV := sx_gr_WV hR
  have hQ : γ 18595 = 1 := by omega
  obtain ⟨a1, a2, a3⟩ := g15 hQ
  have ex : x = γ 18549 := by omega
  have ey : y = γ 18624 := by omega
  exact sx_q_hn_bw5_0 hG (by unfold sx_fand; rw [ex, ey, a3]; omega)
theorem sx_p_hn_bw6 : sx_okw 2147483647 sx_fand sx_HH sx_r_hn_bw6 := by
  intro γ A x y hG hR hx0 hx1 hy0 hy1 hn
  have n0 : 0 ≤ (-1) + (1 * γ 18595 + 0) := hn _ (List.Mem.head _)
  have n1 : 0 ≤ 1 + ((-1) * γ 18595 + 0) := hn _ (List.Mem.tail _ (List.Mem.head _))
  have n2 : 0 ≤ 0 + ((-1) * γ 18550 + (1 * x + 0)) := hn _ (List.Mem.tail _ (List.Mem.tail _ (List.Mem.head _)))
  have n3 : 0 ≤ 0 + (1 * γ 18550 + ((-1) * x + 0)) := hn _ (List.Mem.tail _ (List.Mem.tail _ (List.Mem.tail _ (List.Mem.head _))))
  have n4 : 0 ≤ 0 + ((-1) * γ 18624 + (1 * y + 0)) := hn _ (List.Mem.tail _ (List.Mem.tail _ (List.Mem.tail _ (List.Mem.tail _ (List.Mem.head _)))))
  have n5 : 0 ≤ 0 + (1 * γ 18624 + ((-1) * y + 0)) := hn _ (List.Mem.tail _ (List.Mem.tail _ (List.Mem.tail _ (List.Mem.tail _ (List.Mem.tail _ (List.Mem.head _))))))
  clear hn
  obtain ⟨g0, g1, g2, g3, g4, g5, g6, g7, g8, g9, g10, g11, g12, g13, g14, g15, g16, g17, g18, g19, g20, g21, g22, g23, g24, g25, g26, g27, g28, g29, g30, g31, g32, g33, g34, g35, g36⟩ := id hG
  have r_BD6 := sx_gr_BD6 hR
  have r_QM := sx_gr_QM hR
  have r_WV := sx_gr_WV hR
  have hQ : γ 18595 = 1 := by omega
  obtain ⟨a1, a2, a3⟩ := g16 hQ
  have ex : x = γ 18550 := by omega
  have ey : y = γ 18624 := by omega
  exact sx_q_hn_bw6_0 hG (by unfold sx_fand; rw [ex, ey, a3]; omega)
theorem sx_p_hn_bw7 : sx_okw 2147483647 sx_fand sx_HH sx_r_hn_bw7 := by
  intro γ A x y hG hR hx0 hx1 hy0 hy1 hn
  have n0 : 0 ≤ (-1) + (1 * γ 18595 + 0) := hn _ (List.Mem.head _)
  have n1 : 0 ≤ 1 + ((-1) * γ 18595 + 0) := hn _ (List.Mem.tail _ (List.Mem.head _))
  have n2 : 0 ≤ 0 + ((-1) * γ 18551 + (1 * x + 0)) := hn _ (List.Mem.tail _ (List.Mem.tail _ (List.Mem.head _)))
  have n3 : 0 ≤ 0 + (1 * γ 18551 + ((-1) * x + 0)) := hn _ (List.Mem.tail _ (List.Mem.tail _ (List.Mem.tail _ (List.Mem.head _))))
  have n4 : 0 ≤ 0 + ((-1) * γ 18624 + (1 * y + 0)) := hn _ (List.Mem.tail _ (List.Mem.tail _ (List.Mem.tail _ (List.Mem.tail _ (List.Mem.head _)))))
  have n5 : 0 ≤ 0 + (1 * γ 18624 + ((-1) * y + 0)) := hn _ (List.Mem.tail _ (List.Mem.tail _ (List.Mem.tail _ (List.Mem.tail _ (List.Mem.tail _ (List.Mem.head _))))))
  clear hn
  obtain ⟨g0, g1, g2, g3, g4, g5, g6, g7, g8, g9, g10, g11, g12, g13, g14, g15, g16, g17, g18, g19, g20, g21, g22, g23, g24, g25, g26, g27, g28, g29, g30, g31, g32, g33, g34, g35, g36⟩ := id hG
  have r_BD7 := sx_gr_BD7 hR
  have r_QM := sx_gr_QM hR
  have r_WV := sx_gr_WV hR
  have hQ : γ 18595 = 1 := by omega
  obtain ⟨a1, a2, a3⟩ := g17 hQ
  have ex : x = γ 18551 := by omega
  have ey : y = γ 18624 := by omega
  exact sx_q_hn_bw7_0 hG (by unfold sx_fand; rw [ex, ey, a3]; omega)
theorem sx_p_hn_kv : sx_okw 2147483647 sx_fand sx_HH sx_r_hn_kv := by
  intro γ A x y hG hR hx0 hx1 hy0 hy1 hn
  have n0 : 0 ≤ (-1) + (1 * γ 18595 + 0) := hn _ (List.Mem.head _)
  have n1 : 0 ≤ 1 + ((-1) * γ 18595 + 0) := hn _ (List.Mem.tail _ (List.Mem.head _))
  have n2 : 0 ≤ 0 + ((-1) * γ 18660 + (1 * x + 0)) := hn _ (List.Mem.tail _ (List.Mem.tail _ (List.Mem.head _)))
  have n3 : 0 ≤ 0 + (1 * γ 18660 + ((-1) * x + 0)) := hn _ (List.Mem.tail _ (List.Mem.tail _ (List.Mem.tail _ (List.Mem.head _))))
  have n4 : 0 ≤ 1 + ((-1) * γ 18660 + (1 * y + 0)) := hn _ (List.Mem.tail _ (List.Mem.tail _ (List.Mem.tail _ (List.Mem.tail _ (List.Mem.head _)))))
  have n5 : 0 ≤ (-1) + (1 * γ 18660 + ((-1) * y + 0)) := hn _ (List.Mem.tail _ (List.Mem.tail _ (List.Mem.tail _ (List.Mem.tail _ (List.Mem.tail _ (List.Mem.head _))))))
  have n6 : 0 ≤ (-1) + (1 * x + 0) := hn _ (List.Mem.tail _ (List.Mem.tail _ (List.Mem.tail _ (List.Mem.tail _ (List.Mem.tail _ (List.Mem.tail _ (List.Mem.head _)))))))
  clear hn
  obtain ⟨g0, g1, g2, g3, g4, g5, g6, g7, g8, g9, g10, g11, g12, g13, g14, g15, g16, g17, g18, g19, g20, g21, g22, g23, g24, g25, g26, g27, g28, g29, g30, g31, g32, g33, g34, g35, g36⟩ := id hG
  have r_KV := sx_gr_KV hR
  have r_QM := sx_gr_QM hR
  have r_RC := sx_gr_RC hR
  have hQ : γ 18595 = 1 := by omega
  have h1 := g36 hQ
  have ex : x = γ 18660 := by omega
  obtain ⟨p1, p2⟩ := sy_pop_n x.toNat (by omega) (by omega)
  have ey : y.toNat = x.toNat - 1 := by omega
  have ez : sx_fand x y = ((x.toNat &&& (x.toNat - 1) : Nat) : Int) := by
    unfold sx_fand
    rw [ey]
  rw [← ex] at h1
  exact sx_q_hn_kv_0 hG (sx_fand x y) (⟨by omega, by omega⟩) (by omega) (by omega) (by omega) (fun _ => by rw [show (0 + (1 * sx_fand x y + 0)).toNat = x.toNat &&& (x.toNat - 1) by omega]; omega)
theorem sx_p_hk_1 : sx_okw 2147483647 sx_fand sx_HH sx_r_hk_1 := by
  intro γ A x y hG hR hx0 hx1 hy0 hy1 hn
  have n0 : 0 ≤ (-1) + (1 * γ 18595 + 0) := hn _ (List.Mem.head _)
  have n1 : 0 ≤ 1 + ((-1) * γ 18595 + 0) := hn _ (List.Mem.tail _ (List.Mem.head _))
  have n2 : 0 ≤ 0 + ((-1) * γ 18662 + (1 * x + 0)) := hn _ (List.Mem.tail _ (List.Mem.tail _ (List.Mem.head _)))
  have n3 : 0 ≤ 0 + (1 * γ 18662 + ((-1) * x + 0)) := hn _ (List.Mem.tail _ (List.Mem.tail _ (List.Mem.tail _ (List.Mem.head _))))
  have n4 : 0 ≤ (-1431655765) + (1 * y + 0) := hn _ (List.Mem.tail _ (List.Mem.tail _ (List.Mem.tail _ (List.Mem.tail _ (List.Mem.head _)))))
  have n5 : 0 ≤ 1431655765 + ((-1) * y + 0) := hn _ (List.Mem.tail _ (List.Mem.tail _ (List.Mem.tail _ (List.Mem.tail _ (List.Mem.tail _ (List.Mem.head _))))))
  have n6 : 0 ≤ (-1) + (1 * γ 18596 + 0) := hn _ (List.Mem.tail _ (List.Mem.tail _ (List.Mem.tail _ (List.Mem.tail _ (List.Mem.tail _ (List.Mem.tail _ (List.Mem.head _)))))))
  have n7 : 0 ≤ 255 + ((-1) * γ 18596 + 0) := hn _ (List.Mem.tail _ (List.Mem.tail _ (List.Mem.tail _ (List.Mem.tail _ (List.Mem.tail _ (List.Mem.tail _ (List.Mem.tail _ (List.Mem.head _))))))))
  clear hn
  obtain ⟨g0, g1, g2, g3, g4, g5, g6, g7, g8, g9, g10, g11, g12, g13, g14, g15, g16, g17, g18, g19, g20, g21, g22, g23, g24, g25, g26, g27, g28, g29, g30, g31, g32, g33, g34, g35, g36⟩ := id hG
  have r_J1 := sx_gr_J1 hR
  have r_J2 := sx_gr_J2 hR
  have r_PG := sx_gr_PG hR
  have r_QM := sx_gr_QM hR
  have hQ : γ 18595 = 1 := by omega
  obtain ⟨i1, i2, i3, i4, i5, i6, i7, i8, i9, i10⟩ := g20 hQ (by omega) (by omega)
  have ex : x = γ 18662 := by omega
  have ey : y = 1431655765 := by omega
  rw [← ex] at i2
  exact sx_q_hk_1_0 hG (by omega) (by rw [ey, ← i2]; omega)
theorem sx_p_hk_2 : sx_okw 2147483647 sx_fand sx_HH sx_r_hk_2 := by
  intro γ A x y hG hR hx0 hx1 hy0 hy1 hn
  have n0 : 0 ≤ (-1) + (1 * γ 18595 + 0) := hn _ (List.Mem.head _)
  have n1 : 0 ≤ 1 + ((-1) * γ 18595 + 0) := hn _ (List.Mem.tail _ (List.Mem.head _))
  have n2 : 0 ≤ 0 + ((-1) * γ 18596 + (1 * γ 18663 + (1 * x + 0))) := hn _ (List.Mem.tail _ (List.Mem.tail _ (List.Mem.head _)))
  have n3 : 0 ≤ 0 + (1 * γ 18596 + ((-1) * γ 18663 + ((-1) * x + 0))) := hn _ (List.Mem.tail _ (List.Mem.tail _ (List.Mem.tail _ (List.Mem.head _))))
  have n4 : 0 ≤ (-858993459) + (1 * y + 0) := hn _ (List.Mem.tail _ (List.Mem.tail _ (List.Mem.tail _ (List.Mem.tail _ (List.Mem.head _)))))
  have n5 : 0 ≤ 858993459 + ((-1) * y + 0) := hn _ (List.Mem.tail _ (List.Mem.tail _ (List.Mem.tail _ (List.Mem.tail _ (List.Mem.tail _ (List.Mem.head _))))))
  have n6 : 0 ≤ (-1) + (1 * γ 18596 + 0) := hn _ (List.Mem.tail _ (List.Mem.tail _ (List.Mem.tail _ (List.Mem.tail _ (List.Mem.tail _ (List.Mem.tail _ (List.Mem.head _)))))))
  have n7 : 0 ≤ 255 + ((-1) * γ 18596 + 0) := hn _ (List.Mem.tail _ (List.Mem.tail _ (List.Mem.tail _ (List.Mem.tail _ (List.Mem.tail _ (List.Mem.tail _ (List.Mem.tail _ (List.Mem.head _))))))))
  clear hn
  obtain ⟨g0, g1, g2, g3, g4, g5, g6, g7, g8, g9, g10, g11, g12, g13, g14, g15, g16, g17, g18, g19, g20, g21, g22, g23, g24, g25, g26, g27, g28, g29, g30, g31, g32, g33, g34, g35, g36⟩ := id hG
  have r_J2 := sx_gr_J2 hR
  have r_J3 := sx_gr_J3 hR
  have r_PG := sx_gr_PG hR
  have r_QM := sx_gr_QM hR
  have hQ : γ 18595 = 1 := by omega
  obtain ⟨i1, i2, i3, i4, i5, i6, i7, i8, i9, i10⟩ := g20 hQ (by omega) (by omega)
  have ex : x = γ 18596 - γ 18663 := by omega
  have ey : y = 858993459 := by omega
  rw [← ex] at i4
  exact sx_q_hk_2_0 hG (by rw [ey, ← i4]; omega)
theorem sx_p_hk_3 : sx_okw 2147483647 sx_fand sx_HH sx_r_hk_3 := by
  intro γ A x y hG hR hx0 hx1 hy0 hy1 hn
  have n0 : 0 ≤ (-1) + (1 * γ 18595 + 0) := hn _ (List.Mem.head _)
  have n1 : 0 ≤ 1 + ((-1) * γ 18595 + 0) := hn _ (List.Mem.tail _ (List.Mem.head _))
  have n2 : 0 ≤ 0 + ((-1) * γ 18665 + (1 * x + 0)) := hn _ (List.Mem.tail _ (List.Mem.tail _ (List.Mem.head _)))
  have n3 : 0 ≤ 0 + (1 * γ 18665 + ((-1) * x + 0)) := hn _ (List.Mem.tail _ (List.Mem.tail _ (List.Mem.tail _ (List.Mem.head _))))
  have n4 : 0 ≤ (-858993459) + (1 * y + 0) := hn _ (List.Mem.tail _ (List.Mem.tail _ (List.Mem.tail _ (List.Mem.tail _ (List.Mem.head _)))))
  have n5 : 0 ≤ 858993459 + ((-1) * y + 0) := hn _ (List.Mem.tail _ (List.Mem.tail _ (List.Mem.tail _ (List.Mem.tail _ (List.Mem.tail _ (List.Mem.head _))))))
  have n6 : 0 ≤ (-1) + (1 * γ 18596 + 0) := hn _ (List.Mem.tail _ (List.Mem.tail _ (List.Mem.tail _ (List.Mem.tail _ (List.Mem.tail _ (List.Mem.tail _ (List.Mem.head _)))))))
  have n7 : 0 ≤ 255 + ((-1) * γ 18596 + 0) := hn _ (List.Mem.tail _ (List.Mem.tail _ (List.Mem.tail _ (List.Mem.tail _ (List.Mem.tail _ (List.Mem.tail _ (List.Mem.tail _ (List.Mem.head _))))))))
  clear hn
  obtain ⟨g0, g1, g2, g3, g4, g5, g6, g7, g8, g9, g10, g11, g12, g13, g14, g15, g16, g17, g18, g19, g20, g21, g22, g23, g24, g25, g26, g27, g28, g29, g30, g31, g32, g33, g34, g35, g36⟩ := id hG
  have r_J4 := sx_gr_J4 hR
  have r_J5 := sx_gr_J5 hR
  have r_PG := sx_gr_PG hR
  have r_QM := sx_gr_QM hR
  have hQ : γ 18595 = 1 := by omega
  obtain ⟨i1, i2, i3, i4, i5, i6, i7, i8, i9, i10⟩ := g20 hQ (by omega) (by omega)
  have ex : x = γ 18665 := by omega
  have ey : y = 858993459 := by omega
  rw [← ex] at i6
  exact sx_q_hk_3_0 hG (by rw [ey, ← i6]; omega)
theorem sx_p_hk_4 : sx_okw 2147483647 sx_fand sx_HH sx_r_hk_4 := by
  intro γ A x y hG hR hx0 hx1 hy0 hy1 hn
  have n0 : 0 ≤ (-1) + (1 * γ 18595 + 0) := hn _ (List.Mem.head _)
  have n1 : 0 ≤ 1 + ((-1) * γ 18595 + 0) := hn _ (List.Mem.tail _ (List.Mem.head _))
  have n2 : 0 ≤ 0 + ((-1) * γ 18664 + ((-1) * γ 18666 + ((-1) * γ 18667 + (1 * x + 0)))) := hn _ (List.Mem.tail _ (List.Mem.tail _ (List.Mem.head _)))
  have n3 : 0 ≤ 0 + (1 * γ 18664 + (1 * γ 18666 + (1 * γ 18667 + ((-1) * x + 0)))) := hn _ (List.Mem.tail _ (List.Mem.tail _ (List.Mem.tail _ (List.Mem.head _))))
  have n4 : 0 ≤ (-252645135) + (1 * y + 0) := hn _ (List.Mem.tail _ (List.Mem.tail _ (List.Mem.tail _ (List.Mem.tail _ (List.Mem.head _)))))
  have n5 : 0 ≤ 252645135 + ((-1) * y + 0) := hn _ (List.Mem.tail _ (List.Mem.tail _ (List.Mem.tail _ (List.Mem.tail _ (List.Mem.tail _ (List.Mem.head _))))))
  have n6 : 0 ≤ (-1) + (1 * γ 18596 + 0) := hn _ (List.Mem.tail _ (List.Mem.tail _ (List.Mem.tail _ (List.Mem.tail _ (List.Mem.tail _ (List.Mem.tail _ (List.Mem.head _)))))))
  have n7 : 0 ≤ 255 + ((-1) * γ 18596 + 0) := hn _ (List.Mem.tail _ (List.Mem.tail _ (List.Mem.tail _ (List.Mem.tail _ (List.Mem.tail _ (List.Mem.tail _ (List.Mem.tail _ (List.Mem.head _))))))))
  clear hn
  obtain ⟨g0, g1, g2, g3, g4, g5, g6, g7, g8, g9, g10, g11, g12, g13, g14, g15, g16, g17, g18, g19, g20, g21, g22, g23, g24, g25, g26, g27, g28, g29, g30, g31, g32, g33, g34, g35, g36⟩ := id hG
  have r_J3 := sx_gr_J3 hR
  have r_J5 := sx_gr_J5 hR
  have r_J6 := sx_gr_J6 hR
  have r_J7 := sx_gr_J7 hR
  have r_PG := sx_gr_PG hR
  have r_QM := sx_gr_QM hR
  have hQ : γ 18595 = 1 := by omega
  obtain ⟨i1, i2, i3, i4, i5, i6, i7, i8, i9, i10⟩ := g20 hQ (by omega) (by omega)
  have ex : x = γ 18664 + γ 18666 + γ 18667 := by omega
  have ey : y = 252645135 := by omega
  rw [← ex] at i8
  exact sx_q_hk_4_0 hG (by rw [ey, ← i8]; omega)
theorem sx_p_hk_5 : sx_okw 2147483647 sx_fand sx_HH sx_r_hk_5 := by
  intro γ A x y hG hR hx0 hx1 hy0 hy1 hn
  have n0 : 0 ≤ (-1) + (1 * γ 18595 + 0) := hn _ (List.Mem.head _)
  have n1 : 0 ≤ 1 + ((-1) * γ 18595 + 0) := hn _ (List.Mem.tail _ (List.Mem.head _))
  have n2 : 0 ≤ 0 + ((-1) * γ 18668 + (1 * x + 0)) := hn _ (List.Mem.tail _ (List.Mem.tail _ (List.Mem.head _)))
  have n3 : 0 ≤ 0 + (1 * γ 18668 + ((-1) * x + 0)) := hn _ (List.Mem.tail _ (List.Mem.tail _ (List.Mem.tail _ (List.Mem.head _))))
  have n4 : 0 ≤ (-63) + (1 * y + 0) := hn _ (List.Mem.tail _ (List.Mem.tail _ (List.Mem.tail _ (List.Mem.tail _ (List.Mem.head _)))))
  have n5 : 0 ≤ 63 + ((-1) * y + 0) := hn _ (List.Mem.tail _ (List.Mem.tail _ (List.Mem.tail _ (List.Mem.tail _ (List.Mem.tail _ (List.Mem.head _))))))
  have n6 : 0 ≤ (-1) + (1 * γ 18596 + 0) := hn _ (List.Mem.tail _ (List.Mem.tail _ (List.Mem.tail _ (List.Mem.tail _ (List.Mem.tail _ (List.Mem.tail _ (List.Mem.head _)))))))
  have n7 : 0 ≤ 255 + ((-1) * γ 18596 + 0) := hn _ (List.Mem.tail _ (List.Mem.tail _ (List.Mem.tail _ (List.Mem.tail _ (List.Mem.tail _ (List.Mem.tail _ (List.Mem.tail _ (List.Mem.head _))))))))
  clear hn
  obtain ⟨g0, g1, g2, g3, g4, g5, g6, g7, g8, g9, g10, g11, g12, g13, g14, g15, g16, g17, g18, g19, g20, g21, g22, g23, g24, g25, g26, g27, g28, g29, g30, g31, g32, g33, g34, g35, g36⟩ := id hG
  have r_J7 := sx_gr_J7 hR
  have r_PB := sx_gr_PB hR
  have r_PG := sx_gr_PG hR
  have r_QM := sx_gr_QM hR
  have hQ : γ 18595 = 1 := by omega
  obtain ⟨i1, i2, i3, i4, i5, i6, i7, i8, i9, i10⟩ := g20 hQ (by omega) (by omega)
  have ex : x = γ 18668 := by omega
  have ey : y = 63 := by omega
  rw [← ex] at i9
  exact sx_q_hk_5_0 hG (by omega) (by rw [ey, ← i9]; omega)
theorem sx_p_ho_1 : sx_okw 255 sx_for sx_HH sx_r_ho_1 := by
  intro γ A x y hG hR hx0 hx1 hy0 hy1 hn
  have n0 : 0 ≤ (-2) + (1 * γ 18595 + 0) := hn _ (List.Mem.head _)
  have n1 : 0 ≤ 2 + ((-1) * γ 18595 + 0) := hn _ (List.Mem.tail _ (List.Mem.head _))
  have n2 : 0 ≤ 0 + (1 * γ 18594 + 0) := hn _ (List.Mem.tail _ (List.Mem.tail _ (List.Mem.head _)))
  have n3 : 0 ≤ 0 + ((-1) * γ 18594 + 0) := hn _ (List.Mem.tail _ (List.Mem.tail _ (List.Mem.tail _ (List.Mem.head _))))
  clear hn
  obtain ⟨g0, g1, g2, g3, g4, g5, g6, g7, g8, g9, g10, g11, g12, g13, g14, g15, g16, g17, g18, g19, g20, g21, g22, g23, g24, g25, g26, g27, g28, g29, g30, g31, g32, g33, g34, g35, g36⟩ := id hG
  have r_OW := sx_gr_OW hR
  have r_QM := sx_gr_QM hR
  have hz := sy_or_r hx0 hx1 hy0 hy1
  exact sx_q_ho_1_0 hG (sx_for x y) (⟨hz.1, hz.2.1⟩) (by omega) (by omega) (by omega) (by
    unfold sy_or sx_for
    rw [show 0 + (1 * x + 0) = x by omega, show 0 + (1 * y + 0) = y by omega]
    omega)
theorem sx_p_ho_2 : sx_okw 255 sx_for sx_HH sx_r_ho_2 := by
  intro γ A x y hG hR hx0 hx1 hy0 hy1 hn
  have n0 : 0 ≤ (-2) + (1 * γ 18595 + 0) := hn _ (List.Mem.head _)
  have n1 : 0 ≤ 2 + ((-1) * γ 18595 + 0) := hn _ (List.Mem.tail _ (List.Mem.head _))
  have n2 : 0 ≤ (-1) + (1 * γ 18594 + 0) := hn _ (List.Mem.tail _ (List.Mem.tail _ (List.Mem.head _)))
  have n3 : 0 ≤ 1 + ((-1) * γ 18594 + 0) := hn _ (List.Mem.tail _ (List.Mem.tail _ (List.Mem.tail _ (List.Mem.head _))))
  clear hn
  obtain ⟨g0, g1, g2, g3, g4, g5, g6, g7, g8, g9, g10, g11, g12, g13, g14, g15, g16, g17, g18, g19, g20, g21, g22, g23, g24, g25, g26, g27, g28, g29, g30, g31, g32, g33, g34, g35, g36⟩ := id hG
  have r_OW := sx_gr_OW hR
  have r_QM := sx_gr_QM hR
  have hz := sy_or_r hx0 hx1 hy0 hy1
  exact sx_q_ho_2_0 hG (sx_for x y) (⟨hz.1, hz.2.1⟩) (by omega) (by omega) (by omega) (by
    unfold sy_or sx_for
    rw [show 0 + (1 * x + 0) = x by omega, show 0 + (1 * y + 0) = y by omega]
    omega)
theorem sx_p_hl_kn : sx_okw 8 sx_fshl sx_HH sx_r_hl_kn := by
  intro γ A x y hG hR hx0 hx1 hy0 hy1 hn
  have n0 : 0 ≤ (-1) + (1 * γ 18595 + 0) := hn _ (List.Mem.head _)
  have n1 : 0 ≤ 1 + ((-1) * γ 18595 + 0) := hn _ (List.Mem.tail _ (List.Mem.head _))
  have n2 : 0 ≤ (-1) + (1 * x + 0) := hn _ (List.Mem.tail _ (List.Mem.tail _ (List.Mem.head _)))
  have n3 : 0 ≤ 1 + ((-1) * x + 0) := hn _ (List.Mem.tail _ (List.Mem.tail _ (List.Mem.tail _ (List.Mem.head _))))
  have n4 : 0 ≤ 0 + ((-1) * γ 18623 + (1 * y + 0)) := hn _ (List.Mem.tail _ (List.Mem.tail _ (List.Mem.tail _ (List.Mem.tail _ (List.Mem.head _)))))
  have n5 : 0 ≤ 0 + (1 * γ 18623 + ((-1) * y + 0)) := hn _ (List.Mem.tail _ (List.Mem.tail _ (List.Mem.tail _ (List.Mem.tail _ (List.Mem.tail _ (List.Mem.head _))))))
  clear hn
  obtain ⟨g0, g1, g2, g3, g4, g5, g6, g7, g8, g9, g10, g11, g12, g13, g14, g15, g16, g17, g18, g19, g20, g21, g22, g23, g24, g25, g26, g27, g28, g29, g30, g31, g32, g33, g34, g35, g36⟩ := id hG
  have r_KN := sx_gr_KN hR
  have r_QM := sx_gr_QM hR
  have r_WV := sx_gr_WV hR
  have hQ : γ 18595 = 1 := by omega
  have h1 := g18 hQ
  have ex : x = 1 := by omega
  have ey : y = γ 18623 := by omega
  exact sx_q_hl_kn_0 hG (by unfold sx_fshl; rw [ex, ey]; omega)
theorem sx_p_hl_f : sx_okw 8 sx_fshl sx_HH sx_r_hl_f := by
  intro γ A x y hG hR hx0 hx1 hy0 hy1 hn
  have n0 : 0 ≤ (-2) + (1 * γ 18595 + 0) := hn _ (List.Mem.head _)
  have n1 : 0 ≤ 2 + ((-1) * γ 18595 + 0) := hn _ (List.Mem.tail _ (List.Mem.head _))
  have n2 : 0 ≤ (-1) + (1 * x + 0) := hn _ (List.Mem.tail _ (List.Mem.tail _ (List.Mem.head _)))
  have n3 : 0 ≤ 1 + ((-1) * x + 0) := hn _ (List.Mem.tail _ (List.Mem.tail _ (List.Mem.tail _ (List.Mem.head _))))
  have n4 : 0 ≤ 7 + ((-1) * y + 0) := hn _ (List.Mem.tail _ (List.Mem.tail _ (List.Mem.tail _ (List.Mem.tail _ (List.Mem.head _)))))
  clear hn
  obtain ⟨g0, g1, g2, g3, g4, g5, g6, g7, g8, g9, g10, g11, g12, g13, g14, g15, g16, g17, g18, g19, g20, g21, g22, g23, g24, g25, g26, g27, g28, g29, g30, g31, g32, g33, g34, g35, g36⟩ := id hG
  have r_QM := sx_gr_QM hR
  have ex : x = 1 := by omega
  rcases (show y = 0 ∨ y = 1 ∨ y = 2 ∨ y = 3 ∨ y = 4 ∨ y = 5 ∨ y = 6 ∨ y = 7 by omega) with rfl | rfl | rfl | rfl | rfl | rfl | rfl | rfl
  · exact sx_q_hl_f_0 hG (by omega) (by omega) (by rw [ex] <;> rfl)
  · exact sx_q_hl_f_1 hG (by omega) (by omega) (by rw [ex] <;> rfl)
  · exact sx_q_hl_f_2 hG (by omega) (by omega) (by rw [ex] <;> rfl)
  · exact sx_q_hl_f_3 hG (by omega) (by omega) (by rw [ex] <;> rfl)
  · exact sx_q_hl_f_4 hG (by omega) (by omega) (by rw [ex] <;> rfl)
  · exact sx_q_hl_f_5 hG (by omega) (by omega) (by rw [ex] <;> rfl)
  · exact sx_q_hl_f_6 hG (by omega) (by omega) (by rw [ex] <;> rfl)
  · exact sx_q_hl_f_7 hG (by omega) (by omega) (by rw [ex] <;> rfl)
theorem sx_p_hr_g0 : sx_okw 8 sx_fshr sx_HH sx_r_hr_g0 := by
  intro γ A x y hG hR hx0 hx1 hy0 hy1 hn
  have n0 : 0 ≤ (-1) + (1 * γ 18595 + 0) := hn _ (List.Mem.head _)
  have n1 : 0 ≤ 1 + ((-1) * γ 18595 + 0) := hn _ (List.Mem.tail _ (List.Mem.head _))
  have n2 : 0 ≤ 0 + ((-1) * γ 18596 + (1 * x + 0)) := hn _ (List.Mem.tail _ (List.Mem.tail _ (List.Mem.head _)))
  have n3 : 0 ≤ 0 + (1 * γ 18596 + ((-1) * x + 0)) := hn _ (List.Mem.tail _ (List.Mem.tail _ (List.Mem.tail _ (List.Mem.head _))))
  have n4 : 0 ≤ 0 + (1 * y + 0) := hn _ (List.Mem.tail _ (List.Mem.tail _ (List.Mem.tail _ (List.Mem.tail _ (List.Mem.head _)))))
  have n5 : 0 ≤ 0 + ((-1) * y + 0) := hn _ (List.Mem.tail _ (List.Mem.tail _ (List.Mem.tail _ (List.Mem.tail _ (List.Mem.tail _ (List.Mem.head _))))))
  clear hn
  obtain ⟨g0, g1, g2, g3, g4, g5, g6, g7, g8, g9, g10, g11, g12, g13, g14, g15, g16, g17, g18, g19, g20, g21, g22, g23, g24, g25, g26, g27, g28, g29, g30, g31, g32, g33, g34, g35, g36⟩ := id hG
  have r_PG := sx_gr_PG hR
  have r_QM := sx_gr_QM hR
  have r_pg0 := sx_gr_pg0 hR
  have hQ : γ 18595 = 1 := by omega
  obtain ⟨b0, b1, b2, b3, b4, b5, b6, b7⟩ := g9 hQ
  have ex : x = γ 18596 := by omega
  have ey : y = 0 := by omega
  have hz := sy_shr_r (y := y) hx0 hx1
  exact sx_q_hr_g0_0 hG (sx_fshr x y) (hz) (by omega) (by unfold sy_par; rw [ex, ey]; omega)
theorem sx_p_hr_g1 : sx_okw 8 sx_fshr sx_HH sx_r_hr_g1 := by
  intro γ A x y hG hR hx0 hx1 hy0 hy1 hn
  have n0 : 0 ≤ (-1) + (1 * γ 18595 + 0) := hn _ (List.Mem.head _)
  have n1 : 0 ≤ 1 + ((-1) * γ 18595 + 0) := hn _ (List.Mem.tail _ (List.Mem.head _))
  have n2 : 0 ≤ 0 + ((-1) * γ 18596 + (1 * x + 0)) := hn _ (List.Mem.tail _ (List.Mem.tail _ (List.Mem.head _)))
  have n3 : 0 ≤ 0 + (1 * γ 18596 + ((-1) * x + 0)) := hn _ (List.Mem.tail _ (List.Mem.tail _ (List.Mem.tail _ (List.Mem.head _))))
  have n4 : 0 ≤ (-1) + (1 * y + 0) := hn _ (List.Mem.tail _ (List.Mem.tail _ (List.Mem.tail _ (List.Mem.tail _ (List.Mem.head _)))))
  have n5 : 0 ≤ 1 + ((-1) * y + 0) := hn _ (List.Mem.tail _ (List.Mem.tail _ (List.Mem.tail _ (List.Mem.tail _ (List.Mem.tail _ (List.Mem.head _))))))
  clear hn
  obtain ⟨g0, g1, g2, g3, g4, g5, g6, g7, g8, g9, g10, g11, g12, g13, g14, g15, g16, g17, g18, g19, g20, g21, g22, g23, g24, g25, g26, g27, g28, g29, g30, g31, g32, g33, g34, g35, g36⟩ := id hG
  have r_PG := sx_gr_PG hR
  have r_QM := sx_gr_QM hR
  have r_pg1 := sx_gr_pg1 hR
  have hQ : γ 18595 = 1 := by omega
  obtain ⟨b0, b1, b2, b3, b4, b5, b6, b7⟩ := g9 hQ
  have ex : x = γ 18596 := by omega
  have ey : y = 1 := by omega
  have hz := sy_shr_r (y := y) hx0 hx1
  exact sx_q_hr_g1_0 hG (sx_fshr x y) (hz) (by omega) (by unfold sy_par; rw [ex, ey]; omega)
theorem sx_p_hr_g2 : sx_okw 8 sx_fshr sx_HH sx_r_hr_g2 := by
  intro γ A x y hG hR hx0 hx1 hy0 hy1 hn
  have n0 : 0 ≤ (-1) + (1 * γ 18595 + 0) := hn _ (List.Mem.head _)
  have n1 : 0 ≤ 1 + ((-1) * γ 18595 + 0) := hn _ (List.Mem.tail _ (List.Mem.head _))
  have n2 : 0 ≤ 0 + ((-1) * γ 18596 + (1 * x + 0)) := hn _ (List.Mem.tail _ (List.Mem.tail _ (List.Mem.head _)))
  have n3 : 0 ≤ 0 + (1 * γ 18596 + ((-1) * x + 0)) := hn _ (List.Mem.tail _ (List.Mem.tail _ (List.Mem.tail _ (List.Mem.head _))))
  have n4 : 0 ≤ (-2) + (1 * y + 0) := hn _ (List.Mem.tail _ (List.Mem.tail _ (List.Mem.tail _ (List.Mem.tail _ (List.Mem.head _)))))
  have n5 : 0 ≤ 2 + ((-1) * y + 0) := hn _ (List.Mem.tail _ (List.Mem.tail _ (List.Mem.tail _ (List.Mem.tail _ (List.Mem.tail _ (List.Mem.head _))))))
  clear hn
  obtain ⟨g0, g1, g2, g3, g4, g5, g6, g7, g8, g9, g10, g11, g12, g13, g14, g15, g16, g17, g18, g19, g20, g21, g22, g23, g24, g25, g26, g27, g28, g29, g30, g31, g32, g33, g34, g35, g36⟩ := id hG
  have r_PG := sx_gr_PG hR
  have r_QM := sx_gr_QM hR
  have r_pg2 := sx_gr_pg2 hR
  have hQ : γ 18595 = 1 := by omega
  obtain ⟨b0, b1, b2, b3, b4, b5, b6, b7⟩ := g9 hQ
  have ex : x = γ 18596 := by omega
  have ey : y = 2 := by omega
  have hz := sy_shr_r (y := y) hx0 hx1
  exact sx_q_hr_g2_0 hG (sx_fshr x y) (hz) (by omega) (by unfold sy_par; rw [ex, ey]; omega)
theorem sx_p_hr_g3 : sx_okw 8 sx_fshr sx_HH sx_r_hr_g3 := by
  intro γ A x y hG hR hx0 hx1 hy0 hy1 hn
  have n0 : 0 ≤ (-1) + (1 * γ 18595 + 0) := hn _ (List.Mem.head _)
  have n1 : 0 ≤ 1 + ((-1) * γ 18595 + 0) := hn _ (List.Mem.tail _ (List.Mem.head _))
  have n2 : 0 ≤ 0 + ((-1) * γ 18596 + (1 * x + 0)) := hn _ (List.Mem.tail _ (List.Mem.tail _ (List.Mem.head _)))
  have n3 : 0 ≤ 0 + (1 * γ 18596 + ((-1) * x + 0)) := hn _ (List.Mem.tail _ (List.Mem.tail _ (List.Mem.tail _ (List.Mem.head _))))
  have n4 : 0 ≤ (-3) + (1 * y + 0) := hn _ (List.Mem.tail _ (List.Mem.tail _ (List.Mem.tail _ (List.Mem.tail _ (List.Mem.head _)))))
  have n5 : 0 ≤ 3 + ((-1) * y + 0) := hn _ (List.Mem.tail _ (List.Mem.tail _ (List.Mem.tail _ (List.Mem.tail _ (List.Mem.tail _ (List.Mem.head _))))))
  clear hn
  obtain ⟨g0, g1, g2, g3, g4, g5, g6, g7, g8, g9, g10, g11, g12, g13, g14, g15, g16, g17, g18, g19, g20, g21, g22, g23, g24, g25, g26, g27, g28, g29, g30, g31, g32, g33, g34, g35, g36⟩ := id hG
  have r_PG := sx_gr_PG hR
  have r_QM := sx_gr_QM hR
  have r_pg3 := sx_gr_pg3 hR
  have hQ : γ 18595 = 1 := by omega
  obtain ⟨b0, b1, b2, b3, b4, b5, b6, b7⟩ := g9 hQ
  have ex : x = γ 18596 := by omega
  have ey : y = 3 := by omega
  have hz := sy_shr_r (y := y) hx0 hx1
  exact sx_q_hr_g3_0 hG (sx_fshr x y) (hz) (by omega) (by unfold sy_par; rw [ex, ey]; omega)
theorem sx_p_hr_g4 : sx_okw 8 sx_fshr sx_HH sx_r_hr_g4 := by
  intro γ A x y hG hR hx0 hx1 hy0 hy1 hn
  have n0 : 0 ≤ (-1) + (1 * γ 18595 + 0) := hn _ (List.Mem.head _)
  have n1 : 0 ≤ 1 + ((-1) * γ 18595 + 0) := hn _ (List.Mem.tail _ (List.Mem.head _))
  have n2 : 0 ≤ 0 + ((-1) * γ 18596 + (1 * x + 0)) := hn _ (List.Mem.tail _ (List.Mem.tail _ (List.Mem.head _)))
  have n3 : 0 ≤ 0 + (1 * γ 18596 + ((-1) * x + 0)) := hn _ (List.Mem.tail _ (List.Mem.tail _ (List.Mem.tail _ (List.Mem.head _))))
  have n4 : 0 ≤ (-4) + (1 * y + 0) := hn _ (List.Mem.tail _ (List.Mem.tail _ (List.Mem.tail _ (List.Mem.tail _ (List.Mem.head _)))))
  have n5 : 0 ≤ 4 + ((-1) * y + 0) := hn _ (List.Mem.tail _ (List.Mem.tail _ (List.Mem.tail _ (List.Mem.tail _ (List.Mem.tail _ (List.Mem.head _))))))
  clear hn
  obtain ⟨g0, g1, g2, g3, g4, g5, g6, g7, g8, g9, g10, g11, g12, g13, g14, g15, g16, g17, g18, g19, g20, g21, g22, g23, g24, g25, g26, g27, g28, g29, g30, g31, g32, g33, g34, g35, g36⟩ := id hG
  have r_PG := sx_gr_PG hR
  have r_QM := sx_gr_QM hR
  have r_pg4 := sx_gr_pg4 hR
  have hQ : γ 18595 = 1 := by omega
  obtain ⟨b0, b1, b2, b3, b4, b5, b6, b7⟩ := g9 hQ
  have ex : x = γ 18596 := by omega
  have ey : y = 4 := by omega
  have hz := sy_shr_r (y := y) hx0 hx1
  exact sx_q_hr_g4_0 hG (sx_fshr x y) (hz) (by omega) (by unfold sy_par; rw [ex, ey]; omega)
theorem sx_p_hr_g5 : sx_okw 8 sx_fshr sx_HH sx_r_hr_g5 := by
  intro γ A x y hG hR hx0 hx1 hy0 hy1 hn
  have n0 : 0 ≤ (-1) + (1 * γ 18595 + 0) := hn _ (List.Mem.head _)
  have n1 : 0 ≤ 1 + ((-1) * γ 18595 + 0) := hn _ (List.Mem.tail _ (List.Mem.head _))
  have n2 : 0 ≤ 0 + ((-1) * γ 18596 + (1 * x + 0)) := hn _ (List.Mem.tail _ (List.Mem.tail _ (List.Mem.head _)))
  have n3 : 0 ≤ 0 + (1 * γ 18596 + ((-1) * x + 0)) := hn _ (List.Mem.tail _ (List.Mem.tail _ (List.Mem.tail _ (List.Mem.head _))))
  have n4 : 0 ≤ (-5) + (1 * y + 0) := hn _ (List.Mem.tail _ (List.Mem.tail _ (List.Mem.tail _ (List.Mem.tail _ (List.Mem.head _)))))
  have n5 : 0 ≤ 5 + ((-1) * y + 0) := hn _ (List.Mem.tail _ (List.Mem.tail _ (List.Mem.tail _ (List.Mem.tail _ (List.Mem.tail _ (List.Mem.head _))))))
  clear hn
  obtain ⟨g0, g1, g2, g3, g4, g5, g6, g7, g8, g9, g10, g11, g12, g13, g14, g15, g16, g17, g18, g19, g20, g21, g22, g23, g24, g25, g26, g27, g28, g29, g30, g31, g32, g33, g34, g35, g36⟩ := id hG
  have r_PG := sx_gr_PG hR
  have r_QM := sx_gr_QM hR
  have r_pg5 := sx_gr_pg5 hR
  have hQ : γ 18595 = 1 := by omega
  obtain ⟨b0, b1, b2, b3, b4, b5, b6, b7⟩ := g9 hQ
  have ex : x = γ 18596 := by omega
  have ey : y = 5 := by omega
  have hz := sy_shr_r (y := y) hx0 hx1
  exact sx_q_hr_g5_0 hG (sx_fshr x y) (hz) (by omega) (by unfold sy_par; rw [ex, ey]; omega)
theorem sx_p_hr_g6 : sx_okw 8 sx_fshr sx_HH sx_r_hr_g6 := by
  intro γ A x y hG hR hx0 hx1 hy0 hy1 hn
  have n0 : 0 ≤ (-1) + (1 * γ 18595 + 0) := hn _ (List.Mem.head _)
  have n1 : 0 ≤ 1 + ((-1) * γ 18595 + 0) := hn _ (List.Mem.tail _ (List.Mem.head _))
  have n2 : 0 ≤ 0 + ((-1) * γ 18596 + (1 * x + 0)) := hn _ (List.Mem.tail _ (List.Mem.tail _ (List.Mem.head _)))
  have n3 : 0 ≤ 0 + (1 * γ 18596 + ((-1) * x + 0)) := hn _ (List.Mem.tail _ (List.Mem.tail _ (List.Mem.tail _ (List.Mem.head _))))
  have n4 : 0 ≤ (-6) + (1 * y + 0) := hn _ (List.Mem.tail _ (List.Mem.tail _ (List.Mem.tail _ (List.Mem.tail _ (List.Mem.head _)))))
  have n5 : 0 ≤ 6 + ((-1) * y + 0) := hn _ (List.Mem.tail _ (List.Mem.tail _ (List.Mem.tail _ (List.Mem.tail _ (List.Mem.tail _ (List.Mem.head _))))))
  clear hn
  obtain ⟨g0, g1, g2, g3, g4, g5, g6, g7, g8, g9, g10, g11, g12, g13, g14, g15, g16, g17, g18, g19, g20, g21, g22, g23, g24, g25, g26, g27, g28, g29, g30, g31, g32, g33, g34, g35, g36⟩ := id hG
  have r_PG := sx_gr_PG hR
  have r_QM := sx_gr_QM hR
  have r_pg6 := sx_gr_pg6 hR
  have hQ : γ 18595 = 1 := by omega
  obtain ⟨b0, b1, b2, b3, b4, b5, b6, b7⟩ := g9 hQ
  have ex : x = γ 18596 := by omega
  have ey : y = 6 := by omega
  have hz := sy_shr_r (y := y) hx0 hx1
  exact sx_q_hr_g6_0 hG (sx_fshr x y) (hz) (by omega) (by unfold sy_par; rw [ex, ey]; omega)
theorem sx_p_hr_g7 : sx_okw 8 sx_fshr sx_HH sx_r_hr_g7 := by
  intro γ A x y hG hR hx0 hx1 hy0 hy1 hn
  have n0 : 0 ≤ (-1) + (1 * γ 18595 + 0) := hn _ (List.Mem.head _)
  have n1 : 0 ≤ 1 + ((-1) * γ 18595 + 0) := hn _ (List.Mem.tail _ (List.Mem.head _))
  have n2 : 0 ≤ 0 + ((-1) * γ 18596 + (1 * x + 0)) := hn _ (List.Mem.tail _ (List.Mem.tail _ (List.Mem.head _)))
  have n3 : 0 ≤ 0 + (1 * γ 18596 + ((-1) * x + 0)) := hn _ (List.Mem.tail _ (List.Mem.tail _ (List.Mem.tail _ (List.Mem.head _))))
  have n4 : 0 ≤ (-7) + (1 * y + 0) := hn _ (List.Mem.tail _ (List.Mem.tail _ (List.Mem.tail _ (List.Mem.tail _ (List.Mem.head _)))))
  have n5 : 0 ≤ 7 + ((-1) * y + 0) := hn _ (List.Mem.tail _ (List.Mem.tail _ (List.Mem.tail _ (List.Mem.tail _ (List.Mem.tail _ (List.Mem.head _))))))
  clear hn
  obtain ⟨g0, g1, g2, g3, g4, g5, g6, g7, g8, g9, g10, g11, g12, g13, g14, g15, g16, g17, g18, g19, g20, g21, g22, g23, g24, g25, g26, g27, g28, g29, g30, g31, g32, g33, g34, g35, g36⟩ := id hG
  have r_PG := sx_gr_PG hR
  have r_QM := sx_gr_QM hR
  have r_pg7 := sx_gr_pg7 hR
  have hQ : γ 18595 = 1 := by omega
  obtain ⟨b0, b1, b2, b3, b4, b5, b6, b7⟩ := g9 hQ
  have ex : x = γ 18596 := by omega
  have ey : y = 7 := by omega
  have hz := sy_shr_r (y := y) hx0 hx1
  exact sx_q_hr_g7_0 hG (sx_fshr x y) (hz) (by omega) (by unfold sy_par; rw [ex, ey]; omega)
theorem sx_p_hr_s : sx_okw 8 sx_fshr sx_HH sx_r_hr_s := by
  intro γ A x y hG hR hx0 hx1 hy0 hy1 hn
  have n0 : 0 ≤ (-1) + (1 * γ 18595 + 0) := hn _ (List.Mem.head _)
  have n1 : 0 ≤ 1 + ((-1) * γ 18595 + 0) := hn _ (List.Mem.tail _ (List.Mem.head _))
  have n2 : 0 ≤ 0 + ((-1) * γ 18625 + (1 * x + 0)) := hn _ (List.Mem.tail _ (List.Mem.tail _ (List.Mem.head _)))
  have n3 : 0 ≤ 0 + (1 * γ 18625 + ((-1) * x + 0)) := hn _ (List.Mem.tail _ (List.Mem.tail _ (List.Mem.tail _ (List.Mem.head _))))
  have n4 : 0 ≤ 1 + ((-1) * γ 18627 + (1 * y + 0)) := hn _ (List.Mem.tail _ (List.Mem.tail _ (List.Mem.tail _ (List.Mem.tail _ (List.Mem.head _)))))
  have n5 : 0 ≤ (-1) + (1 * γ 18627 + ((-1) * y + 0)) := hn _ (List.Mem.tail _ (List.Mem.tail _ (List.Mem.tail _ (List.Mem.tail _ (List.Mem.tail _ (List.Mem.head _))))))
  have n6 : 0 ≤ (-1) + (1 * γ 18627 + 0) := hn _ (List.Mem.tail _ (List.Mem.tail _ (List.Mem.tail _ (List.Mem.tail _ (List.Mem.tail _ (List.Mem.tail _ (List.Mem.head _)))))))
  clear hn
  obtain ⟨g0, g1, g2, g3, g4, g5, g6, g7, g8, g9, g10, g11, g12, g13, g14, g15, g16, g17, g18, g19, g20, g21, g22, g23, g24, g25, g26, g27, g28, g29, g30, g31, g32, g33, g34, g35, g36⟩ := id hG
  have r_PB := sx_gr_PB hR
  have r_QM := sx_gr_QM hR
  have r_SZ := sx_gr_SZ hR
  have r_ZS := sx_gr_ZS hR
  have hQ : γ 18595 = 1 := by omega
  have h1 := (g19 hQ).1
  have ex : x = γ 18625 := by omega
  have ey : y = γ 18627 - 1 := by omega
  have hz := sy_shr_r (y := y) hx0 hx1
  exact sx_q_hr_s_0 hG (sx_fshr x y) (hz) (by omega) (by unfold sy_par; rw [ex, ey]; omega)
theorem sx_p_hr_ga0 : sx_okw 8 sx_fshr sx_HH sx_r_hr_ga0 := by
  intro γ A x y hG hR hx0 hx1 hy0 hy1 hn
  have n0 : 0 ≤ (-1) + (1 * γ 18595 + 0) := hn _ (List.Mem.head _)
  have n1 : 0 ≤ 1 + ((-1) * γ 18595 + 0) := hn _ (List.Mem.tail _ (List.Mem.head _))
  have n2 : 0 ≤ 0 + ((-1) * γ 18596 + (1 * x + 0)) := hn _ (List.Mem.tail _ (List.Mem.tail _ (List.Mem.head _)))
  have n3 : 0 ≤ 0 + (1 * γ 18596 + ((-1) * x + 0)) := hn _ (List.Mem.tail _ (List.Mem.tail _ (List.Mem.tail _ (List.Mem.head _))))
  have n4 : 0 ≤ 0 + ((-1) * γ 18552 + (1 * y + 0)) := hn _ (List.Mem.tail _ (List.Mem.tail _ (List.Mem.tail _ (List.Mem.tail _ (List.Mem.head _)))))
  have n5 : 0 ≤ 0 + (1 * γ 18552 + ((-1) * y + 0)) := hn _ (List.Mem.tail _ (List.Mem.tail _ (List.Mem.tail _ (List.Mem.tail _ (List.Mem.tail _ (List.Mem.head _))))))
  clear hn
  obtain ⟨g0, g1, g2, g3, g4, g5, g6, g7, g8, g9, g10, g11, g12, g13, g14, g15, g16, g17, g18, g19, g20, g21, g22, g23, g24, g25, g26, g27, g28, g29, g30, g31, g32, g33, g34, g35, g36⟩ := id hG
  have r_MA0 := sx_gr_MA0 hR
  have r_PG := sx_gr_PG hR
  have r_QM := sx_gr_QM hR
  have r_ga0 := sx_gr_ga0 hR
  have hQ : γ 18595 = 1 := by omega
  have h1 := (g21 hQ).1
  have ex : x = γ 18596 := by omega
  have ey : y = γ 18552 := by omega
  have hz := sy_shr_r (y := y) hx0 hx1
  exact sx_q_hr_ga0_0 hG (sx_fshr x y) (hz) (by omega) (by unfold sy_par; rw [ex, ey]; omega)
theorem sx_p_hr_gb0 : sx_okw 8 sx_fshr sx_HH sx_r_hr_gb0 := by
  intro γ A x y hG hR hx0 hx1 hy0 hy1 hn
  have n0 : 0 ≤ (-1) + (1 * γ 18595 + 0) := hn _ (List.Mem.head _)
  have n1 : 0 ≤ 1 + ((-1) * γ 18595 + 0) := hn _ (List.Mem.tail _ (List.Mem.head _))
  have n2 : 0 ≤ 0 + ((-1) * γ 18596 + (1 * x + 0)) := hn _ (List.Mem.tail _ (List.Mem.tail _ (List.Mem.head _)))
  have n3 : 0 ≤ 0 + (1 * γ 18596 + ((-1) * x + 0)) := hn _ (List.Mem.tail _ (List.Mem.tail _ (List.Mem.tail _ (List.Mem.head _))))
  have n4 : 0 ≤ 0 + ((-1) * γ 18564 + (1 * y + 0)) := hn _ (List.Mem.tail _ (List.Mem.tail _ (List.Mem.tail _ (List.Mem.tail _ (List.Mem.head _)))))
  have n5 : 0 ≤ 0 + (1 * γ 18564 + ((-1) * y + 0)) := hn _ (List.Mem.tail _ (List.Mem.tail _ (List.Mem.tail _ (List.Mem.tail _ (List.Mem.tail _ (List.Mem.head _))))))
  clear hn
  obtain ⟨g0, g1, g2, g3, g4, g5, g6, g7, g8, g9, g10, g11, g12, g13, g14, g15, g16, g17, g18, g19, g20, g21, g22, g23, g24, g25, g26, g27, g28, g29, g30, g31, g32, g33, g34, g35, g36⟩ := id hG
  have r_MB0 := sx_gr_MB0 hR
  have r_PG := sx_gr_PG hR
  have r_QM := sx_gr_QM hR
  have r_gb0 := sx_gr_gb0 hR
  have hQ : γ 18595 = 1 := by omega
  have h1 := (g21 hQ).2.1
  have ex : x = γ 18596 := by omega
  have ey : y = γ 18564 := by omega
  have hz := sy_shr_r (y := y) hx0 hx1
  exact sx_q_hr_gb0_0 hG (sx_fshr x y) (hz) (by omega) (by unfold sy_par; rw [ex, ey]; omega)
theorem sx_p_hr_ta0 : sx_okw 8 sx_fshr sx_HH sx_r_hr_ta0 := by
  intro γ A x y hG hR hx0 hx1 hy0 hy1 hn
  have n0 : 0 ≤ (-1) + (1 * γ 18595 + 0) := hn _ (List.Mem.head _)
  have n1 : 0 ≤ 1 + ((-1) * γ 18595 + 0) := hn _ (List.Mem.tail _ (List.Mem.head _))
  have n2 : 0 ≤ 0 + ((-1) * γ 18624 + (1 * x + 0)) := hn _ (List.Mem.tail _ (List.Mem.tail _ (List.Mem.head _)))
  have n3 : 0 ≤ 0 + (1 * γ 18624 + ((-1) * x + 0)) := hn _ (List.Mem.tail _ (List.Mem.tail _ (List.Mem.tail _ (List.Mem.head _))))
  have n4 : 0 ≤ 0 + ((-1) * γ 18552 + (1 * y + 0)) := hn _ (List.Mem.tail _ (List.Mem.tail _ (List.Mem.tail _ (List.Mem.tail _ (List.Mem.head _)))))
  have n5 : 0 ≤ 0 + (1 * γ 18552 + ((-1) * y + 0)) := hn _ (List.Mem.tail _ (List.Mem.tail _ (List.Mem.tail _ (List.Mem.tail _ (List.Mem.tail _ (List.Mem.head _))))))
  have n6 : 0 ≤ (-1) + (1 * γ 18657 + 0) := hn _ (List.Mem.tail _ (List.Mem.tail _ (List.Mem.tail _ (List.Mem.tail _ (List.Mem.tail _ (List.Mem.tail _ (List.Mem.head _)))))))
  clear hn
  obtain ⟨g0, g1, g2, g3, g4, g5, g6, g7, g8, g9, g10, g11, g12, g13, g14, g15, g16, g17, g18, g19, g20, g21, g22, g23, g24, g25, g26, g27, g28, g29, g30, g31, g32, g33, g34, g35, g36⟩ := id hG
  have r_MA0 := sx_gr_MA0 hR
  have r_MQ := sx_gr_MQ hR
  have r_QM := sx_gr_QM hR
  have r_WV := sx_gr_WV hR
  have hQ : γ 18595 = 1 := by omega
  have h1 := ((g21 hQ).2.2 (by omega)).1
  have hk8 := sx_gr_KN hR
  have h2 := sy_odd (g18 hQ) (a := y) (by omega) (by omega) (by omega)
  have ex : x = γ 18624 := by omega
  rw [← ex] at h2
  have hz := sy_shr_r (y := y) hx0 hx1
  exact sx_q_hr_ta0_0 hG (sx_fshr x y) (hz) (by omega) (by unfold sy_par; omega)
theorem sx_p_hr_tb0 : sx_okw 8 sx_fshr sx_HH sx_r_hr_tb0 := by
  intro γ A x y hG hR hx0 hx1 hy0 hy1 hn
  have n0 : 0 ≤ (-1) + (1 * γ 18595 + 0) := hn _ (List.Mem.head _)
  have n1 : 0 ≤ 1 + ((-1) * γ 18595 + 0) := hn _ (List.Mem.tail _ (List.Mem.head _))
  have n2 : 0 ≤ 0 + ((-1) * γ 18624 + (1 * x + 0)) := hn _ (List.Mem.tail _ (List.Mem.tail _ (List.Mem.head _)))
  have n3 : 0 ≤ 0 + (1 * γ 18624 + ((-1) * x + 0)) := hn _ (List.Mem.tail _ (List.Mem.tail _ (List.Mem.tail _ (List.Mem.head _))))
  have n4 : 0 ≤ 0 + ((-1) * γ 18564 + (1 * y + 0)) := hn _ (List.Mem.tail _ (List.Mem.tail _ (List.Mem.tail _ (List.Mem.tail _ (List.Mem.head _)))))
  have n5 : 0 ≤ 0 + (1 * γ 18564 + ((-1) * y + 0)) := hn _ (List.Mem.tail _ (List.Mem.tail _ (List.Mem.tail _ (List.Mem.tail _ (List.Mem.tail _ (List.Mem.head _))))))
  have n6 : 0 ≤ (-1) + (1 * γ 18657 + 0) := hn _ (List.Mem.tail _ (List.Mem.tail _ (List.Mem.tail _ (List.Mem.tail _ (List.Mem.tail _ (List.Mem.tail _ (List.Mem.head _)))))))
  clear hn
  obtain ⟨g0, g1, g2, g3, g4, g5, g6, g7, g8, g9, g10, g11, g12, g13, g14, g15, g16, g17, g18, g19, g20, g21, g22, g23, g24, g25, g26, g27, g28, g29, g30, g31, g32, g33, g34, g35, g36⟩ := id hG
  have r_MB0 := sx_gr_MB0 hR
  have r_MQ := sx_gr_MQ hR
  have r_QM := sx_gr_QM hR
  have r_WV := sx_gr_WV hR
  have hQ : γ 18595 = 1 := by omega
  have h1 := ((g21 hQ).2.2 (by omega)).2
  have hk8 := sx_gr_KN hR
  have h2 := sy_odd (g18 hQ) (a := y) (by omega) (by omega) (by omega)
  have ex : x = γ 18624 := by omega
  rw [← ex] at h2
  have hz := sy_shr_r (y := y) hx0 hx1
  exact sx_q_hr_tb0_0 hG (sx_fshr x y) (hz) (by omega) (by unfold sy_par; omega)
theorem sx_p_hr_ga1 : sx_okw 8 sx_fshr sx_HH sx_r_hr_ga1 := by
  intro γ A x y hG hR hx0 hx1 hy0 hy1 hn
  have n0 : 0 ≤ (-1) + (1 * γ 18595 + 0) := hn _ (List.Mem.head _)
  have n1 : 0 ≤ 1 + ((-1) * γ 18595 + 0) := hn _ (List.Mem.tail _ (List.Mem.head _))
  have n2 : 0 ≤ 0 + ((-1) * γ 18596 + (1 * x + 0)) := hn _ (List.Mem.tail _ (List.Mem.tail _ (List.Mem.head _)))
  have n3 : 0 ≤ 0 + (1 * γ 18596 + ((-1) * x + 0)) := hn _ (List.Mem.tail _ (List.Mem.tail _ (List.Mem.tail _ (List.Mem.head _))))
  have n4 : 0 ≤ 0 + ((-1) * γ 18553 + (1 * y + 0)) := hn _ (List.Mem.tail _ (List.Mem.tail _ (List.Mem.tail _ (List.Mem.tail _ (List.Mem.head _)))))
  have n5 : 0 ≤ 0 + (1 * γ 18553 + ((-1) * y + 0)) := hn _ (List.Mem.tail _ (List.Mem.tail _ (List.Mem.tail _ (List.Mem.tail _ (List.Mem.tail _ (List.Mem.head _))))))
  clear hn
  obtain ⟨g0, g1, g2, g3, g4, g5, g6, g7, g8, g9, g10, g11, g12, g13, g14, g15, g16, g17, g18, g19, g20, g21, g22, g23, g24, g25, g26, g27, g28, g29, g30, g31, g32, g33, g34, g35, g36⟩ := id hG
  have r_MA1 := sx_gr_MA1 hR
  have r_PG := sx_gr_PG hR
  have r_QM := sx_gr_QM hR
  have r_ga1 := sx_gr_ga1 hR
  have hQ : γ 18595 = 1 := by omega
  have h1 := (g22 hQ).1
  have ex : x = γ 18596 := by omega
  have ey : y = γ 18553 := by omega
  have hz := sy_shr_r (y := y) hx0 hx1
  exact sx_q_hr_ga1_0 hG (sx_fshr x y) (hz) (by omega) (by unfold sy_par; rw [ex, ey]; omega)
theorem sx_p_hr_gb1 : sx_okw 8 sx_fshr sx_HH sx_r_hr_gb1 := by
  intro γ A x y hG hR hx0 hx1 hy0 hy1 hn
  have n0 : 0 ≤ (-1) + (1 * γ 18595 + 0) := hn _ (List.Mem.head _)
  have n1 : 0 ≤ 1 + ((-1) * γ 18595 + 0) := hn _ (List.Mem.tail _ (List.Mem.head _))
  have n2 : 0 ≤ 0 + ((-1) * γ 18596 + (1 * x + 0)) := hn _ (List.Mem.tail _ (List.Mem.tail _ (List.Mem.head _)))
  have n3 : 0 ≤ 0 + (1 * γ 18596 + ((-1) * x + 0)) := hn _ (List.Mem.tail _ (List.Mem.tail _ (List.Mem.tail _ (List.Mem.head _))))
  have n4 : 0 ≤ 0 + ((-1) * γ 18565 + (1 * y + 0)) := hn _ (List.Mem.tail _ (List.Mem.tail _ (List.Mem.tail _ (List.Mem.tail _ (List.Mem.head _)))))
  have n5 : 0 ≤ 0 + (1 * γ 18565 + ((-1) * y + 0)) := hn _ (List.Mem.tail _ (List.Mem.tail _ (List.Mem.tail _ (List.Mem.tail _ (List.Mem.tail _ (List.Mem.head _))))))
  clear hn
  obtain ⟨g0, g1, g2, g3, g4, g5, g6, g7, g8, g9, g10, g11, g12, g13, g14, g15, g16, g17, g18, g19, g20, g21, g22, g23, g24, g25, g26, g27, g28, g29, g30, g31, g32, g33, g34, g35, g36⟩ := id hG
  have r_MB1 := sx_gr_MB1 hR
  have r_PG := sx_gr_PG hR
  have r_QM := sx_gr_QM hR
  have r_gb1 := sx_gr_gb1 hR
  have hQ : γ 18595 = 1 := by omega
  have h1 := (g22 hQ).2.1
  have ex : x = γ 18596 := by omega
  have ey : y = γ 18565 := by omega
  have hz := sy_shr_r (y := y) hx0 hx1
  exact sx_q_hr_gb1_0 hG (sx_fshr x y) (hz) (by omega) (by unfold sy_par; rw [ex, ey]; omega)
theorem sx_p_hr_ta1 : sx_okw 8 sx_fshr sx_HH sx_r_hr_ta1 := by
  intro γ A x y hG hR hx0 hx1 hy0 hy1 hn
  have n0 : 0 ≤ (-1) + (1 * γ 18595 + 0) := hn _ (List.Mem.head _)
  have n1 : 0 ≤ 1 + ((-1) * γ 18595 + 0) := hn _ (List.Mem.tail _ (List.Mem.head _))
  have n2 : 0 ≤ 0 + ((-1) * γ 18624 + (1 * x + 0)) := hn _ (List.Mem.tail _ (List.Mem.tail _ (List.Mem.head _)))
  have n3 : 0 ≤ 0 + (1 * γ 18624 + ((-1) * x + 0)) := hn _ (List.Mem.tail _ (List.Mem.tail _ (List.Mem.tail _ (List.Mem.head _))))
  have n4 : 0 ≤ 0 + ((-1) * γ 18553 + (1 * y + 0)) := hn _ (List.Mem.tail _ (List.Mem.tail _ (List.Mem.tail _ (List.Mem.tail _ (List.Mem.head _)))))
  have n5 : 0 ≤ 0 + (1 * γ 18553 + ((-1) * y + 0)) := hn _ (List.Mem.tail _ (List.Mem.tail _ (List.Mem.tail _ (List.Mem.tail _ (List.Mem.tail _ (List.Mem.head _))))))
  have n6 : 0 ≤ (-2) + (1 * γ 18657 + 0) := hn _ (List.Mem.tail _ (List.Mem.tail _ (List.Mem.tail _ (List.Mem.tail _ (List.Mem.tail _ (List.Mem.tail _ (List.Mem.head _)))))))
  clear hn
  obtain ⟨g0, g1, g2, g3, g4, g5, g6, g7, g8, g9, g10, g11, g12, g13, g14, g15, g16, g17, g18, g19, g20, g21, g22, g23, g24, g25, g26, g27, g28, g29, g30, g31, g32, g33, g34, g35, g36⟩ := id hG
  have r_MA1 := sx_gr_MA1 hR
  have r_MQ := sx_gr_MQ hR
  have r_QM := sx_gr_QM hR
  have r_WV := sx_gr_WV hR
  have hQ : γ 18595 = 1 := by omega
  have h1 := ((g22 hQ).2.2 (by omega)).1
  have hk8 := sx_gr_KN hR
  have h2 := sy_odd (g18 hQ) (a := y) (by omega) (by omega) (by omega)
  have ex : x = γ 18624 := by omega
  rw [← ex] at h2
  have hz := sy_shr_r (y := y) hx0 hx1
  exact sx_q_hr_ta1_0 hG (sx_fshr x y) (hz) (by omega) (by unfold sy_par; omega)
theorem sx_p_hr_tb1 : sx_okw 8 sx_fshr sx_HH sx_r_hr_tb1 := by
  intro γ A x y hG hR hx0 hx1 hy0 hy1 hn
  have n0 : 0 ≤ (-1) + (1 * γ 18595 + 0) := hn _ (List.Mem.head _)
  have n1 : 0 ≤ 1 + ((-1) * γ 18595 + 0) := hn _ (List.Mem.tail _ (List.Mem.head _))
  have n2 : 0 ≤ 0 + ((-1) * γ 18624 + (1 * x + 0)) := hn _ (List.Mem.tail _ (List.Mem.tail _ (List.Mem.head _)))
  have n3 : 0 ≤ 0 + (1 * γ 18624 + ((-1) * x + 0)) := hn _ (List.Mem.tail _ (List.Mem.tail _ (List.Mem.tail _ (List.Mem.head _))))
  have n4 : 0 ≤ 0 + ((-1) * γ 18565 + (1 * y + 0)) := hn _ (List.Mem.tail _ (List.Mem.tail _ (List.Mem.tail _ (List.Mem.tail _ (List.Mem.head _)))))
  have n5 : 0 ≤ 0 + (1 * γ 18565 + ((-1) * y + 0)) := hn _ (List.Mem.tail _ (List.Mem.tail _ (List.Mem.tail _ (List.Mem.tail _ (List.Mem.tail _ (List.Mem.head _))))))
  have n6 : 0 ≤ (-2) + (1 * γ 18657 + 0) := hn _ (List.Mem.tail _ (List.Mem.tail _ (List.Mem.tail _ (List.Mem.tail _ (List.Mem.tail _ (List.Mem.tail _ (List.Mem.head _)))))))
  clear hn
  obtain ⟨g0, g1, g2, g3, g4, g5, g6, g7, g8, g9, g10, g11, g12, g13, g14, g15, g16, g17, g18, g19, g20, g21, g22, g23, g24, g25, g26, g27, g28, g29, g30, g31, g32, g33, g34, g35, g36⟩ := id hG
  have r_MB1 := sx_gr_MB1 hR
  have r_MQ := sx_gr_MQ hR
  have r_QM := sx_gr_QM hR
  have r_WV := sx_gr_WV hR
  have hQ : γ 18595 = 1 := by omega
  have h1 := ((g22 hQ).2.2 (by omega)).2
  have hk8 := sx_gr_KN hR
  have h2 := sy_odd (g18 hQ) (a := y) (by omega) (by omega) (by omega)
  have ex : x = γ 18624 := by omega
  rw [← ex] at h2
  have hz := sy_shr_r (y := y) hx0 hx1
  exact sx_q_hr_tb1_0 hG (sx_fshr x y) (hz) (by omega) (by unfold sy_par; omega)
theorem sx_p_hr_ga2 : sx_okw 8 sx_fshr sx_HH sx_r_hr_ga2 := by
  intro γ A x y hG hR hx0 hx1 hy0 hy1 hn
  have n0 : 0 ≤ (-1) + (1 * γ 18595 + 0) := hn _ (List.Mem.head _)
  have n1 : 0 ≤ 1 + ((-1) * γ 18595 + 0) := hn _ (List.Mem.tail _ (List.Mem.head _))
  have n2 : 0 ≤ 0 + ((-1) * γ 18596 + (1 * x + 0)) := hn _ (List.Mem.tail _ (List.Mem.tail _ (List.Mem.head _)))
  have n3 : 0 ≤ 0 + (1 * γ 18596 + ((-1) * x + 0)) := hn _ (List.Mem.tail _ (List.Mem.tail _ (List.Mem.tail _ (List.Mem.head _))))
  have n4 : 0 ≤ 0 + ((-1) * γ 18554 + (1 * y + 0)) := hn _ (List.Mem.tail _ (List.Mem.tail _ (List.Mem.tail _ (List.Mem.tail _ (List.Mem.head _)))))
  have n5 : 0 ≤ 0 + (1 * γ 18554 + ((-1) * y + 0)) := hn _ (List.Mem.tail _ (List.Mem.tail _ (List.Mem.tail _ (List.Mem.tail _ (List.Mem.tail _ (List.Mem.head _))))))
  clear hn
  obtain ⟨g0, g1, g2, g3, g4, g5, g6, g7, g8, g9, g10, g11, g12, g13, g14, g15, g16, g17, g18, g19, g20, g21, g22, g23, g24, g25, g26, g27, g28, g29, g30, g31, g32, g33, g34, g35, g36⟩ := id hG
  have r_MA2 := sx_gr_MA2 hR
  have r_PG := sx_gr_PG hR
  have r_QM := sx_gr_QM hR
  have r_ga2 := sx_gr_ga2 hR
  have hQ : γ 18595 = 1 := by omega
  have h1 := (g23 hQ).1
  have ex : x = γ 18596 := by omega
  have ey : y = γ 18554 := by omega
  have hz := sy_shr_r (y := y) hx0 hx1
  exact sx_q_hr_ga2_0 hG (sx_fshr x y) (hz) (by omega) (by unfold sy_par; rw [ex, ey]; omega)
theorem sx_p_hr_gb2 : sx_okw 8 sx_fshr sx_HH sx_r_hr_gb2 := by
  intro γ A x y hG hR hx0 hx1 hy0 hy1 hn
  have n0 : 0 ≤ (-1) + (1 * γ 18595 + 0) := hn _ (List.Mem.head _)
  have n1 : 0 ≤ 1 + ((-1) * γ 18595 + 0) := hn _ (List.Mem.tail _ (List.Mem.head _))
  have n2 : 0 ≤ 0 + ((-1) * γ 18596 + (1 * x + 0)) := hn _ (List.Mem.tail _ (List.Mem.tail _ (List.Mem.head _)))
  have n3 : 0 ≤ 0 + (1 * γ 18596 + ((-1) * x + 0)) := hn _ (List.Mem.tail _ (List.Mem.tail _ (List.Mem.tail _ (List.Mem.head _))))
  have n4 : 0 ≤ 0 + ((-1) * γ 18566 + (1 * y + 0)) := hn _ (List.Mem.tail _ (List.Mem.tail _ (List.Mem.tail _ (List.Mem.tail _ (List.Mem.head _)))))
  have n5 : 0 ≤ 0 + (1 * γ 18566 + ((-1) * y + 0)) := hn _ (List.Mem.tail _ (List.Mem.tail _ (List.Mem.tail _ (List.Mem.tail _ (List.Mem.tail _ (List.Mem.head _))))))
  clear hn
  obtain ⟨g0, g1, g2, g3, g4, g5, g6, g7, g8, g9, g10, g11, g12, g13, g14, g15, g16, g17, g18, g19, g20, g21, g22, g23, g24, g25, g26, g27, g28, g29, g30, g31, g32, g33, g34, g35, g36⟩ := id hG
  have r_MB2 := sx_gr_MB2 hR
  have r_PG := sx_gr_PG hR
  have r_QM := sx_gr_QM hR
  have r_gb2 := sx_gr_gb2 hR
  have hQ : γ 18595 = 1 := by omega
  have h1 := (g23 hQ).2.1
  have ex : x = γ 18596 := by omega
  have ey : y = γ 18566 := by omega
  have hz := sy_shr_r (y := y) hx0 hx1
  exact sx_q_hr_gb2_0 hG (sx_fshr x y) (hz) (by omega) (by unfold sy_par; rw [ex, ey]; omega)
theorem sx_p_hr_ta2 : sx_okw 8 sx_fshr sx_HH sx_r_hr_ta2 := by
  intro γ A x y hG hR hx0 hx1 hy0 hy1 hn
  have n0 : 0 ≤ (-1) + (1 * γ 18595 + 0) := hn _ (List.Mem.head _)
  have n1 : 0 ≤ 1 + ((-1) * γ 18595 + 0) := hn _ (List.Mem.tail _ (List.Mem.head _))
  have n2 : 0 ≤ 0 + ((-1) * γ 18624 + (1 * x + 0)) := hn _ (List.Mem.tail _ (List.Mem.tail _ (List.Mem.head _)))
  have n3 : 0 ≤ 0 + (1 * γ 18624 + ((-1) * x + 0)) := hn _ (List.Mem.tail _ (List.Mem.tail _ (List.Mem.tail _ (List.Mem.head _))))
  have n4 : 0 ≤ 0 + ((-1) * γ 18554 + (1 * y + 0)) := hn _ (List.Mem.tail _ (List.Mem.tail _ (List.Mem.tail _ (List.Mem.tail _ (List.Mem.head _)))))
  have n5 : 0 ≤ 0 + (1 * γ 18554 + ((-1) * y + 0)) := hn _ (List.Mem.tail _ (List.Mem.tail _ (List.Mem.tail _ (List.Mem.tail _ (List.Mem.tail _ (List.Mem.head _))))))
  have n6 : 0 ≤ (-3) + (1 * γ 18657 + 0) := hn _ (List.Mem.tail _ (List.Mem.tail _ (List.Mem.tail _ (List.Mem.tail _ (List.Mem.tail _ (List.Mem.tail _ (List.Mem.head _)))))))
  clear hn
  obtain ⟨g0, g1, g2, g3, g4, g5, g6, g7, g8, g9, g10, g11, g12, g13, g14, g15, g16, g17, g18, g19, g20, g21, g22, g23, g24, g25, g26, g27, g28, g29, g30, g31, g32, g33, g34, g35, g36⟩ := id hG
  have r_MA2 := sx_gr_MA2 hR
  have r_MQ := sx_gr_MQ hR
  have r_QM := sx_gr_QM hR
  have r_WV := sx_gr_WV hR
  have hQ : γ 18595 = 1 := by omega
  have h1 := ((g23 hQ).2.2 (by omega)).1
  have hk8 := sx_gr_KN hR
  have h2 := sy_odd (g18 hQ) (a := y) (by omega) (by omega) (by omega)
  have ex : x = γ 18624 := by omega
  rw [← ex] at h2
  have hz := sy_shr_r (y := y) hx0 hx1
  exact sx_q_hr_ta2_0 hG (sx_fshr x y) (hz) (by omega) (by unfold sy_par; omega)
theorem sx_p_hr_tb2 : sx_okw 8 sx_fshr sx_HH sx_r_hr_tb2 := by
  intro γ A x y hG hR hx0 hx1 hy0 hy1 hn
  have n0 : 0 ≤ (-1) + (1 * γ 18595 + 0) := hn _ (List.Mem.head _)
  have n1 : 0 ≤ 1 + ((-1) * γ 18595 + 0) := hn _ (List.Mem.tail _ (List.Mem.head _))
  have n2 : 0 ≤ 0 + ((-1) * γ 18624 + (1 * x + 0)) := hn _ (List.Mem.tail _ (List.Mem.tail _ (List.Mem.head _)))
  have n3 : 0 ≤ 0 + (1 * γ 18624 + ((-1) * x + 0)) := hn _ (List.Mem.tail _ (List.Mem.tail _ (List.Mem.tail _ (List.Mem.head _))))
  have n4 : 0 ≤ 0 + ((-1) * γ 18566 + (1 * y + 0)) := hn _ (List.Mem.tail _ (List.Mem.tail _ (List.Mem.tail _ (List.Mem.tail _ (List.Mem.head _)))))
  have n5 : 0 ≤ 0 + (1 * γ 18566 + ((-1) * y + 0)) := hn _ (List.Mem.tail _ (List.Mem.tail _ (List.Mem.tail _ (List.Mem.tail _ (List.Mem.tail _ (List.Mem.head _))))))
  have n6 : 0 ≤ (-3) + (1 * γ 18657 + 0) := hn _ (List.Mem.tail _ (List.Mem.tail _ (List.Mem.tail _ (List.Mem.tail _ (List.Mem.tail _ (List.Mem.tail _ (List.Mem.head _)))))))
  clear hn
  obtain ⟨g0, g1, g2, g3, g4, g5, g6, g7, g8, g9, g10, g11, g12, g13, g14, g15, g16, g17, g18, g19, g20, g21, g22, g23, g24, g25, g26, g27, g28, g29, g30, g31, g32, g33, g34, g35, g36⟩ := id hG
  have r_MB2 := sx_gr_MB2 hR
  have r_MQ := sx_gr_MQ hR
  have r_QM := sx_gr_QM hR
  have r_WV := sx_gr_WV hR
  have hQ : γ 18595 = 1 := by omega
  have h1 := ((g23 hQ).2.2 (by omega)).2
  have hk8 := sx_gr_KN hR
  have h2 := sy_odd (g18 hQ) (a := y) (by omega) (by omega) (by omega)
  have ex : x = γ 18624 := by omega
  rw [← ex] at h2
  have hz := sy_shr_r (y := y) hx0 hx1
  exact sx_q_hr_tb2_0 hG (sx_fshr x y) (hz) (by omega) (by unfold sy_par; omega)
theorem sx_p_hr_ga3 : sx_okw 8 sx_fshr sx_HH sx_r_hr_ga3 := by
  intro γ A x y hG hR hx0 hx1 hy0 hy1 hn
  have n0 : 0 ≤ (-1) + (1 * γ 18595 + 0) := hn _ (List.Mem.head _)
  have n1 : 0 ≤ 1 + ((-1) * γ 18595 + 0) := hn _ (List.Mem.tail _ (List.Mem.head _))
  have n2 : 0 ≤ 0 + ((-1) * γ 18596 + (1 * x + 0)) := hn _ (List.Mem.tail _ (List.Mem.tail _ (List.Mem.head _)))
  have n3 : 0 ≤ 0 + (1 * γ 18596 + ((-1) * x + 0)) := hn _ (List.Mem.tail _ (List.Mem.tail _ (List.Mem.tail _ (List.Mem.head _))))
  have n4 : 0 ≤ 0 + ((-1) * γ 18555 + (1 * y + 0)) := hn _ (List.Mem.tail _ (List.Mem.tail _ (List.Mem.tail _ (List.Mem.tail _ (List.Mem.head _)))))
  have n5 : 0 ≤ 0 + (1 * γ 18555 + ((-1) * y + 0)) := hn _ (List.Mem.tail _ (List.Mem.tail _ (List.Mem.tail _ (List.Mem.tail _ (List.Mem.tail _ (List.Mem.head _))))))
  clear hn
  obtain ⟨g0, g1, g2, g3, g4, g5, g6, g7, g8, g9, g10, g11, g12, g13, g14, g15, g16, g17, g18, g19, g20, g21, g22, g23, g24, g25, g26, g27, g28, g29, g30, g31, g32, g33, g34, g35, g36⟩ := id hG
  have r_MA3 := sx_gr_MA3 hR
  have r_PG := sx_gr_PG hR
  have r_QM := sx_gr_QM hR
  have r_ga3 := sx_gr_ga3 hR
  have hQ : γ 18595 = 1 := by omega
  have h1 := (g24 hQ).1
  have ex : x = γ 18596 := by omega
  have ey : y = γ 18555 := by omega
  have hz := sy_shr_r (y := y) hx0 hx1
  exact sx_q_hr_ga3_0 hG (sx_fshr x y) (hz) (by omega) (by unfold sy_par; rw [ex, ey]; omega)
theorem sx_p_hr_gb3 : sx_okw 8 sx_fshr sx_HH sx_r_hr_gb3 := by
  intro γ A x y hG hR hx0 hx1 hy0 hy1 hn
  have n0 : 0 ≤ (-1) + (1 * γ 18595 + 0) := hn _ (List.Mem.head _)
  have n1 : 0 ≤ 1 + ((-1) * γ 18595 + 0) := hn _ (List.Mem.tail _ (List.Mem.head _))
  have n2 : 0 ≤ 0 + ((-1) * γ 18596 + (1 * x + 0)) := hn _ (List.Mem.tail _ (List.Mem.tail _ (List.Mem.head _)))
  have n3 : 0 ≤ 0 + (1 * γ 18596 + ((-1) * x + 0)) := hn _ (List.Mem.tail _ (List.Mem.tail _ (List.Mem.tail _ (List.Mem.head _))))
  have n4 : 0 ≤ 0 + ((-1) * γ 18567 + (1 * y + 0)) := hn _ (List.Mem.tail _ (List.Mem.tail _ (List.Mem.tail _ (List.Mem.tail _ (List.Mem.head _)))))
  have n5 : 0 ≤ 0 + (1 * γ 18567 + ((-1) * y + 0)) := hn _ (List.Mem.tail _ (List.Mem.tail _ (List.Mem.tail _ (List.Mem.tail _ (List.Mem.tail _ (List.Mem.head _))))))
  clear hn
  obtain ⟨g0, g1, g2, g3, g4, g5, g6, g7, g8, g9, g10, g11, g12, g13, g14, g15, g16, g17, g18, g19, g20, g21, g22, g23, g24, g25, g26, g27, g28, g29, g30, g31, g32, g33, g34, g35, g36⟩ := id hG
  have r_MB3 := sx_gr_MB3 hR
  have r_PG := sx_gr_PG hR
  have r_QM := sx_gr_QM hR
  have r_gb3 := sx_gr_gb3 hR
  have hQ : γ 18595 = 1 := by omega
  have h1 := (g24 hQ).2.1
  have ex : x = γ 18596 := by omega
  have ey : y = γ 18567 := by omega
  have hz := sy_shr_r (y := y) hx0 hx1
  exact sx_q_hr_gb3_0 hG (sx_fshr x y) (hz) (by omega) (by unfold sy_par; rw [ex, ey]; omega)
theorem sx_p_hr_ta3 : sx_okw 8 sx_fshr sx_HH sx_r_hr_ta3 := by
  intro γ A x y hG hR hx0 hx1 hy0 hy1 hn
  have n0 : 0 ≤ (-1) + (1 * γ 18595 + 0) := hn _ (List.Mem.head _)
  have n1 : 0 ≤ 1 + ((-1) * γ 18595 + 0) := hn _ (List.Mem.tail _ (List.Mem.head _))
  have n2 : 0 ≤ 0 + ((-1) * γ 18624 + (1 * x + 0)) := hn _ (List.Mem.tail _ (List.Mem.tail _ (List.Mem.head _)))
  have n3 : 0 ≤ 0 + (1 * γ 18624 + ((-1) * x + 0)) := hn _ (List.Mem.tail _ (List.Mem.tail _ (List.Mem.tail _ (List.Mem.head _))))
  have n4 : 0 ≤ 0 + ((-1) * γ 18555 + (1 * y + 0)) := hn _ (List.Mem.tail _ (List.Mem.tail _ (List.Mem.tail _ (List.Mem.tail _ (List.Mem.head _)))))
  have n5 : 0 ≤ 0 + (1 * γ 18555 + ((-1) * y + 0)) := hn _ (List.Mem.tail _ (List.Mem.tail _ (List.Mem.tail _ (List.Mem.tail _ (List.Mem.tail _ (List.Mem.head _))))))
  have n6 : 0 ≤ (-4) + (1 * γ 18657 + 0) := hn _ (List.Mem.tail _ (List.Mem.tail _ (List.Mem.tail _ (List.Mem.tail _ (List.Mem.tail _ (List.Mem.tail _ (List.Mem.head _)))))))
  clear hn
  obtain ⟨g0, g1, g2, g3, g4, g5, g6, g7, g8, g9, g10, g11, g12, g13, g14, g15, g16, g17, g18, g19, g20, g21, g22, g23, g24, g25, g26, g27, g28, g29, g30, g31, g32, g33, g34, g35, g36⟩ := id hG
  have r_MA3 := sx_gr_MA3 hR
  have r_MQ := sx_gr_MQ hR
  have r_QM := sx_gr_QM hR
  have r_WV := sx_gr_WV hR
  have hQ : γ 18595 = 1 := by omega
  have h1 := ((g24 hQ).2.2 (by omega)).1
  have hk8 := sx_gr_KN hR
  have h2 := sy_odd (g18 hQ) (a := y) (by omega) (by omega) (by omega)
  have ex : x = γ 18624 := by omega
  rw [← ex] at h2
  have hz := sy_shr_r (y := y) hx0 hx1
  exact sx_q_hr_ta3_0 hG (sx_fshr x y) (hz) (by omega) (by unfold sy_par; omega)
theorem sx_p_hr_tb3 : sx_okw 8 sx_fshr sx_HH sx_r_hr_tb3 := by
  intro γ A x y hG hR hx0 hx1 hy0 hy1 hn
  have n0 : 0 ≤ (-1) + (1 * γ 18595 + 0) := hn _ (List.Mem.head _)
  have n1 : 0 ≤ 1 + ((-1) * γ 18595 + 0) := hn _ (List.Mem.tail _ (List.Mem.head _))
  have n2 : 0 ≤ 0 + ((-1) * γ 18624 + (1 * x + 0)) := hn _ (List.Mem.tail _ (List.Mem.tail _ (List.Mem.head _)))
  have n3 : 0 ≤ 0 + (1 * γ 18624 + ((-1) * x + 0)) := hn _ (List.Mem.tail _ (List.Mem.tail _ (List.Mem.tail _ (List.Mem.head _))))
  have n4 : 0 ≤ 0 + ((-1) * γ 18567 + (1 * y + 0)) := hn _ (List.Mem.tail _ (List.Mem.tail _ (List.Mem.tail _ (List.Mem.tail _ (List.Mem.head _)))))
  have n5 : 0 ≤ 0 + (1 * γ 18567 + ((-1) * y + 0)) := hn _ (List.Mem.tail _ (List.Mem.tail _ (List.Mem.tail _ (List.Mem.tail _ (List.Mem.tail _ (List.Mem.head _))))))
  have n6 : 0 ≤ (-4) + (1 * γ 18657 + 0) := hn _ (List.Mem.tail _ (List.Mem.tail _ (List.Mem.tail _ (List.Mem.tail _ (List.Mem.tail _ (List.Mem.tail _ (List.Mem.head _)))))))
  clear hn
  obtain ⟨g0, g1, g2, g3, g4, g5, g6, g7, g8, g9, g10, g11, g12, g13, g14, g15, g16, g17, g18, g19, g20, g21, g22, g23, g24, g25, g26, g27, g28, g29, g30, g31, g32, g33, g34, g35, g36⟩ := id hG
  have r_MB3 := sx_gr_MB3 hR
  have r_MQ := sx_gr_MQ hR
  have r_QM := sx_gr_QM hR
  have r_WV := sx_gr_WV hR
  have hQ : γ 18595 = 1 := by omega
  have h1 := ((g24 hQ).2.2 (by omega)).2
  have hk8 := sx_gr_KN hR
  have h2 := sy_odd (g18 hQ) (a := y) (by omega) (by omega) (by omega)
  have ex : x = γ 18624 := by omega
  rw [← ex] at h2
  have hz := sy_shr_r (y := y) hx0 hx1
  exact sx_q_hr_tb3_0 hG (sx_fshr x y) (hz) (by omega) (by unfold sy_par; omega)
theorem sx_p_hr_ga4 : sx_okw 8 sx_fshr sx_HH sx_r_hr_ga4 := by
  intro γ A x y hG hR hx0 hx1 hy0 hy1 hn
  have n0 : 0 ≤ (-1) + (1 * γ 18595 + 0) := hn _ (List.Mem.head _)
  have n1 : 0 ≤ 1 + ((-1) * γ 18595 + 0) := hn _ (List.Mem.tail _ (List.Mem.head _))
  have n2 : 0 ≤ 0 + ((-1) * γ 18596 + (1 * x + 0)) := hn _ (List.Mem.tail _ (List.Mem.tail _ (List.Mem.head _)))
  have n3 : 0 ≤ 0 + (1 * γ 18596 + ((-1) * x + 0)) := hn _ (List.Mem.tail _ (List.Mem.tail _ (List.Mem.tail _ (List.Mem.head _))))
  have n4 : 0 ≤ 0 + ((-1) * γ 18556 + (1 * y + 0)) := hn _ (List.Mem.tail _ (List.Mem.tail _ (List.Mem.tail _ (List.Mem.tail _ (List.Mem.head _)))))
  have n5 : 0 ≤ 0 + (1 * γ 18556 + ((-1) * y + 0)) := hn _ (List.Mem.tail _ (List.Mem.tail _ (List.Mem.tail _ (List.Mem.tail _ (List.Mem.tail _ (List.Mem.head _))))))
  clear hn
  obtain ⟨g0, g1, g2, g3, g4, g5, g6, g7, g8, g9, g10, g11, g12, g13, g14, g15, g16, g17, g18, g19, g20, g21, g22, g23, g24, g25, g26, g27, g28, g29, g30, g31, g32, g33, g34, g35, g36⟩ := id hG
  have r_MA4 := sx_gr_MA4 hR
  have r_PG := sx_gr_PG hR
  have r_QM := sx_gr_QM hR
  have r_ga4 := sx_gr_ga4 hR
  have hQ : γ 18595 = 1 := by omega
  have h1 := (g25 hQ).1
  have ex : x = γ 18596 := by omega
  have ey : y = γ 18556 := by omega
  have hz := sy_shr_r (y := y) hx0 hx1
  exact sx_q_hr_ga4_0 hG (sx_fshr x y) (hz) (by omega) (by unfold sy_par; rw [ex, ey]; omega)
theorem sx_p_hr_gb4 : sx_okw 8 sx_fshr sx_HH sx_r_hr_gb4 := by
  intro γ A x y hG hR hx0 hx1 hy0 hy1 hn
  have n0 : 0 ≤ (-1) + (1 * γ 18595 + 0) := hn _ (List.Mem.head _)
  have n1 : 0 ≤ 1 + ((-1) * γ 18595 + 0) := hn _ (List.Mem.tail _ (List.Mem.head _))
  have n2 : 0 ≤ 0 + ((-1) * γ 18596 + (1 * x + 0)) := hn _ (List.Mem.tail _ (List.Mem.tail _ (List.Mem.head _)))
  have n3 : 0 ≤ 0 + (1 * γ 18596 + ((-1) * x + 0)) := hn _ (List.Mem.tail _ (List.Mem.tail _ (List.Mem.tail _ (List.Mem.head _))))
  have n4 : 0 ≤ 0 + ((-1) * γ 18568 + (1 * y + 0)) := hn _ (List.Mem.tail _ (List.Mem.tail _ (List.Mem.tail _ (List.Mem.tail _ (List.Mem.head _)))))
  have n5 : 0 ≤ 0 + (1 * γ 18568 + ((-1) * y + 0)) := hn _ (List.Mem.tail _ (List.Mem.tail _ (List.Mem.tail _ (List.Mem.tail _ (List.Mem.tail _ (List.Mem.head _))))))
  clear hn
  obtain ⟨g0, g1, g2, g3, g4, g5, g6, g7, g8, g9, g10, g11, g12, g13, g14, g15, g16, g17, g18, g19, g20, g21, g22, g23, g24, g25, g26, g27, g28, g29, g30, g31, g32, g33, g34, g35, g36⟩ := id hG
  have r_MB4 := sx_gr_MB4 hR
  have r_PG := sx_gr_PG hR
  have r_QM := sx_gr_QM hR
  have r_gb4 := sx_gr_gb4 hR
  have hQ : γ 18595 = 1 := by omega
  have h1 := (g25 hQ).2.1
  have ex : x = γ 18596 := by omega
  have ey : y = γ 18568 := by omega
  have hz := sy_shr_r (y := y) hx0 hx1
  exact sx_q_hr_gb4_0 hG (sx_fshr x y) (hz) (by omega) (by unfold sy_par; rw [ex, ey]; omega)
theorem sx_p_hr_ta4 : sx_okw 8 sx_fshr sx_HH sx_r_hr_ta4 := by
  intro γ A x y hG hR hx0 hx1 hy0 hy1 hn
  have n0 : 0 ≤ (-1) + (1 * γ 18595 + 0) := hn _ (List.Mem.head _)
  have n1 : 0 ≤ 1 + ((-1) * γ 18595 + 0) := hn _ (List.Mem.tail _ (List.Mem.head _))
  have n2 : 0 ≤ 0 + ((-1) * γ 18624 + (1 * x + 0)) := hn _ (List.Mem.tail _ (List.Mem.tail _ (List.Mem.head _)))
  have n3 : 0 ≤ 0 + (1 * γ 18624 + ((-1) * x + 0)) := hn _ (List.Mem.tail _ (List.Mem.tail _ (List.Mem.tail _ (List.Mem.head _))))
  have n4 : 0 ≤ 0 + ((-1) * γ 18556 + (1 * y + 0)) := hn _ (List.Mem.tail _ (List.Mem.tail _ (List.Mem.tail _ (List.Mem.tail _ (List.Mem.head _)))))
  have n5 : 0 ≤ 0 + (1 * γ 18556 + ((-1) * y + 0)) := hn _ (List.Mem.tail _ (List.Mem.tail _ (List.Mem.tail _ (List.Mem.tail _ (List.Mem.tail _ (List.Mem.head _))))))
  have n6 : 0 ≤ (-5) + (1 * γ 18657 + 0) := hn _ (List.Mem.tail _ (List.Mem.tail _ (List.Mem.tail _ (List.Mem.tail _ (List.Mem.tail _ (List.Mem.tail _ (List.Mem.head _)))))))
  clear hn
  obtain ⟨g0, g1, g2, g3, g4, g5, g6, g7, g8, g9, g10, g11, g12, g13, g14, g15, g16, g17, g18, g19, g20, g21, g22, g23, g24, g25, g26, g27, g28, g29, g30, g31, g32, g33, g34, g35, g36⟩ := id hG
  have r_MA4 := sx_gr_MA4 hR
  have r_MQ := sx_gr_MQ hR
  have r_QM := sx_gr_QM hR
  have r_WV := sx_gr_WV hR
  have hQ : γ 18595 = 1 := by omega
  have h1 := ((g25 hQ).2.2 (by omega)).1
  have hk8 := sx_gr_KN hR
  have h2 := sy_odd (g18 hQ) (a := y) (by omega) (by omega) (by omega)
  have ex : x = γ 18624 := by omega
  rw [← ex] at h2
  have hz := sy_shr_r (y := y) hx0 hx1
  exact sx_q_hr_ta4_0 hG (sx_fshr x y) (hz) (by omega) (by unfold sy_par; omega)
theorem sx_p_hr_tb4 : sx_okw 8 sx_fshr sx_HH sx_r_hr_tb4 := by
  intro γ A x y hG hR hx0 hx1 hy0 hy1 hn
  have n0 : 0 ≤ (-1) + (1 * γ 18595 + 0) := hn _ (List.Mem.head _)
  have n1 : 0 ≤ 1 + ((-1) * γ 18595 + 0) := hn _ (List.Mem.tail _ (List.Mem.head _))
  have n2 : 0 ≤ 0 + ((-1) * γ 18624 + (1 * x + 0)) := hn _ (List.Mem.tail _ (List.Mem.tail _ (List.Mem.head _)))
  have n3 : 0 ≤ 0 + (1 * γ 18624 + ((-1) * x + 0)) := hn _ (List.Mem.tail _ (List.Mem.tail _ (List.Mem.tail _ (List.Mem.head _))))
  have n4 : 0 ≤ 0 + ((-1) * γ 18568 + (1 * y + 0)) := hn _ (List.Mem.tail _ (List.Mem.tail _ (List.Mem.tail _ (List.Mem.tail _ (List.Mem.head _)))))
  have n5 : 0 ≤ 0 + (1 * γ 18568 + ((-1) * y + 0)) := hn _ (List.Mem.tail _ (List.Mem.tail _ (List.Mem.tail _ (List.Mem.tail _ (List.Mem.tail _ (List.Mem.head _))))))
  have n6 : 0 ≤ (-5) + (1 * γ 18657 + 0) := hn _ (List.Mem.tail _ (List.Mem.tail _ (List.Mem.tail _ (List.Mem.tail _ (List.Mem.tail _ (List.Mem.tail _ (List.Mem.head _)))))))
  clear hn
  obtain ⟨g0, g1, g2, g3, g4, g5, g6, g7, g8, g9, g10, g11, g12, g13, g14, g15, g16, g17, g18, g19, g20, g21, g22, g23, g24, g25, g26, g27, g28, g29, g30, g31, g32, g33, g34, g35, g36⟩ := id hG
  have r_MB4 := sx_gr_MB4 hR
  have r_MQ := sx_gr_MQ hR
  have r_QM := sx_gr_QM hR
  have r_WV := sx_gr_WV hR
  have hQ : γ 18595 = 1 := by omega
  have h1 := ((g25 hQ).2.2 (by omega)).2
  have hk8 := sx_gr_KN hR
  have h2 := sy_odd (g18 hQ) (a := y) (by omega) (by omega) (by omega)
  have ex : x = γ 18624 := by omega
  rw [← ex] at h2
  have hz := sy_shr_r (y := y) hx0 hx1
  exact sx_q_hr_tb4_0 hG (sx_fshr x y) (hz) (by omega) (by unfold sy_par; omega)
theorem sx_p_hr_ga5 : sx_okw 8 sx_fshr sx_HH sx_r_hr_ga5 := by
  intro γ A x y hG hR hx0 hx1 hy0 hy1 hn
  have n0 : 0 ≤ (-1) + (1 * γ 18595 + 0) := hn _ (List.Mem.head _)
  have n1 : 0 ≤ 1 + ((-1) * γ 18595 + 0) := hn _ (List.Mem.tail _ (List.Mem.head _))
  have n2 : 0 ≤ 0 + ((-1) * γ 18596 + (1 * x + 0)) := hn _ (List.Mem.tail _ (List.Mem.tail _ (List.Mem.head _)))
  have n3 : 0 ≤ 0 + (1 * γ 18596 + ((-1) * x + 0)) := hn _ (List.Mem.tail _ (List.Mem.tail _ (List.Mem.tail _ (List.Mem.head _))))
  have n4 : 0 ≤ 0 + ((-1) * γ 18557 + (1 * y + 0)) := hn _ (List.Mem.tail _ (List.Mem.tail _ (List.Mem.tail _ (List.Mem.tail _ (List.Mem.head _)))))
  have n5 : 0 ≤ 0 + (1 * γ 18557 + ((-1) * y + 0)) := hn _ (List.Mem.tail _ (List.Mem.tail _ (List.Mem.tail _ (List.Mem.tail _ (List.Mem.tail _ (List.Mem.head _))))))
  clear hn
  obtain ⟨g0, g1, g2, g3, g4, g5, g6, g7, g8, g9, g10, g11, g12, g13, g14, g15, g16, g17, g18, g19, g20, g21, g22, g23, g24, g25, g26, g27, g28, g29, g30, g31, g32, g33, g34, g35, g36⟩ := id hG
  have r_MA5 := sx_gr_MA5 hR
  have r_PG := sx_gr_PG hR
  have r_QM := sx_gr_QM hR
  have r_ga5 := sx_gr_ga5 hR
  have hQ : γ 18595 = 1 := by omega
  have h1 := (g26 hQ).1
  have ex : x = γ 18596 := by omega
  have ey : y = γ 18557 := by omega
  have hz := sy_shr_r (y := y) hx0 hx1
  exact sx_q_hr_ga5_0 hG (sx_fshr x y) (hz) (by omega) (by unfold sy_par; rw [ex, ey]; omega)
theorem sx_p_hr_gb5 : sx_okw 8 sx_fshr sx_HH sx_r_hr_gb5 := by
  intro γ A x y hG hR hx0 hx1 hy0 hy1 hn
  have n0 : 0 ≤ (-1) + (1 * γ 18595 + 0) := hn _ (List.Mem.head _)
  have n1 : 0 ≤ 1 + ((-1) * γ 18595 + 0) := hn _ (List.Mem.tail _ (List.Mem.head _))
  have n2 : 0 ≤ 0 + ((-1) * γ 18596 + (1 * x + 0)) := hn _ (List.Mem.tail _ (List.Mem.tail _ (List.Mem.head _)))
  have n3 : 0 ≤ 0 + (1 * γ 18596 + ((-1) * x + 0)) := hn _ (List.Mem.tail _ (List.Mem.tail _ (List.Mem.tail _ (List.Mem.head _))))
  have n4 : 0 ≤ 0 + ((-1) * γ 18569 + (1 * y + 0)) := hn _ (List.Mem.tail _ (List.Mem.tail _ (List.Mem.tail _ (List.Mem.tail _ (List.Mem.head _)))))
  have n5 : 0 ≤ 0 + (1 * γ 18569 + ((-1) * y + 0)) := hn _ (List.Mem.tail _ (List.Mem.tail _ (List.Mem.tail _ (List.Mem.tail _ (List.Mem.tail _ (List.Mem.head _))))))
  clear hn
  obtain ⟨g0, g1, g2, g3, g4, g5, g6, g7, g8, g9, g10, g11, g12, g13, g14, g15, g16, g17, g18, g19, g20, g21, g22, g23, g24, g25, g26, g27, g28, g29, g30, g31, g32, g33, g34, g35, g36⟩ := id hG
  have r_MB5 := sx_gr_MB5 hR
  have r_PG := sx_gr_PG hR
  have r_QM := sx_gr_QM hR
  have r_gb5 := sx_gr_gb5 hR
  have hQ : γ 18595 = 1 := by omega
  have h1 := (g26 hQ).2.1
  have ex : x = γ 18596 := by omega
  have ey : y = γ 18569 := by omega
  have hz := sy_shr_r (y := y) hx0 hx1
  exact sx_q_hr_gb5_0 hG (sx_fshr x y) (hz) (by omega) (by unfold sy_par; rw [ex, ey]; omega)
theorem sx_p_hr_ta5 : sx_okw 8 sx_fshr sx_HH sx_r_hr_ta5 := by
  intro γ A x y hG hR hx0 hx1 hy0 hy1 hn
  have n0 : 0 ≤ (-1) + (1 * γ 18595 + 0) := hn _ (List.Mem.head _)
  have n1 : 0 ≤ 1 + ((-1) * γ 18595 + 0) := hn _ (List.Mem.tail _ (List.Mem.head _))
  have n2 : 0 ≤ 0 + ((-1) * γ 18624 + (1 * x + 0)) := hn _ (List.Mem.tail _ (List.Mem.tail _ (List.Mem.head _)))
  have n3 : 0 ≤ 0 + (1 * γ 18624 + ((-1) * x + 0)) := hn _ (List.Mem.tail _ (List.Mem.tail _ (List.Mem.tail _ (List.Mem.head _))))
  have n4 : 0 ≤ 0 + ((-1) * γ 18557 + (1 * y + 0)) := hn _ (List.Mem.tail _ (List.Mem.tail _ (List.Mem.tail _ (List.Mem.tail _ (List.Mem.head _)))))
  have n5 : 0 ≤ 0 + (1 * γ 18557 + ((-1) * y + 0)) := hn _ (List.Mem.tail _ (List.Mem.tail _ (List.Mem.tail _ (List.Mem.tail _ (List.Mem.tail _ (List.Mem.head _))))))
  have n6 : 0 ≤ (-6) + (1 * γ 18657 + 0) := hn _ (List.Mem.tail _ (List.Mem.tail _ (List.Mem.tail _ (List.Mem.tail _ (List.Mem.tail _ (List.Mem.tail _ (List.Mem.head _)))))))
  clear hn
  obtain ⟨g0, g1, g2, g3, g4, g5, g6, g7, g8, g9, g10, g11, g12, g13, g14, g15, g16, g17, g18, g19, g20, g21, g22, g23, g24, g25, g26, g27, g28, g29, g30, g31, g32, g33, g34, g35, g36⟩ := id hG
  have r_MA5 := sx_gr_MA5 hR
  have r_MQ := sx_gr_MQ hR
  have r_QM := sx_gr_QM hR
  have r_WV := sx_gr_WV hR
  have hQ : γ 18595 = 1 := by omega
  have h1 := ((g26 hQ).2.2 (by omega)).1
  have hk8 := sx_gr_KN hR
  have h2 := sy_odd (g18 hQ) (a := y) (by omega) (by omega) (by omega)
  have ex : x = γ 18624 := by omega
  rw [← ex] at h2
  have hz := sy_shr_r (y := y) hx0 hx1
  exact sx_q_hr_ta5_0 hG (sx_fshr x y) (hz) (by omega) (by unfold sy_par; omega)
theorem sx_p_hr_tb5 : sx_okw 8 sx_fshr sx_HH sx_r_hr_tb5 := by
  intro γ A x y hG hR hx0 hx1 hy0 hy1 hn
  have n0 : 0 ≤ (-1) + (1 * γ 18595 + 0) := hn _ (List.Mem.head _)
  have n1 : 0 ≤ 1 + ((-1) * γ 18595 + 0) := hn _ (List.Mem.tail _ (List.Mem.head _))
  have n2 : 0 ≤ 0 + ((-1) * γ 18624 + (1 * x + 0)) := hn _ (List.Mem.tail _ (List.Mem.tail _ (List.Mem.head _)))
  have n3 : 0 ≤ 0 + (1 * γ 18624 + ((-1) * x + 0)) := hn _ (List.Mem.tail _ (List.Mem.tail _ (List.Mem.tail _ (List.Mem.head _))))
  have n4 : 0 ≤ 0 + ((-1) * γ 18569 + (1 * y + 0)) := hn _ (List.Mem.tail _ (List.Mem.tail _ (List.Mem.tail _ (List.Mem.tail _ (List.Mem.head _)))))
  have n5 : 0 ≤ 0 + (1 * γ 18569 + ((-1) * y + 0)) := hn _ (List.Mem.tail _ (List.Mem.tail _ (List.Mem.tail _ (List.Mem.tail _ (List.Mem.tail _ (List.Mem.head _))))))
  have n6 : 0 ≤ (-6) + (1 * γ 18657 + 0) := hn _ (List.Mem.tail _ (List.Mem.tail _ (List.Mem.tail _ (List.Mem.tail _ (List.Mem.tail _ (List.Mem.tail _ (List.Mem.head _)))))))
  clear hn
  obtain ⟨g0, g1, g2, g3, g4, g5, g6, g7, g8, g9, g10, g11, g12, g13, g14, g15, g16, g17, g18, g19, g20, g21, g22, g23, g24, g25, g26, g27, g28, g29, g30, g31, g32, g33, g34, g35, g36⟩ := id hG
  have r_MB5 := sx_gr_MB5 hR
  have r_MQ := sx_gr_MQ hR
  have r_QM := sx_gr_QM hR
  have r_WV := sx_gr_WV hR
  have hQ : γ 18595 = 1 := by omega
  have h1 := ((g26 hQ).2.2 (by omega)).2
  have hk8 := sx_gr_KN hR
  have h2 := sy_odd (g18 hQ) (a := y) (by omega) (by omega) (by omega)
  have ex : x = γ 18624 := by omega
  rw [← ex] at h2
  have hz := sy_shr_r (y := y) hx0 hx1
  exact sx_q_hr_tb5_0 hG (sx_fshr x y) (hz) (by omega) (by unfold sy_par; omega)
theorem sx_p_hr_ga6 : sx_okw 8 sx_fshr sx_HH sx_r_hr_ga6 := by
  intro γ A x y hG hR hx0 hx1 hy0 hy1 hn
  have n0 : 0 ≤ (-1) + (1 * γ 18595 + 0) := hn _ (List.Mem.head _)
  have n1 : 0 ≤ 1 + ((-1) * γ 18595 + 0) := hn _ (List.Mem.tail _ (List.Mem.head _))
  have n2 : 0 ≤ 0 + ((-1) * γ 18596 + (1 * x + 0)) := hn _ (List.Mem.tail _ (List.Mem.tail _ (List.Mem.head _)))
  have n3 : 0 ≤ 0 + (1 * γ 18596 + ((-1) * x + 0)) := hn _ (List.Mem.tail _ (List.Mem.tail _ (List.Mem.tail _ (List.Mem.head _))))
  have n4 : 0 ≤ 0 + ((-1) * γ 18558 + (1 * y + 0)) := hn _ (List.Mem.tail _ (List.Mem.tail _ (List.Mem.tail _ (List.Mem.tail _ (List.Mem.head _)))))
  have n5 : 0 ≤ 0 + (1 * γ 18558 + ((-1) * y + 0)) := hn _ (List.Mem.tail _ (List.Mem.tail _ (List.Mem.tail _ (List.Mem.tail _ (List.Mem.tail _ (List.Mem.head _))))))
  clear hn
  obtain ⟨g0, g1, g2, g3, g4, g5, g6, g7, g8, g9, g10, g11, g12, g13, g14, g15, g16, g17, g18, g19, g20, g21, g22, g23, g24, g25, g26, g27, g28, g29, g30, g31, g32, g33, g34, g35, g36⟩ := id hG
  have r_MA6 := sx_gr_MA6 hR
  have r_PG := sx_gr_PG hR
  have r_QM := sx_gr_QM hR
  have r_ga6 := sx_gr_ga6 hR
  have hQ : γ 18595 = 1 := by omega
  have h1 := (g27 hQ).1
  have ex : x = γ 18596 := by omega
  have ey : y = γ 18558 := by omega
  have hz := sy_shr_r (y := y) hx0 hx1
  exact sx_q_hr_ga6_0 hG (sx_fshr x y) (hz) (by omega) (by unfold sy_par; rw [ex, ey]; omega)
theorem sx_p_hr_gb6 : sx_okw 8 sx_fshr sx_HH sx_r_hr_gb6 := by
  intro γ A x y hG hR hx0 hx1 hy0 hy1 hn
  have n0 : 0 ≤ (-1) + (1 * γ 18595 + 0) := hn _ (List.Mem.head _)
  have n1 : 0 ≤ 1 + ((-1) * γ 18595 + 0) := hn _ (List.Mem.tail _ (List.Mem.head _))
  have n2 : 0 ≤ 0 + ((-1) * γ 18596 + (1 * x + 0)) := hn _ (List.Mem.tail _ (List.Mem.tail _ (List.Mem.head _)))
  have n3 : 0 ≤ 0 + (1 * γ 18596 + ((-1) * x + 0)) := hn _ (List.Mem.tail _ (List.Mem.tail _ (List.Mem.tail _ (List.Mem.head _))))
  have n4 : 0 ≤ 0 + ((-1) * γ 18570 + (1 * y + 0)) := hn _ (List.Mem.tail _ (List.Mem.tail _ (List.Mem.tail _ (List.Mem.tail _ (List.Mem.head _)))))
  have n5 : 0 ≤ 0 + (1 * γ 18570 + ((-1) * y + 0)) := hn _ (List.Mem.tail _ (List.Mem.tail _ (List.Mem.tail _ (List.Mem.tail _ (List.Mem.tail _ (List.Mem.head _))))))
  clear hn
  obtain ⟨g0, g1, g2, g3, g4, g5, g6, g7, g8, g9, g10, g11, g12, g13, g14, g15, g16, g17, g18, g19, g20, g21, g22, g23, g24, g25, g26, g27, g28, g29, g30, g31, g32, g33, g34, g35, g36⟩ := id hG
  have r_MB6 := sx_gr_MB6 hR
  have r_PG := sx_gr_PG hR
  have r_QM := sx_gr_QM hR
  have r_gb6 := sx_gr_gb6 hR
  have hQ : γ 18595 = 1 := by omega
  have h1 := (g27 hQ).2.1
  have ex : x = γ 18596 := by omega
  have ey : y = γ 18570 := by omega
  have hz := sy_shr_r (y := y) hx0 hx1
  exact sx_q_hr_gb6_0 hG (sx_fshr x y) (hz) (by omega) (by unfold sy_par; rw [ex, ey]; omega)
theorem sx_p_hr_ta6 : sx_okw 8 sx_fshr sx_HH sx_r_hr_ta6 := by
  intro γ A x y hG hR hx0 hx1 hy0 hy1 hn
  have n0 : 0 ≤ (-1) + (1 * γ 18595 + 0) := hn _ (List.Mem.head _)
  have n1 : 0 ≤ 1 + ((-1) * γ 18595 + 0) := hn _ (List.Mem.tail _ (List.Mem.head _))
  have n2 : 0 ≤ 0 + ((-1) * γ 18624 + (1 * x + 0)) := hn _ (List.Mem.tail _ (List.Mem.tail _ (List.Mem.head _)))
  have n3 : 0 ≤ 0 + (1 * γ 18624 + ((-1) * x + 0)) := hn _ (List.Mem.tail _ (List.Mem.tail _ (List.Mem.tail _ (List.Mem.head _))))
  have n4 : 0 ≤ 0 + ((-1) * γ 18558 + (1 * y + 0)) := hn _ (List.Mem.tail _ (List.Mem.tail _ (List.Mem.tail _ (List.Mem.tail _ (List.Mem.head _)))))
  have n5 : 0 ≤ 0 + (1 * γ 18558 + ((-1) * y + 0)) := hn _ (List.Mem.tail _ (List.Mem.tail _ (List.Mem.tail _ (List.Mem.tail _ (List.Mem.tail _ (List.Mem.head _))))))
  have n6 : 0 ≤ (-7) + (1 * γ 18657 + 0) := hn _ (List.Mem.tail _ (List.Mem.tail _ (List.Mem.tail _ (List.Mem.tail _ (List.Mem.tail _ (List.Mem.tail _ (List.Mem.head _)))))))
  clear hn
  obtain ⟨g0, g1, g2, g3, g4, g5, g6, g7, g8, g9, g10, g11, g12, g13, g14, g15, g16, g17, g18, g19, g20, g21, g22, g23, g24, g25, g26, g27, g28, g29, g30, g31, g32, g33, g34, g35, g36⟩ := id hG
  have r_MA6 := sx_gr_MA6 hR
  have r_MQ := sx_gr_MQ hR
  have r_QM := sx_gr_QM hR
  have r_WV := sx_gr_WV hR
  have hQ : γ 18595 = 1 := by omega
  have h1 := ((g27 hQ).2.2 (by omega)).1
  have hk8 := sx_gr_KN hR
  have h2 := sy_odd (g18 hQ) (a := y) (by omega) (by omega) (by omega)
  have ex : x = γ 18624 := by omega
  rw [← ex] at h2
  have hz := sy_shr_r (y := y) hx0 hx1
  exact sx_q_hr_ta6_0 hG (sx_fshr x y) (hz) (by omega) (by unfold sy_par; omega)
theorem sx_p_hr_tb6 : sx_okw 8 sx_fshr sx_HH sx_r_hr_tb6 := by
  intro γ A x y hG hR hx0 hx1 hy0 hy1 hn
  have n0 : 0 ≤ (-1) + (1 * γ 18595 + 0) := hn _ (List.Mem.head _)
  have n1 : 0 ≤ 1 + ((-1) * γ 18595 + 0) := hn _ (List.Mem.tail _ (List.Mem.head _))
  have n2 : 0 ≤ 0 + ((-1) * γ 18624 + (1 * x + 0)) := hn _ (List.Mem.tail _ (List.Mem.tail _ (List.Mem.head _)))
  have n3 : 0 ≤ 0 + (1 * γ 18624 + ((-1) * x + 0)) := hn _ (List.Mem.tail _ (List.Mem.tail _ (List.Mem.tail _ (List.Mem.head _))))
  have n4 : 0 ≤ 0 + ((-1) * γ 18570 + (1 * y + 0)) := hn _ (List.Mem.tail _ (List.Mem.tail _ (List.Mem.tail _ (List.Mem.tail _ (List.Mem.head _)))))
  have n5 : 0 ≤ 0 + (1 * γ 18570 + ((-1) * y + 0)) := hn _ (List.Mem.tail _ (List.Mem.tail _ (List.Mem.tail _ (List.Mem.tail _ (List.Mem.tail _ (List.Mem.head _))))))
  have n6 : 0 ≤ (-7) + (1 * γ 18657 + 0) := hn _ (List.Mem.tail _ (List.Mem.tail _ (List.Mem.tail _ (List.Mem.tail _ (List.Mem.tail _ (List.Mem.tail _ (List.Mem.head _)))))))
  clear hn
  obtain ⟨g0, g1, g2, g3, g4, g5, g6, g7, g8, g9, g10, g11, g12, g13, g14, g15, g16, g17, g18, g19, g20, g21, g22, g23, g24, g25, g26, g27, g28, g29, g30, g31, g32, g33, g34, g35, g36⟩ := id hG
  have r_MB6 := sx_gr_MB6 hR
  have r_MQ := sx_gr_MQ hR
  have r_QM := sx_gr_QM hR
  have r_WV := sx_gr_WV hR
  have hQ : γ 18595 = 1 := by omega
  have h1 := ((g27 hQ).2.2 (by omega)).2
  have hk8 := sx_gr_KN hR
  have h2 := sy_odd (g18 hQ) (a := y) (by omega) (by omega) (by omega)
  have ex : x = γ 18624 := by omega
  rw [← ex] at h2
  have hz := sy_shr_r (y := y) hx0 hx1
  exact sx_q_hr_tb6_0 hG (sx_fshr x y) (hz) (by omega) (by unfold sy_par; omega)
theorem sx_p_hr_ga7 : sx_okw 8 sx_fshr sx_HH sx_r_hr_ga7 := by
  intro γ A x y hG hR hx0 hx1 hy0 hy1 hn
  have n0 : 0 ≤ (-1) + (1 * γ 18595 + 0) := hn _ (List.Mem.head _)
  have n1 : 0 ≤ 1 + ((-1) * γ 18595 + 0) := hn _ (List.Mem.tail _ (List.Mem.head _))
  have n2 : 0 ≤ 0 + ((-1) * γ 18596 + (1 * x + 0)) := hn _ (List.Mem.tail _ (List.Mem.tail _ (List.Mem.head _)))
  have n3 : 0 ≤ 0 + (1 * γ 18596 + ((-1) * x + 0)) := hn _ (List.Mem.tail _ (List.Mem.tail _ (List.Mem.tail _ (List.Mem.head _))))
  have n4 : 0 ≤ 0 + ((-1) * γ 18559 + (1 * y + 0)) := hn _ (List.Mem.tail _ (List.Mem.tail _ (List.Mem.tail _ (List.Mem.tail _ (List.Mem.head _)))))
  have n5 : 0 ≤ 0 + (1 * γ 18559 + ((-1) * y + 0)) := hn _ (List.Mem.tail _ (List.Mem.tail _ (List.Mem.tail _ (List.Mem.tail _ (List.Mem.tail _ (List.Mem.head _))))))
  clear hn
  obtain ⟨g0, g1, g2, g3, g4, g5, g6, g7, g8, g9, g10, g11, g12, g13, g14, g15, g16, g17, g18, g19, g20, g21, g22, g23, g24, g25, g26, g27, g28, g29, g30, g31, g32, g33, g34, g35, g36⟩ := id hG
  have r_MA7 := sx_gr_MA7 hR
  have r_PG := sx_gr_PG hR
  have r_QM := sx_gr_QM hR
  have r_ga7 := sx_gr_ga7 hR
  have hQ : γ 18595 = 1 := by omega
  have h1 := (g28 hQ).1
  have ex : x = γ 18596 := by omega
  have ey : y = γ 18559 := by omega
  have hz := sy_shr_r (y := y) hx0 hx1
  exact sx_q_hr_ga7_0 hG (sx_fshr x y) (hz) (by omega) (by unfold sy_par; rw [ex, ey]; omega)
theorem sx_p_hr_gb7 : sx_okw 8 sx_fshr sx_HH sx_r_hr_gb7 := by
  intro γ A x y hG hR hx0 hx1 hy0 hy1 hn
  have n0 : 0 ≤ (-1) + (1 * γ 18595 + 0) := hn _ (List.Mem.head _)
  have n1 : 0 ≤ 1 + ((-1) * γ 18595 + 0) := hn _ (List.Mem.tail _ (List.Mem.head _))
  have n2 : 0 ≤ 0 + ((-1) * γ 18596 + (1 * x + 0)) := hn _ (List.Mem.tail _ (List.Mem.tail _ (List.Mem.head _)))
  have n3 : 0 ≤ 0 + (1 * γ 18596 + ((-1) * x + 0)) := hn _ (List.Mem.tail _ (List.Mem.tail _ (List.Mem.tail _ (List.Mem.head _))))
  have n4 : 0 ≤ 0 + ((-1) * γ 18571 + (1 * y + 0)) := hn _ (List.Mem.tail _ (List.Mem.tail _ (List.Mem.tail _ (List.Mem.tail _ (List.Mem.head _)))))
  have n5 : 0 ≤ 0 + (1 * γ 18571 + ((-1) * y + 0)) := hn _ (List.Mem.tail _ (List.Mem.tail _ (List.Mem.tail _ (List.Mem.tail _ (List.Mem.tail _ (List.Mem.head _))))))
  clear hn
  obtain ⟨g0, g1, g2, g3, g4, g5, g6, g7, g8, g9, g10, g11, g12, g13, g14, g15, g16, g17, g18, g19, g20, g21, g22, g23, g24, g25, g26, g27, g28, g29, g30, g31, g32, g33, g34, g35, g36⟩ := id hG
  have r_MB7 := sx_gr_MB7 hR
  have r_PG := sx_gr_PG hR
  have r_QM := sx_gr_QM hR
  have r_gb7 := sx_gr_gb7 hR
  have hQ : γ 18595 = 1 := by omega
  have h1 := (g28 hQ).2.1
  have ex : x = γ 18596 := by omega
  have ey : y = γ 18571 := by omega
  have hz := sy_shr_r (y := y) hx0 hx1
  exact sx_q_hr_gb7_0 hG (sx_fshr x y) (hz) (by omega) (by unfold sy_par; rw [ex, ey]; omega)
theorem sx_p_hr_ta7 : sx_okw 8 sx_fshr sx_HH sx_r_hr_ta7 := by
  intro γ A x y hG hR hx0 hx1 hy0 hy1 hn
  have n0 : 0 ≤ (-1) + (1 * γ 18595 + 0) := hn _ (List.Mem.head _)
  have n1 : 0 ≤ 1 + ((-1) * γ 18595 + 0) := hn _ (List.Mem.tail _ (List.Mem.head _))
  have n2 : 0 ≤ 0 + ((-1) * γ 18624 + (1 * x + 0)) := hn _ (List.Mem.tail _ (List.Mem.tail _ (List.Mem.head _)))
  have n3 : 0 ≤ 0 + (1 * γ 18624 + ((-1) * x + 0)) := hn _ (List.Mem.tail _ (List.Mem.tail _ (List.Mem.tail _ (List.Mem.head _))))
  have n4 : 0 ≤ 0 + ((-1) * γ 18559 + (1 * y + 0)) := hn _ (List.Mem.tail _ (List.Mem.tail _ (List.Mem.tail _ (List.Mem.tail _ (List.Mem.head _)))))
  have n5 : 0 ≤ 0 + (1 * γ 18559 + ((-1) * y + 0)) := hn _ (List.Mem.tail _ (List.Mem.tail _ (List.Mem.tail _ (List.Mem.tail _ (List.Mem.tail _ (List.Mem.head _))))))
  have n6 : 0 ≤ (-8) + (1 * γ 18657 + 0) := hn _ (List.Mem.tail _ (List.Mem.tail _ (List.Mem.tail _ (List.Mem.tail _ (List.Mem.tail _ (List.Mem.tail _ (List.Mem.head _)))))))
  clear hn
  obtain ⟨g0, g1, g2, g3, g4, g5, g6, g7, g8, g9, g10, g11, g12, g13, g14, g15, g16, g17, g18, g19, g20, g21, g22, g23, g24, g25, g26, g27, g28, g29, g30, g31, g32, g33, g34, g35, g36⟩ := id hG
  have r_MA7 := sx_gr_MA7 hR
  have r_MQ := sx_gr_MQ hR
  have r_QM := sx_gr_QM hR
  have r_WV := sx_gr_WV hR
  have hQ : γ 18595 = 1 := by omega
  have h1 := ((g28 hQ).2.2 (by omega)).1
  have hk8 := sx_gr_KN hR
  have h2 := sy_odd (g18 hQ) (a := y) (by omega) (by omega) (by omega)
  have ex : x = γ 18624 := by omega
  rw [← ex] at h2
  have hz := sy_shr_r (y := y) hx0 hx1
  exact sx_q_hr_ta7_0 hG (sx_fshr x y) (hz) (by omega) (by unfold sy_par; omega)
theorem sx_p_hr_tb7 : sx_okw 8 sx_fshr sx_HH sx_r_hr_tb7 := by
  intro γ A x y hG hR hx0 hx1 hy0 hy1 hn
  have n0 : 0 ≤ (-1) + (1 * γ 18595 + 0) := hn _ (List.Mem.head _)
  have n1 : 0 ≤ 1 + ((-1) * γ 18595 + 0) := hn _ (List.Mem.tail _ (List.Mem.head _))
  have n2 : 0 ≤ 0 + ((-1) * γ 18624 + (1 * x + 0)) := hn _ (List.Mem.tail _ (List.Mem.tail _ (List.Mem.head _)))
  have n3 : 0 ≤ 0 + (1 * γ 18624 + ((-1) * x + 0)) := hn _ (List.Mem.tail _ (List.Mem.tail _ (List.Mem.tail _ (List.Mem.head _))))
  have n4 : 0 ≤ 0 + ((-1) * γ 18571 + (1 * y + 0)) := hn _ (List.Mem.tail _ (List.Mem.tail _ (List.Mem.tail _ (List.Mem.tail _ (List.Mem.head _)))))
  have n5 : 0 ≤ 0 + (1 * γ 18571 + ((-1) * y + 0)) := hn _ (List.Mem.tail _ (List.Mem.tail _ (List.Mem.tail _ (List.Mem.tail _ (List.Mem.tail _ (List.Mem.head _))))))
  have n6 : 0 ≤ (-8) + (1 * γ 18657 + 0) := hn _ (List.Mem.tail _ (List.Mem.tail _ (List.Mem.tail _ (List.Mem.tail _ (List.Mem.tail _ (List.Mem.tail _ (List.Mem.head _)))))))
  clear hn
  obtain ⟨g0, g1, g2, g3, g4, g5, g6, g7, g8, g9, g10, g11, g12, g13, g14, g15, g16, g17, g18, g19, g20, g21, g22, g23, g24, g25, g26, g27, g28, g29, g30, g31, g32, g33, g34, g35, g36⟩ := id hG
  have r_MB7 := sx_gr_MB7 hR
  have r_MQ := sx_gr_MQ hR
  have r_QM := sx_gr_QM hR
  have r_WV := sx_gr_WV hR
  have hQ : γ 18595 = 1 := by omega
  have h1 := ((g28 hQ).2.2 (by omega)).2
  have hk8 := sx_gr_KN hR
  have h2 := sy_odd (g18 hQ) (a := y) (by omega) (by omega) (by omega)
  have ex : x = γ 18624 := by omega
  rw [← ex] at h2
  have hz := sy_shr_r (y := y) hx0 hx1
  exact sx_q_hr_tb7_0 hG (sx_fshr x y) (hz) (by omega) (by unfold sy_par; omega)
theorem sx_p_hr_ga8 : sx_okw 8 sx_fshr sx_HH sx_r_hr_ga8 := by
  intro γ A x y hG hR hx0 hx1 hy0 hy1 hn
  have n0 : 0 ≤ (-1) + (1 * γ 18595 + 0) := hn _ (List.Mem.head _)
  have n1 : 0 ≤ 1 + ((-1) * γ 18595 + 0) := hn _ (List.Mem.tail _ (List.Mem.head _))
  have n2 : 0 ≤ 0 + ((-1) * γ 18596 + (1 * x + 0)) := hn _ (List.Mem.tail _ (List.Mem.tail _ (List.Mem.head _)))
  have n3 : 0 ≤ 0 + (1 * γ 18596 + ((-1) * x + 0)) := hn _ (List.Mem.tail _ (List.Mem.tail _ (List.Mem.tail _ (List.Mem.head _))))
  have n4 : 0 ≤ 0 + ((-1) * γ 18560 + (1 * y + 0)) := hn _ (List.Mem.tail _ (List.Mem.tail _ (List.Mem.tail _ (List.Mem.tail _ (List.Mem.head _)))))
  have n5 : 0 ≤ 0 + (1 * γ 18560 + ((-1) * y + 0)) := hn _ (List.Mem.tail _ (List.Mem.tail _ (List.Mem.tail _ (List.Mem.tail _ (List.Mem.tail _ (List.Mem.head _))))))
  clear hn
  obtain ⟨g0, g1, g2, g3, g4, g5, g6, g7, g8, g9, g10, g11, g12, g13, g14, g15, g16, g17, g18, g19, g20, g21, g22, g23, g24, g25, g26, g27, g28, g29, g30, g31, g32, g33, g34, g35, g36⟩ := id hG
  have r_MA8 := sx_gr_MA8 hR
  have r_PG := sx_gr_PG hR
  have r_QM := sx_gr_QM hR
  have r_ga8 := sx_gr_ga8 hR
  have hQ : γ 18595 = 1 := by omega
  have h1 := (g29 hQ).1
  have ex : x = γ 18596 := by omega
  have ey : y = γ 18560 := by omega
  have hz := sy_shr_r (y := y) hx0 hx1
  exact sx_q_hr_ga8_0 hG (sx_fshr x y) (hz) (by omega) (by unfold sy_par; rw [ex, ey]; omega)
theorem sx_p_hr_gb8 : sx_okw 8 sx_fshr sx_HH sx_r_hr_gb8 := by
  intro γ A x y hG hR hx0 hx1 hy0 hy1 hn
  have n0 : 0 ≤ (-1) + (1 * γ 18595 + 0) := hn _ (List.Mem.head _)
  have n1 : 0 ≤ 1 + ((-1) * γ 18595 + 0) := hn _ (List.Mem.tail _ (List.Mem.head _))
  have n2 : 0 ≤ 0 + ((-1) * γ 18596 + (1 * x + 0)) := hn _ (List.Mem.tail _ (List.Mem.tail _ (List.Mem.head _)))
  have n3 : 0 ≤ 0 + (1 * γ 18596 + ((-1) * x + 0)) := hn _ (List.Mem.tail _ (List.Mem.tail _ (List.Mem.tail _ (List.Mem.head _))))
  have n4 : 0 ≤ 0 + ((-1) * γ 18572 + (1 * y + 0)) := hn _ (List.Mem.tail _ (List.Mem.tail _ (List.Mem.tail _ (List.Mem.tail _ (List.Mem.head _)))))
  have n5 : 0 ≤ 0 + (1 * γ 18572 + ((-1) * y + 0)) := hn _ (List.Mem.tail _ (List.Mem.tail _ (List.Mem.tail _ (List.Mem.tail _ (List.Mem.tail _ (List.Mem.head _))))))
  clear hn
  obtain ⟨g0, g1, g2, g3, g4, g5, g6, g7, g8, g9, g10, g11, g12, g13, g14, g15, g16, g17, g18, g19, g20, g21, g22, g23, g24, g25, g26, g27, g28, g29, g30, g31, g32, g33, g34, g35, g36⟩ := id hG
  have r_MB8 := sx_gr_MB8 hR
  have r_PG := sx_gr_PG hR
  have r_QM := sx_gr_QM hR
  have r_gb8 := sx_gr_gb8 hR
  have hQ : γ 18595 = 1 := by omega
  have h1 := (g29 hQ).2.1
  have ex : x = γ 18596 := by omega
  have ey : y = γ 18572 := by omega
  have hz := sy_shr_r (y := y) hx0 hx1
  exact sx_q_hr_gb8_0 hG (sx_fshr x y) (hz) (by omega) (by unfold sy_par; rw [ex, ey]; omega)
theorem sx_p_hr_ta8 : sx_okw 8 sx_fshr sx_HH sx_r_hr_ta8 := by
  intro γ A x y hG hR hx0 hx1 hy0 hy1 hn
  have n0 : 0 ≤ (-1) + (1 * γ 18595 + 0) := hn _ (List.Mem.head _)
  have n1 : 0 ≤ 1 + ((-1) * γ 18595 + 0) := hn _ (List.Mem.tail _ (List.Mem.head _))
  have n2 : 0 ≤ 0 + ((-1) * γ 18624 + (1 * x + 0)) := hn _ (List.Mem.tail _ (List.Mem.tail _ (List.Mem.head _)))
  have n3 : 0 ≤ 0 + (1 * γ 18624 + ((-1) * x + 0)) := hn _ (List.Mem.tail _ (List.Mem.tail _ (List.Mem.tail _ (List.Mem.head _))))
  have n4 : 0 ≤ 0 + ((-1) * γ 18560 + (1 * y + 0)) := hn _ (List.Mem.tail _ (List.Mem.tail _ (List.Mem.tail _ (List.Mem.tail _ (List.Mem.head _)))))
  have n5 : 0 ≤ 0 + (1 * γ 18560 + ((-1) * y + 0)) := hn _ (List.Mem.tail _ (List.Mem.tail _ (List.Mem.tail _ (List.Mem.tail _ (List.Mem.tail _ (List.Mem.head _))))))
  have n6 : 0 ≤ (-9) + (1 * γ 18657 + 0) := hn _ (List.Mem.tail _ (List.Mem.tail _ (List.Mem.tail _ (List.Mem.tail _ (List.Mem.tail _ (List.Mem.tail _ (List.Mem.head _)))))))
  clear hn
  obtain ⟨g0, g1, g2, g3, g4, g5, g6, g7, g8, g9, g10, g11, g12, g13, g14, g15, g16, g17, g18, g19, g20, g21, g22, g23, g24, g25, g26, g27, g28, g29, g30, g31, g32, g33, g34, g35, g36⟩ := id hG
  have r_MA8 := sx_gr_MA8 hR
  have r_MQ := sx_gr_MQ hR
  have r_QM := sx_gr_QM hR
  have r_WV := sx_gr_WV hR
  have hQ : γ 18595 = 1 := by omega
  have h1 := ((g29 hQ).2.2 (by omega)).1
  have hk8 := sx_gr_KN hR
  have h2 := sy_odd (g18 hQ) (a := y) (by omega) (by omega) (by omega)
  have ex : x = γ 18624 := by omega
  rw [← ex] at h2
  have hz := sy_shr_r (y := y) hx0 hx1
  exact sx_q_hr_ta8_0 hG (sx_fshr x y) (hz) (by omega) (by unfold sy_par; omega)
theorem sx_p_hr_tb8 : sx_okw 8 sx_fshr sx_HH sx_r_hr_tb8 := by
  intro γ A x y hG hR hx0 hx1 hy0 hy1 hn
  have n0 : 0 ≤ (-1) + (1 * γ 18595 + 0) := hn _ (List.Mem.head _)
  have n1 : 0 ≤ 1 + ((-1) * γ 18595 + 0) := hn _ (List.Mem.tail _ (List.Mem.head _))
  have n2 : 0 ≤ 0 + ((-1) * γ 18624 + (1 * x + 0)) := hn _ (List.Mem.tail _ (List.Mem.tail _ (List.Mem.head _)))
  have n3 : 0 ≤ 0 + (1 * γ 18624 + ((-1) * x + 0)) := hn _ (List.Mem.tail _ (List.Mem.tail _ (List.Mem.tail _ (List.Mem.head _))))
  have n4 : 0 ≤ 0 + ((-1) * γ 18572 + (1 * y + 0)) := hn _ (List.Mem.tail _ (List.Mem.tail _ (List.Mem.tail _ (List.Mem.tail _ (List.Mem.head _)))))
  have n5 : 0 ≤ 0 + (1 * γ 18572 + ((-1) * y + 0)) := hn _ (List.Mem.tail _ (List.Mem.tail _ (List.Mem.tail _ (List.Mem.tail _ (List.Mem.tail _ (List.Mem.head _))))))
  have n6 : 0 ≤ (-9) + (1 * γ 18657 + 0) := hn _ (List.Mem.tail _ (List.Mem.tail _ (List.Mem.tail _ (List.Mem.tail _ (List.Mem.tail _ (List.Mem.tail _ (List.Mem.head _)))))))
  clear hn
  obtain ⟨g0, g1, g2, g3, g4, g5, g6, g7, g8, g9, g10, g11, g12, g13, g14, g15, g16, g17, g18, g19, g20, g21, g22, g23, g24, g25, g26, g27, g28, g29, g30, g31, g32, g33, g34, g35, g36⟩ := id hG
  have r_MB8 := sx_gr_MB8 hR
  have r_MQ := sx_gr_MQ hR
  have r_QM := sx_gr_QM hR
  have r_WV := sx_gr_WV hR
  have hQ : γ 18595 = 1 := by omega
  have h1 := ((g29 hQ).2.2 (by omega)).2
  have hk8 := sx_gr_KN hR
  have h2 := sy_odd (g18 hQ) (a := y) (by omega) (by omega) (by omega)
  have ex : x = γ 18624 := by omega
  rw [← ex] at h2
  have hz := sy_shr_r (y := y) hx0 hx1
  exact sx_q_hr_tb8_0 hG (sx_fshr x y) (hz) (by omega) (by unfold sy_par; omega)
theorem sx_p_hr_ga9 : sx_okw 8 sx_fshr sx_HH sx_r_hr_ga9 := by
  intro γ A x y hG hR hx0 hx1 hy0 hy1 hn
  have n0 : 0 ≤ (-1) + (1 * γ 18595 + 0) := hn _ (List.Mem.head _)
  have n1 : 0 ≤ 1 + ((-1) * γ 18595 + 0) := hn _ (List.Mem.tail _ (List.Mem.head _))
  have n2 : 0 ≤ 0 + ((-1) * γ 18596 + (1 * x + 0)) := hn _ (List.Mem.tail _ (List.Mem.tail _ (List.Mem.head _)))
  have n3 : 0 ≤ 0 + (1 * γ 18596 + ((-1) * x + 0)) := hn _ (List.Mem.tail _ (List.Mem.tail _ (List.Mem.tail _ (List.Mem.head _))))
  have n4 : 0 ≤ 0 + ((-1) * γ 18561 + (1 * y + 0)) := hn _ (List.Mem.tail _ (List.Mem.tail _ (List.Mem.tail _ (List.Mem.tail _ (List.Mem.head _)))))
  have n5 : 0 ≤ 0 + (1 * γ 18561 + ((-1) * y + 0)) := hn _ (List.Mem.tail _ (List.Mem.tail _ (List.Mem.tail _ (List.Mem.tail _ (List.Mem.tail _ (List.Mem.head _))))))
  clear hn
  obtain ⟨g0, g1, g2, g3, g4, g5, g6, g7, g8, g9, g10, g11, g12, g13, g14, g15, g16, g17, g18, g19, g20, g21, g22, g23, g24, g25, g26, g27, g28, g29, g30, g31, g32, g33, g34, g35, g36⟩ := id hG
  have r_MA9 := sx_gr_MA9 hR
  have r_PG := sx_gr_PG hR
  have r_QM := sx_gr_QM hR
  have r_ga9 := sx_gr_ga9 hR
  have hQ : γ 18595 = 1 := by omega
  have h1 := (g30 hQ).1
  have ex : x = γ 18596 := by omega
  have ey : y = γ 18561 := by omega
  have hz := sy_shr_r (y := y) hx0 hx1
  exact sx_q_hr_ga9_0 hG (sx_fshr x y) (hz) (by omega) (by unfold sy_par; rw [ex, ey]; omega)
theorem sx_p_hr_gb9 : sx_okw 8 sx_fshr sx_HH sx_r_hr_gb9 := by
  intro γ A x y hG hR hx0 hx1 hy0 hy1 hn
  have n0 : 0 ≤ (-1) + (1 * γ 18595 + 0) := hn _ (List.Mem.head _)
  have n1 : 0 ≤ 1 + ((-1) * γ 18595 + 0) := hn _ (List.Mem.tail _ (List.Mem.head _))
  have n2 : 0 ≤ 0 + ((-1) * γ 18596 + (1 * x + 0)) := hn _ (List.Mem.tail _ (List.Mem.tail _ (List.Mem.head _)))
  have n3 : 0 ≤ 0 + (1 * γ 18596 + ((-1) * x + 0)) := hn _ (List.Mem.tail _ (List.Mem.tail _ (List.Mem.tail _ (List.Mem.head _))))
  have n4 : 0 ≤ 0 + ((-1) * γ 18573 + (1 * y + 0)) := hn _ (List.Mem.tail _ (List.Mem.tail _ (List.Mem.tail _ (List.Mem.tail _ (List.Mem.head _)))))
  have n5 : 0 ≤ 0 + (1 * γ 18573 + ((-1) * y + 0)) := hn _ (List.Mem.tail _ (List.Mem.tail _ (List.Mem.tail _ (List.Mem.tail _ (List.Mem.tail _ (List.Mem.head _))))))
  clear hn
  obtain ⟨g0, g1, g2, g3, g4, g5, g6, g7, g8, g9, g10, g11, g12, g13, g14, g15, g16, g17, g18, g19, g20, g21, g22, g23, g24, g25, g26, g27, g28, g29, g30, g31, g32, g33, g34, g35, g36⟩ := id hG
  have r_MB9 := sx_gr_MB9 hR
  have r_PG := sx_gr_PG hR
  have r_QM := sx_gr_QM hR
  have r_gb9 := sx_gr_gb9 hR
  have hQ : γ 18595 = 1 := by omega
  have h1 := (g30 hQ).2.1
  have ex : x = γ 18596 := by omega
  have ey : y = γ 18573 := by omega
  have hz := sy_shr_r (y := y) hx0 hx1
  exact sx_q_hr_gb9_0 hG (sx_fshr x y) (hz) (by omega) (by unfold sy_par; rw [ex, ey]; omega)
theorem sx_p_hr_ta9 : sx_okw 8 sx_fshr sx_HH sx_r_hr_ta9 := by
  intro γ A x y hG hR hx0 hx1 hy0 hy1 hn
  have n0 : 0 ≤ (-1) + (1 * γ 18595 + 0) := hn _ (List.Mem.head _)
  have n1 : 0 ≤ 1 + ((-1) * γ 18595 + 0) := hn _ (List.Mem.tail _ (List.Mem.head _))
  have n2 : 0 ≤ 0 + ((-1) * γ 18624 + (1 * x + 0)) := hn _ (List.Mem.tail _ (List.Mem.tail _ (List.Mem.head _)))
  have n3 : 0 ≤ 0 + (1 * γ 18624 + ((-1) * x + 0)) := hn _ (List.Mem.tail _ (List.Mem.tail _ (List.Mem.tail _ (List.Mem.head _))))
  have n4 : 0 ≤ 0 + ((-1) * γ 18561 + (1 * y + 0)) := hn _ (List.Mem.tail _ (List.Mem.tail _ (List.Mem.tail _ (List.Mem.tail _ (List.Mem.head _)))))
  have n5 : 0 ≤ 0 + (1 * γ 18561 + ((-1) * y + 0)) := hn _ (List.Mem.tail _ (List.Mem.tail _ (List.Mem.tail _ (List.Mem.tail _ (List.Mem.tail _ (List.Mem.head _))))))
  have n6 : 0 ≤ (-10) + (1 * γ 18657 + 0) := hn _ (List.Mem.tail _ (List.Mem.tail _ (List.Mem.tail _ (List.Mem.tail _ (List.Mem.tail _ (List.Mem.tail _ (List.Mem.head _)))))))
  clear hn
  obtain ⟨g0, g1, g2, g3, g4, g5, g6, g7, g8, g9, g10, g11, g12, g13, g14, g15, g16, g17, g18, g19, g20, g21, g22, g23, g24, g25, g26, g27, g28, g29, g30, g31, g32, g33, g34, g35, g36⟩ := id hG
  have r_MA9 := sx_gr_MA9 hR
  have r_MQ := sx_gr_MQ hR
  have r_QM := sx_gr_QM hR
  have r_WV := sx_gr_WV hR
  have hQ : γ 18595 = 1 := by omega
  have h1 := ((g30 hQ).2.2 (by omega)).1
  have hk8 := sx_gr_KN hR
  have h2 := sy_odd (g18 hQ) (a := y) (by omega) (by omega) (by omega)
  have ex : x = γ 18624 := by omega
  rw [← ex] at h2
  have hz := sy_shr_r (y := y) hx0 hx1
  exact sx_q_hr_ta9_0 hG (sx_fshr x y) (hz) (by omega) (by unfold sy_par; omega)
theorem sx_p_hr_tb9 : sx_okw 8 sx_fshr sx_HH sx_r_hr_tb9 := by
  intro γ A x y hG hR hx0 hx1 hy0 hy1 hn
  have n0 : 0 ≤ (-1) + (1 * γ 18595 + 0) := hn _ (List.Mem.head _)
  have n1 : 0 ≤ 1 + ((-1) * γ 18595 + 0) := hn _ (List.Mem.tail _ (List.Mem.head _))
  have n2 : 0 ≤ 0 + ((-1) * γ 18624 + (1 * x + 0)) := hn _ (List.Mem.tail _ (List.Mem.tail _ (List.Mem.head _)))
  have n3 : 0 ≤ 0 + (1 * γ 18624 + ((-1) * x + 0)) := hn _ (List.Mem.tail _ (List.Mem.tail _ (List.Mem.tail _ (List.Mem.head _))))
  have n4 : 0 ≤ 0 + ((-1) * γ 18573 + (1 * y + 0)) := hn _ (List.Mem.tail _ (List.Mem.tail _ (List.Mem.tail _ (List.Mem.tail _ (List.Mem.head _)))))
  have n5 : 0 ≤ 0 + (1 * γ 18573 + ((-1) * y + 0)) := hn _ (List.Mem.tail _ (List.Mem.tail _ (List.Mem.tail _ (List.Mem.tail _ (List.Mem.tail _ (List.Mem.head _))))))
  have n6 : 0 ≤ (-10) + (1 * γ 18657 + 0) := hn _ (List.Mem.tail _ (List.Mem.tail _ (List.Mem.tail _ (List.Mem.tail _ (List.Mem.tail _ (List.Mem.tail _ (List.Mem.head _)))))))
  clear hn
  obtain ⟨g0, g1, g2, g3, g4, g5, g6, g7, g8, g9, g10, g11, g12, g13, g14, g15, g16, g17, g18, g19, g20, g21, g22, g23, g24, g25, g26, g27, g28, g29, g30, g31, g32, g33, g34, g35, g36⟩ := id hG
  have r_MB9 := sx_gr_MB9 hR
  have r_MQ := sx_gr_MQ hR
  have r_QM := sx_gr_QM hR
  have r_WV := sx_gr_WV hR
  have hQ : γ 18595 = 1 := by omega
  have h1 := ((g30 hQ).2.2 (by omega)).2
  have hk8 := sx_gr_KN hR
  have h2 := sy_odd (g18 hQ) (a := y) (by omega) (by omega) (by omega)
  have ex : x = γ 18624 := by omega
  rw [← ex] at h2
  have hz := sy_shr_r (y := y) hx0 hx1
  exact sx_q_hr_tb9_0 hG (sx_fshr x y) (hz) (by omega) (by unfold sy_par; omega)
theorem sx_p_hr_ga10 : sx_okw 8 sx_fshr sx_HH sx_r_hr_ga10 := by
  intro γ A x y hG hR hx0 hx1 hy0 hy1 hn
  have n0 : 0 ≤ (-1) + (1 * γ 18595 + 0) := hn _ (List.Mem.head _)
  have n1 : 0 ≤ 1 + ((-1) * γ 18595 + 0) := hn _ (List.Mem.tail _ (List.Mem.head _))
  have n2 : 0 ≤ 0 + ((-1) * γ 18596 + (1 * x + 0)) := hn _ (List.Mem.tail _ (List.Mem.tail _ (List.Mem.head _)))
  have n3 : 0 ≤ 0 + (1 * γ 18596 + ((-1) * x + 0)) := hn _ (List.Mem.tail _ (List.Mem.tail _ (List.Mem.tail _ (List.Mem.head _))))
  have n4 : 0 ≤ 0 + ((-1) * γ 18562 + (1 * y + 0)) := hn _ (List.Mem.tail _ (List.Mem.tail _ (List.Mem.tail _ (List.Mem.tail _ (List.Mem.head _)))))
  have n5 : 0 ≤ 0 + (1 * γ 18562 + ((-1) * y + 0)) := hn _ (List.Mem.tail _ (List.Mem.tail _ (List.Mem.tail _ (List.Mem.tail _ (List.Mem.tail _ (List.Mem.head _))))))
  clear hn
  obtain ⟨g0, g1, g2, g3, g4, g5, g6, g7, g8, g9, g10, g11, g12, g13, g14, g15, g16, g17, g18, g19, g20, g21, g22, g23, g24, g25, g26, g27, g28, g29, g30, g31, g32, g33, g34, g35, g36⟩ := id hG
  have r_MA10 := sx_gr_MA10 hR
  have r_PG := sx_gr_PG hR
  have r_QM := sx_gr_QM hR
  have r_ga10 := sx_gr_ga10 hR
  have hQ : γ 18595 = 1 := by omega
  have h1 := (g31 hQ).1
  have ex : x = γ 18596 := by omega
  have ey : y = γ 18562 := by omega
  have hz := sy_shr_r (y := y) hx0 hx1
  exact sx_q_hr_ga10_0 hG (sx_fshr x y) (hz) (by omega) (by unfold sy_par; rw [ex, ey]; omega)
theorem sx_p_hr_gb10 : sx_okw 8 sx_fshr sx_HH sx_r_hr_gb10 := by
  intro γ A x y hG hR hx0 hx1 hy0 hy1 hn
  have n0 : 0 ≤ (-1) + (1 * γ 18595 + 0) := hn _ (List.Mem.head _)
  have n1 : 0 ≤ 1 + ((-1) * γ 18595 + 0) := hn _ (List.Mem.tail _ (List.Mem.head _))
  have n2 : 0 ≤ 0 + ((-1) * γ 18596 + (1 * x + 0)) := hn _ (List.Mem.tail _ (List.Mem.tail _ (List.Mem.head _)))
  have n3 : 0 ≤ 0 + (1 * γ 18596 + ((-1) * x + 0)) := hn _ (List.Mem.tail _ (List.Mem.tail _ (List.Mem.tail _ (List.Mem.head _))))
  have n4 : 0 ≤ 0 + ((-1) * γ 18574 + (1 * y + 0)) := hn _ (List.Mem.tail _ (List.Mem.tail _ (List.Mem.tail _ (List.Mem.tail _ (List.Mem.head _)))))
  have n5 : 0 ≤ 0 + (1 * γ 18574 + ((-1) * y + 0)) := hn _ (List.Mem.tail _ (List.Mem.tail _ (List.Mem.tail _ (List.Mem.tail _ (List.Mem.tail _ (List.Mem.head _))))))
  clear hn
  obtain ⟨g0, g1, g2, g3, g4, g5, g6, g7, g8, g9, g10, g11, g12, g13, g14, g15, g16, g17, g18, g19, g20, g21, g22, g23, g24, g25, g26, g27, g28, g29, g30, g31, g32, g33, g34, g35, g36⟩ := id hG
  have r_MB10 := sx_gr_MB10 hR
  have r_PG := sx_gr_PG hR
  have r_QM := sx_gr_QM hR
  have r_gb10 := sx_gr_gb10 hR
  have hQ : γ 18595 = 1 := by omega
  have h1 := (g31 hQ).2.1
  have ex : x = γ 18596 := by omega
  have ey : y = γ 18574 := by omega
  have hz := sy_shr_r (y := y) hx0 hx1
  exact sx_q_hr_gb10_0 hG (sx_fshr x y) (hz) (by omega) (by unfold sy_par; rw [ex, ey]; omega)
theorem sx_p_hr_ta10 : sx_okw 8 sx_fshr sx_HH sx_r_hr_ta10 := by
  intro γ A x y hG hR hx0 hx1 hy0 hy1 hn
  have n0 : 0 ≤ (-1) + (1 * γ 18595 + 0) := hn _ (List.Mem.head _)
  have n1 : 0 ≤ 1 + ((-1) * γ 18595 + 0) := hn _ (List.Mem.tail _ (List.Mem.head _))
  have n2 : 0 ≤ 0 + ((-1) * γ 18624 + (1 * x + 0)) := hn _ (List.Mem.tail _ (List.Mem.tail _ (List.Mem.head _)))
  have n3 : 0 ≤ 0 + (1 * γ 18624 + ((-1) * x + 0)) := hn _ (List.Mem.tail _ (List.Mem.tail _ (List.Mem.tail _ (List.Mem.head _))))
  have n4 : 0 ≤ 0 + ((-1) * γ 18562 + (1 * y + 0)) := hn _ (List.Mem.tail _ (List.Mem.tail _ (List.Mem.tail _ (List.Mem.tail _ (List.Mem.head _)))))
  have n5 : 0 ≤ 0 + (1 * γ 18562 + ((-1) * y + 0)) := hn _ (List.Mem.tail _ (List.Mem.tail _ (List.Mem.tail _ (List.Mem.tail _ (List.Mem.tail _ (List.Mem.head _))))))
  have n6 : 0 ≤ (-11) + (1 * γ 18657 + 0) := hn _ (List.Mem.tail _ (List.Mem.tail _ (List.Mem.tail _ (List.Mem.tail _ (List.Mem.tail _ (List.Mem.tail _ (List.Mem.head _)))))))
  clear hn
  obtain ⟨g0, g1, g2, g3, g4, g5, g6, g7, g8, g9, g10, g11, g12, g13, g14, g15, g16, g17, g18, g19, g20, g21, g22, g23, g24, g25, g26, g27, g28, g29, g30, g31, g32, g33, g34, g35, g36⟩ := id hG
  have r_MA10 := sx_gr_MA10 hR
  have r_MQ := sx_gr_MQ hR
  have r_QM := sx_gr_QM hR
  have r_WV := sx_gr_WV hR
  have hQ : γ 18595 = 1 := by omega
  have h1 := ((g31 hQ).2.2 (by omega)).1
  have hk8 := sx_gr_KN hR
  have h2 := sy_odd (g18 hQ) (a := y) (by omega) (by omega) (by omega)
  have ex : x = γ 18624 := by omega
  rw [← ex] at h2
  have hz := sy_shr_r (y := y) hx0 hx1
  exact sx_q_hr_ta10_0 hG (sx_fshr x y) (hz) (by omega) (by unfold sy_par; omega)
theorem sx_p_hr_tb10 : sx_okw 8 sx_fshr sx_HH sx_r_hr_tb10 := by
  intro γ A x y hG hR hx0 hx1 hy0 hy1 hn
  have n0 : 0 ≤ (-1) + (1 * γ 18595 + 0) := hn _ (List.Mem.head _)
  have n1 : 0 ≤ 1 + ((-1) * γ 18595 + 0) := hn _ (List.Mem.tail _ (List.Mem.head _))
  have n2 : 0 ≤ 0 + ((-1) * γ 18624 + (1 * x + 0)) := hn _ (List.Mem.tail _ (List.Mem.tail _ (List.Mem.head _)))
  have n3 : 0 ≤ 0 + (1 * γ 18624 + ((-1) * x + 0)) := hn _ (List.Mem.tail _ (List.Mem.tail _ (List.Mem.tail _ (List.Mem.head _))))
  have n4 : 0 ≤ 0 + ((-1) * γ 18574 + (1 * y + 0)) := hn _ (List.Mem.tail _ (List.Mem.tail _ (List.Mem.tail _ (List.Mem.tail _ (List.Mem.head _)))))
  have n5 : 0 ≤ 0 + (1 * γ 18574 + ((-1) * y + 0)) := hn _ (List.Mem.tail _ (List.Mem.tail _ (List.Mem.tail _ (List.Mem.tail _ (List.Mem.tail _ (List.Mem.head _))))))
  have n6 : 0 ≤ (-11) + (1 * γ 18657 + 0) := hn _ (List.Mem.tail _ (List.Mem.tail _ (List.Mem.tail _ (List.Mem.tail _ (List.Mem.tail _ (List.Mem.tail _ (List.Mem.head _)))))))
  clear hn
  obtain ⟨g0, g1, g2, g3, g4, g5, g6, g7, g8, g9, g10, g11, g12, g13, g14, g15, g16, g17, g18, g19, g20, g21, g22, g23, g24, g25, g26, g27, g28, g29, g30, g31, g32, g33, g34, g35, g36⟩ := id hG
  have r_MB10 := sx_gr_MB10 hR
  have r_MQ := sx_gr_MQ hR
  have r_QM := sx_gr_QM hR
  have r_WV := sx_gr_WV hR
  have hQ : γ 18595 = 1 := by omega
  have h1 := ((g31 hQ).2.2 (by omega)).2
  have hk8 := sx_gr_KN hR
  have h2 := sy_odd (g18 hQ) (a := y) (by omega) (by omega) (by omega)
  have ex : x = γ 18624 := by omega
  rw [← ex] at h2
  have hz := sy_shr_r (y := y) hx0 hx1
  exact sx_q_hr_tb10_0 hG (sx_fshr x y) (hz) (by omega) (by unfold sy_par; omega)
theorem sx_p_hr_ga11 : sx_okw 8 sx_fshr sx_HH sx_r_hr_ga11 := by
  intro γ A x y hG hR hx0 hx1 hy0 hy1 hn
  have n0 : 0 ≤ (-1) + (1 * γ 18595 + 0) := hn _ (List.Mem.head _)
  have n1 : 0 ≤ 1 + ((-1) * γ 18595 + 0) := hn _ (List.Mem.tail _ (List.Mem.head _))
  have n2 : 0 ≤ 0 + ((-1) * γ 18596 + (1 * x + 0)) := hn _ (List.Mem.tail _ (List.Mem.tail _ (List.Mem.head _)))
  have n3 : 0 ≤ 0 + (1 * γ 18596 + ((-1) * x + 0)) := hn _ (List.Mem.tail _ (List.Mem.tail _ (List.Mem.tail _ (List.Mem.head _))))
  have n4 : 0 ≤ 0 + ((-1) * γ 18563 + (1 * y + 0)) := hn _ (List.Mem.tail _ (List.Mem.tail _ (List.Mem.tail _ (List.Mem.tail _ (List.Mem.head _)))))
  have n5 : 0 ≤ 0 + (1 * γ 18563 + ((-1) * y + 0)) := hn _ (List.Mem.tail _ (List.Mem.tail _ (List.Mem.tail _ (List.Mem.tail _ (List.Mem.tail _ (List.Mem.head _))))))
  clear hn
  obtain ⟨g0, g1, g2, g3, g4, g5, g6, g7, g8, g9, g10, g11, g12, g13, g14, g15, g16, g17, g18, g19, g20, g21, g22, g23, g24, g25, g26, g27, g28, g29, g30, g31, g32, g33, g34, g35, g36⟩ := id hG
  have r_MA11 := sx_gr_MA11 hR
  have r_PG := sx_gr_PG hR
  have r_QM := sx_gr_QM hR
  have r_ga11 := sx_gr_ga11 hR
  have hQ : γ 18595 = 1 := by omega
  have h1 := (g32 hQ).1
  have ex : x = γ 18596 := by omega
  have ey : y = γ 18563 := by omega
  have hz := sy_shr_r (y := y) hx0 hx1
  exact sx_q_hr_ga11_0 hG (sx_fshr x y) (hz) (by omega) (by unfold sy_par; rw [ex, ey]; omega)
theorem sx_p_hr_gb11 : sx_okw 8 sx_fshr sx_HH sx_r_hr_gb11 := by
  intro γ A x y hG hR hx0 hx1 hy0 hy1 hn
  have n0 : 0 ≤ (-1) + (1 * γ 18595 + 0) := hn _ (List.Mem.head _)
  have n1 : 0 ≤ 1 + ((-1) * γ 18595 + 0) := hn _ (List.Mem.tail _ (List.Mem.head _))
  have n2 : 0 ≤ 0 + ((-1) * γ 18596 + (1 * x + 0)) := hn _ (List.Mem.tail _ (List.Mem.tail _ (List.Mem.head _)))
  have n3 : 0 ≤ 0 + (1 * γ 18596 + ((-1) * x + 0)) := hn _ (List.Mem.tail _ (List.Mem.tail _ (List.Mem.tail _ (List.Mem.head _))))
  have n4 : 0 ≤ 0 + ((-1) * γ 18575 + (1 * y + 0)) := hn _ (List.Mem.tail _ (List.Mem.tail _ (List.Mem.tail _ (List.Mem.tail _ (List.Mem.head _)))))
  have n5 : 0 ≤ 0 + (1 * γ 18575 + ((-1) * y + 0)) := hn _ (List.Mem.tail _ (List.Mem.tail _ (List.Mem.tail _ (List.Mem.tail _ (List.Mem.tail _ (List.Mem.head _))))))
  clear hn
  obtain ⟨g0, g1, g2, g3, g4, g5, g6, g7, g8, g9, g10, g11, g12, g13, g14, g15, g16, g17, g18, g19, g20, g21, g22, g23, g24, g25, g26, g27, g28, g29, g30, g31, g32, g33, g34, g35, g36⟩ := id hG
  have r_MB11 := sx_gr_MB11 hR
  have r_PG := sx_gr_PG hR
  have r_QM := sx_gr_QM hR
  have r_gb11 := sx_gr_gb11 hR
  have hQ : γ 18595 = 1 := by omega
  have h1 := (g32 hQ).2.1
  have ex : x = γ 18596 := by omega
  have ey : y = γ 18575 := by omega
  have hz := sy_shr_r (y := y) hx0 hx1
  exact sx_q_hr_gb11_0 hG (sx_fshr x y) (hz) (by omega) (by unfold sy_par; rw [ex, ey]; omega)
theorem sx_p_hr_ta11 : sx_okw 8 sx_fshr sx_HH sx_r_hr_ta11 := by
  intro γ A x y hG hR hx0 hx1 hy0 hy1 hn
  have n0 : 0 ≤ (-1) + (1 * γ 18595 + 0) := hn _ (List.Mem.head _)
  have n1 : 0 ≤ 1 + ((-1) * γ 18595 + 0) := hn _ (List.Mem.tail _ (List.Mem.head _))
  have n2 : 0 ≤ 0 + ((-1) * γ 18624 + (1 * x + 0)) := hn _ (List.Mem.tail _ (List.Mem.tail _ (List.Mem.head _)))
  have n3 : 0 ≤ 0 + (1 * γ 18624 + ((-1) * x + 0)) := hn _ (List.Mem.tail _ (List.Mem.tail _ (List.Mem.tail _ (List.Mem.head _))))
  have n4 : 0 ≤ 0 + ((-1) * γ 18563 + (1 * y + 0)) := hn _ (List.Mem.tail _ (List.Mem.tail _ (List.Mem.tail _ (List.Mem.tail _ (List.Mem.head _)))))
  have n5 : 0 ≤ 0 + (1 * γ 18563 + ((-1) * y + 0)) := hn _ (List.Mem.tail _ (List.Mem.tail _ (List.Mem.tail _ (List.Mem.tail _ (List.Mem.tail _ (List.Mem.head _))))))
  have n6 : 0 ≤ (-12) + (1 * γ 18657 + 0) := hn _ (List.Mem.tail _ (List.Mem.tail _ (List.Mem.tail _ (List.Mem.tail _ (List.Mem.tail _ (List.Mem.tail _ (List.Mem.head _)))))))
  clear hn
  obtain ⟨g0, g1, g2, g3, g4, g5, g6, g7, g8, g9, g10, g11, g12, g13, g14, g15, g16, g17, g18, g19, g20, g21, g22, g23, g24, g25, g26, g27, g28, g29, g30, g31, g32, g33, g34, g35, g36⟩ := id hG
  have r_MA11 := sx_gr_MA11 hR
  have r_MQ := sx_gr_MQ hR
  have r_QM := sx_gr_QM hR
  have r_WV := sx_gr_WV hR
  have hQ : γ 18595 = 1 := by omega
  have h1 := ((g32 hQ).2.2 (by omega)).1
  have hk8 := sx_gr_KN hR
  have h2 := sy_odd (g18 hQ) (a := y) (by omega) (by omega) (by omega)
  have ex : x = γ 18624 := by omega
  rw [← ex] at h2
  have hz := sy_shr_r (y := y) hx0 hx1
  exact sx_q_hr_ta11_0 hG (sx_fshr x y) (hz) (by omega) (by unfold sy_par; omega)
theorem sx_p_hr_tb11 : sx_okw 8 sx_fshr sx_HH sx_r_hr_tb11 := by
  intro γ A x y hG hR hx0 hx1 hy0 hy1 hn
  have n0 : 0 ≤ (-1) + (1 * γ 18595 + 0) := hn _ (List.Mem.head _)
  have n1 : 0 ≤ 1 + ((-1) * γ 18595 + 0) := hn _ (List.Mem.tail _ (List.Mem.head _))
  have n2 : 0 ≤ 0 + ((-1) * γ 18624 + (1 * x + 0)) := hn _ (List.Mem.tail _ (List.Mem.tail _ (List.Mem.head _)))
  have n3 : 0 ≤ 0 + (1 * γ 18624 + ((-1) * x + 0)) := hn _ (List.Mem.tail _ (List.Mem.tail _ (List.Mem.tail _ (List.Mem.head _))))
  have n4 : 0 ≤ 0 + ((-1) * γ 18575 + (1 * y + 0)) := hn _ (List.Mem.tail _ (List.Mem.tail _ (List.Mem.tail _ (List.Mem.tail _ (List.Mem.head _)))))
  have n5 : 0 ≤ 0 + (1 * γ 18575 + ((-1) * y + 0)) := hn _ (List.Mem.tail _ (List.Mem.tail _ (List.Mem.tail _ (List.Mem.tail _ (List.Mem.tail _ (List.Mem.head _))))))
  have n6 : 0 ≤ (-12) + (1 * γ 18657 + 0) := hn _ (List.Mem.tail _ (List.Mem.tail _ (List.Mem.tail _ (List.Mem.tail _ (List.Mem.tail _ (List.Mem.tail _ (List.Mem.head _)))))))
  clear hn
  obtain ⟨g0, g1, g2, g3, g4, g5, g6, g7, g8, g9, g10, g11, g12, g13, g14, g15, g16, g17, g18, g19, g20, g21, g22, g23, g24, g25, g26, g27, g28, g29, g30, g31, g32, g33, g34, g35, g36⟩ := id hG
  have r_MB11 := sx_gr_MB11 hR
  have r_MQ := sx_gr_MQ hR
  have r_QM := sx_gr_QM hR
  have r_WV := sx_gr_WV hR
  have hQ : γ 18595 = 1 := by omega
  have h1 := ((g32 hQ).2.2 (by omega)).2
  have hk8 := sx_gr_KN hR
  have h2 := sy_odd (g18 hQ) (a := y) (by omega) (by omega) (by omega)
  have ex : x = γ 18624 := by omega
  rw [← ex] at h2
  have hz := sy_shr_r (y := y) hx0 hx1
  exact sx_q_hr_tb11_0 hG (sx_fshr x y) (hz) (by omega) (by unfold sy_par; omega)
theorem sx_p_hu_1 : sx_okw 16 sx_fshr sx_HH sx_r_hu_1 := by
  intro γ A x y hG hR hx0 hx1 hy0 hy1 hn
  have n0 : 0 ≤ (-1) + (1 * γ 18595 + 0) := hn _ (List.Mem.head _)
  have n1 : 0 ≤ 1 + ((-1) * γ 18595 + 0) := hn _ (List.Mem.tail _ (List.Mem.head _))
  have n2 : 0 ≤ 0 + ((-1) * γ 18596 + (1 * x + 0)) := hn _ (List.Mem.tail _ (List.Mem.tail _ (List.Mem.head _)))
  have n3 : 0 ≤ 0 + (1 * γ 18596 + ((-1) * x + 0)) := hn _ (List.Mem.tail _ (List.Mem.tail _ (List.Mem.tail _ (List.Mem.head _))))
  have n4 : 0 ≤ (-1) + (1 * y + 0) := hn _ (List.Mem.tail _ (List.Mem.tail _ (List.Mem.tail _ (List.Mem.tail _ (List.Mem.head _)))))
  have n5 : 0 ≤ 1 + ((-1) * y + 0) := hn _ (List.Mem.tail _ (List.Mem.tail _ (List.Mem.tail _ (List.Mem.tail _ (List.Mem.tail _ (List.Mem.head _))))))
  have n6 : 0 ≤ (-1) + (1 * γ 18596 + 0) := hn _ (List.Mem.tail _ (List.Mem.tail _ (List.Mem.tail _ (List.Mem.tail _ (List.Mem.tail _ (List.Mem.tail _ (List.Mem.head _)))))))
  have n7 : 0 ≤ 255 + ((-1) * γ 18596 + 0) := hn _ (List.Mem.tail _ (List.Mem.tail _ (List.Mem.tail _ (List.Mem.tail _ (List.Mem.tail _ (List.Mem.tail _ (List.Mem.tail _ (List.Mem.head _))))))))
  clear hn
  obtain ⟨g0, g1, g2, g3, g4, g5, g6, g7, g8, g9, g10, g11, g12, g13, g14, g15, g16, g17, g18, g19, g20, g21, g22, g23, g24, g25, g26, g27, g28, g29, g30, g31, g32, g33, g34, g35, g36⟩ := id hG
  have r_J1 := sx_gr_J1 hR
  have r_PG := sx_gr_PG hR
  have r_QM := sx_gr_QM hR
  have hQ : γ 18595 = 1 := by omega
  obtain ⟨i1, i2, i3, i4, i5, i6, i7, i8, i9, i10⟩ := g20 hQ (by omega) (by omega)
  have ey : y = 1 := by omega
  have hv : sx_fshr x y = x / 2 := by
    unfold sx_fshr
    rw [ey] <;> rfl
  exact sx_q_hu_1_0 hG (by rw [hv]; omega)
theorem sx_p_hu_2 : sx_okw 16 sx_fshr sx_HH sx_r_hu_2 := by
  intro γ A x y hG hR hx0 hx1 hy0 hy1 hn
  have n0 : 0 ≤ (-1) + (1 * γ 18595 + 0) := hn _ (List.Mem.head _)
  have n1 : 0 ≤ 1 + ((-1) * γ 18595 + 0) := hn _ (List.Mem.tail _ (List.Mem.head _))
  have n2 : 0 ≤ 0 + ((-1) * γ 18596 + (1 * γ 18663 + (1 * x + 0))) := hn _ (List.Mem.tail _ (List.Mem.tail _ (List.Mem.head _)))
  have n3 : 0 ≤ 0 + (1 * γ 18596 + ((-1) * γ 18663 + ((-1) * x + 0))) := hn _ (List.Mem.tail _ (List.Mem.tail _ (List.Mem.tail _ (List.Mem.head _))))
  have n4 : 0 ≤ (-2) + (1 * y + 0) := hn _ (List.Mem.tail _ (List.Mem.tail _ (List.Mem.tail _ (List.Mem.tail _ (List.Mem.head _)))))
  have n5 : 0 ≤ 2 + ((-1) * y + 0) := hn _ (List.Mem.tail _ (List.Mem.tail _ (List.Mem.tail _ (List.Mem.tail _ (List.Mem.tail _ (List.Mem.head _))))))
  have n6 : 0 ≤ (-1) + (1 * γ 18596 + 0) := hn _ (List.Mem.tail _ (List.Mem.tail _ (List.Mem.tail _ (List.Mem.tail _ (List.Mem.tail _ (List.Mem.tail _ (List.Mem.head _)))))))
  have n7 : 0 ≤ 255 + ((-1) * γ 18596 + 0) := hn _ (List.Mem.tail _ (List.Mem.tail _ (List.Mem.tail _ (List.Mem.tail _ (List.Mem.tail _ (List.Mem.tail _ (List.Mem.tail _ (List.Mem.head _))))))))
  clear hn
  obtain ⟨g0, g1, g2, g3, g4, g5, g6, g7, g8, g9, g10, g11, g12, g13, g14, g15, g16, g17, g18, g19, g20, g21, g22, g23, g24, g25, g26, g27, g28, g29, g30, g31, g32, g33, g34, g35, g36⟩ := id hG
  have r_J2 := sx_gr_J2 hR
  have r_J4 := sx_gr_J4 hR
  have r_PG := sx_gr_PG hR
  have r_QM := sx_gr_QM hR
  have hQ : γ 18595 = 1 := by omega
  obtain ⟨i1, i2, i3, i4, i5, i6, i7, i8, i9, i10⟩ := g20 hQ (by omega) (by omega)
  have ey : y = 2 := by omega
  have hv : sx_fshr x y = x / 4 := by
    unfold sx_fshr
    rw [ey] <;> rfl
  exact sx_q_hu_2_0 hG (by rw [hv]; omega)
theorem sx_p_hu_3 : sx_okw 16 sx_fshr sx_HH sx_r_hu_3 := by
  intro γ A x y hG hR hx0 hx1 hy0 hy1 hn
  have n0 : 0 ≤ (-1) + (1 * γ 18595 + 0) := hn _ (List.Mem.head _)
  have n1 : 0 ≤ 1 + ((-1) * γ 18595 + 0) := hn _ (List.Mem.tail _ (List.Mem.head _))
  have n2 : 0 ≤ 0 + ((-1) * γ 18664 + ((-1) * γ 18666 + (1 * x + 0))) := hn _ (List.Mem.tail _ (List.Mem.tail _ (List.Mem.head _)))
  have n3 : 0 ≤ 0 + (1 * γ 18664 + (1 * γ 18666 + ((-1) * x + 0))) := hn _ (List.Mem.tail _ (List.Mem.tail _ (List.Mem.tail _ (List.Mem.head _))))
  have n4 : 0 ≤ (-4) + (1 * y + 0) := hn _ (List.Mem.tail _ (List.Mem.tail _ (List.Mem.tail _ (List.Mem.tail _ (List.Mem.head _)))))
  have n5 : 0 ≤ 4 + ((-1) * y + 0) := hn _ (List.Mem.tail _ (List.Mem.tail _ (List.Mem.tail _ (List.Mem.tail _ (List.Mem.tail _ (List.Mem.head _))))))
  have n6 : 0 ≤ (-1) + (1 * γ 18596 + 0) := hn _ (List.Mem.tail _ (List.Mem.tail _ (List.Mem.tail _ (List.Mem.tail _ (List.Mem.tail _ (List.Mem.tail _ (List.Mem.head _)))))))
  have n7 : 0 ≤ 255 + ((-1) * γ 18596 + 0) := hn _ (List.Mem.tail _ (List.Mem.tail _ (List.Mem.tail _ (List.Mem.tail _ (List.Mem.tail _ (List.Mem.tail _ (List.Mem.tail _ (List.Mem.head _))))))))
  clear hn
  obtain ⟨g0, g1, g2, g3, g4, g5, g6, g7, g8, g9, g10, g11, g12, g13, g14, g15, g16, g17, g18, g19, g20, g21, g22, g23, g24, g25, g26, g27, g28, g29, g30, g31, g32, g33, g34, g35, g36⟩ := id hG
  have r_J3 := sx_gr_J3 hR
  have r_J5 := sx_gr_J5 hR
  have r_J6 := sx_gr_J6 hR
  have r_PG := sx_gr_PG hR
  have r_QM := sx_gr_QM hR
  have hQ : γ 18595 = 1 := by omega
  obtain ⟨i1, i2, i3, i4, i5, i6, i7, i8, i9, i10⟩ := g20 hQ (by omega) (by omega)
  have ey : y = 4 := by omega
  have hv : sx_fshr x y = x / 16 := by
    unfold sx_fshr
    rw [ey] <;> rfl
  exact sx_q_hu_3_0 hG (by rw [hv]; omega)
theorem sx_p_hu_4 : sx_okw 16 sx_fshr sx_HH sx_r_hu_4 := by
  intro γ A x y hG hR hx0 hx1 hy0 hy1 hn
  have n0 : 0 ≤ (-1) + (1 * γ 18595 + 0) := hn _ (List.Mem.head _)
  have n1 : 0 ≤ 1 + ((-1) * γ 18595 + 0) := hn _ (List.Mem.tail _ (List.Mem.head _))
  have n2 : 0 ≤ 0 + ((-1) * γ 18668 + (1 * x + 0)) := hn _ (List.Mem.tail _ (List.Mem.tail _ (List.Mem.head _)))
  have n3 : 0 ≤ 0 + (1 * γ 18668 + ((-1) * x + 0)) := hn _ (List.Mem.tail _ (List.Mem.tail _ (List.Mem.tail _ (List.Mem.head _))))
  have n4 : 0 ≤ (-8) + (1 * y + 0) := hn _ (List.Mem.tail _ (List.Mem.tail _ (List.Mem.tail _ (List.Mem.tail _ (List.Mem.head _)))))
  have n5 : 0 ≤ 8 + ((-1) * y + 0) := hn _ (List.Mem.tail _ (List.Mem.tail _ (List.Mem.tail _ (List.Mem.tail _ (List.Mem.tail _ (List.Mem.head _))))))
  have n6 : 0 ≤ (-1) + (1 * γ 18596 + 0) := hn _ (List.Mem.tail _ (List.Mem.tail _ (List.Mem.tail _ (List.Mem.tail _ (List.Mem.tail _ (List.Mem.tail _ (List.Mem.head _)))))))
  have n7 : 0 ≤ 255 + ((-1) * γ 18596 + 0) := hn _ (List.Mem.tail _ (List.Mem.tail _ (List.Mem.tail _ (List.Mem.tail _ (List.Mem.tail _ (List.Mem.tail _ (List.Mem.tail _ (List.Mem.head _))))))))
  clear hn
  obtain ⟨g0, g1, g2, g3, g4, g5, g6, g7, g8, g9, g10, g11, g12, g13, g14, g15, g16, g17, g18, g19, g20, g21, g22, g23, g24, g25, g26, g27, g28, g29, g30, g31, g32, g33, g34, g35, g36⟩ := id hG
  have r_J7 := sx_gr_J7 hR
  have r_PG := sx_gr_PG hR
  have r_QM := sx_gr_QM hR
  have hQ : γ 18595 = 1 := by omega
  obtain ⟨i1, i2, i3, i4, i5, i6, i7, i8, i9, i10⟩ := g20 hQ (by omega) (by omega)
  have ey : y = 8 := by omega
  have hv : sx_fshr x y = x / 256 := by
    unfold sx_fshr
    rw [ey] <;> rfl
  exact sx_q_hu_4_0 hG (by rw [hv]; omega)
theorem sx_p_hu_5 : sx_okw 16 sx_fshr sx_HH sx_r_hu_5 := by
  intro γ A x y hG hR hx0 hx1 hy0 hy1 hn
  have n0 : 0 ≤ (-1) + (1 * γ 18595 + 0) := hn _ (List.Mem.head _)
  have n1 : 0 ≤ 1 + ((-1) * γ 18595 + 0) := hn _ (List.Mem.tail _ (List.Mem.head _))
  have n2 : 0 ≤ 0 + ((-1) * γ 18668 + (1 * x + 0)) := hn _ (List.Mem.tail _ (List.Mem.tail _ (List.Mem.head _)))
  have n3 : 0 ≤ 0 + (1 * γ 18668 + ((-1) * x + 0)) := hn _ (List.Mem.tail _ (List.Mem.tail _ (List.Mem.tail _ (List.Mem.head _))))
  have n4 : 0 ≤ (-16) + (1 * y + 0) := hn _ (List.Mem.tail _ (List.Mem.tail _ (List.Mem.tail _ (List.Mem.tail _ (List.Mem.head _)))))
  have n5 : 0 ≤ 16 + ((-1) * y + 0) := hn _ (List.Mem.tail _ (List.Mem.tail _ (List.Mem.tail _ (List.Mem.tail _ (List.Mem.tail _ (List.Mem.head _))))))
  have n6 : 0 ≤ (-1) + (1 * γ 18596 + 0) := hn _ (List.Mem.tail _ (List.Mem.tail _ (List.Mem.tail _ (List.Mem.tail _ (List.Mem.tail _ (List.Mem.tail _ (List.Mem.head _)))))))
  have n7 : 0 ≤ 255 + ((-1) * γ 18596 + 0) := hn _ (List.Mem.tail _ (List.Mem.tail _ (List.Mem.tail _ (List.Mem.tail _ (List.Mem.tail _ (List.Mem.tail _ (List.Mem.tail _ (List.Mem.head _))))))))
  clear hn
  obtain ⟨g0, g1, g2, g3, g4, g5, g6, g7, g8, g9, g10, g11, g12, g13, g14, g15, g16, g17, g18, g19, g20, g21, g22, g23, g24, g25, g26, g27, g28, g29, g30, g31, g32, g33, g34, g35, g36⟩ := id hG
  have r_J7 := sx_gr_J7 hR
  have r_PG := sx_gr_PG hR
  have r_QM := sx_gr_QM hR
  have hQ : γ 18595 = 1 := by omega
  obtain ⟨i1, i2, i3, i4, i5, i6, i7, i8, i9, i10⟩ := g20 hQ (by omega) (by omega)
  have ey : y = 16 := by omega
  have hv : sx_fshr x y = x / 65536 := by
    unfold sx_fshr
    rw [ey] <;> rfl
  exact sx_q_hu_5_0 hG (by rw [hv]; omega)
