/-! THE RULES HOLD -/
theorem sx_p_l_fnd : sx_okr sx_GG false 2 sx_r_l_fnd := by
  intro γ A j y hG hR hj hlo hhi hl hn
  rw [show (sx_cell.get 2).2.2.1 = 8 from by decide +kernel] at hj
  rw [show (sx_cell.get 2).2.2.2.1 = (-9223372036854775808) from by decide +kernel] at hlo
  rw [show (sx_cell.get 2).2.2.2.2.1 = 9223372036854775807 from by decide +kernel] at hhi
  have hy : A 2 j = y := hl rfl
  have n0 : 0 ≤ 0 + ((-1) * γ 18515 + (1 * (j : Int) + 0)) := hn _ (List.Mem.head _)
  have n1 : 0 ≤ 0 + (1 * γ 18515 + ((-1) * (j : Int) + 0)) := hn _ (List.Mem.tail _ (List.Mem.head _))
  clear hn
  have hG0 := hG
  obtain ⟨g0, g1, g2, g3, g4, g5, g6, g7, g8, g9, g10, g11, g12, g13, g14, g15, g16, g17, g18, g19, g20, g21, g22, g23, g24⟩ := hG0
  have r_N0 := sx_gr_N0 hR
  have r_N1 := sx_gr_N1 hR
  have r_N2 := sx_gr_N2 hR
  have r_N3 := sx_gr_N3 hR
  have r_N4 := sx_gr_N4 hR
  have r_N5 := sx_gr_N5 hR
  have r_N6 := sx_gr_N6 hR
  have r_N7 := sx_gr_N7 hR
  have r_fI := sx_gr_fI hR
  have r_fM := sx_gr_fM hR
  have r_fX := sx_gr_fX hR
  by_cases h1 : y = γ 18514
  · exact sx_q_l_fnd_2 hG (by omega) (by omega) ⟨g21.1, (fun _ => (by rw [show (0 + (1 * (j : Int) + 0)).toNat = j by omega]; omega))⟩
  · by_cases h2 : γ 18514 < y
    · exact sx_q_l_fnd_0 hG (by omega) ⟨(fun j2 hj2 => (by
      by_cases e : j2 = j
      · rw [e]; omega
      · exact g21.1 j2 (by omega))), g21.2⟩
    · exact sx_q_l_fnd_1 hG (by omega) ⟨(fun j2 hj2 => (by
      by_cases e : j2 = j
      · rw [e]; omega
      · exact g21.1 j2 (by omega))), g21.2⟩
theorem sx_p_l_tr : sx_okr sx_GG false 41 sx_r_l_tr := by
  intro γ A j y hG hR hj hlo hhi hl hn
  rw [show (sx_cell.get 41).2.2.1 = 4 from by decide +kernel] at hj
  rw [show (sx_cell.get 41).2.2.2.1 = 0 from by decide +kernel] at hlo
  rw [show (sx_cell.get 41).2.2.2.2.1 = 142 from by decide +kernel] at hhi
  have hy : A 41 j = y := hl rfl
  clear hn
  have hG0 := hG
  obtain ⟨g0, g1, g2, g3, g4, g5, g6, g7, g8, g9, g10, g11, g12, g13, g14, g15, g16, g17, g18, g19, g20, g21, g22, g23, g24⟩ := hG0
  obtain ⟨t0, t1, t2, t3⟩ := g18
  rcases (show j = 0 ∨ j = 1 ∨ j = 2 ∨ j = 3 by omega) with rfl | rfl | rfl | rfl
  · exact sx_q_l_tr_0 hG (by omega) (by omega) (by omega)
  · exact sx_q_l_tr_1 hG (by omega) (by omega) (by omega)
  · exact sx_q_l_tr_2 hG (by omega) (by omega) (by omega)
  · exact sx_q_l_tr_3 hG (by omega) (by omega) (by omega)
theorem sx_p_l_choice : sx_okr sx_GG false 76 sx_r_l_choice := by
  intro γ A j y hG hR hj hlo hhi hl hn
  rw [show (sx_cell.get 76).2.2.1 = 8 from by decide +kernel] at hj
  rw [show (sx_cell.get 76).2.2.2.1 = (-1) from by decide +kernel] at hlo
  rw [show (sx_cell.get 76).2.2.2.2.1 = 7 from by decide +kernel] at hhi
  have hy : A 76 j = y := hl rfl
  have n0 : 0 ≤ (-1) + (1 * γ 18453 + ((-1) * (j : Int) + 0)) := hn _ (List.Mem.head _)
  clear hn
  have hG0 := hG
  obtain ⟨g0, g1, g2, g3, g4, g5, g6, g7, g8, g9, g10, g11, g12, g13, g14, g15, g16, g17, g18, g19, g20, g21, g22, g23, g24⟩ := hG0
  have r_B1 := sx_gr_B1 hR
  exact sx_q_l_choice_0 hG (by have := g5 j (by omega); omega)
theorem sx_p_l_opened : sx_okr sx_GG false 77 sx_r_l_opened := by
  intro γ A j y hG hR hj hlo hhi hl hn
  rw [show (sx_cell.get 77).2.2.1 = 9 from by decide +kernel] at hj
  rw [show (sx_cell.get 77).2.2.2.1 = 0 from by decide +kernel] at hlo
  rw [show (sx_cell.get 77).2.2.2.2.1 = 8 from by decide +kernel] at hhi
  have hy : A 77 j = y := hl rfl
  have n0 : 0 ≤ (-1) + (1 * γ 18454 + ((-1) * (j : Int) + 0)) := hn _ (List.Mem.head _)
  clear hn
  have hG0 := hG
  obtain ⟨g0, g1, g2, g3, g4, g5, g6, g7, g8, g9, g10, g11, g12, g13, g14, g15, g16, g17, g18, g19, g20, g21, g22, g23, g24⟩ := hG0
  have r_B2 := sx_gr_B2 hR
  exact sx_q_l_opened_0 hG (by have := g6 j (by omega); omega)
theorem sx_p_l_sort : sx_okr sx_GG false 101 sx_r_l_sort := by
  intro γ A j y hG hR hj hlo hhi hl hn
  rw [show (sx_cell.get 101).2.2.1 = 4 from by decide +kernel] at hj
  rw [show (sx_cell.get 101).2.2.2.1 = 0 from by decide +kernel] at hlo
  rw [show (sx_cell.get 101).2.2.2.2.1 = 3 from by decide +kernel] at hhi
  have hy : A 101 j = y := hl rfl
  clear hn
  have hG0 := hG
  obtain ⟨g0, g1, g2, g3, g4, g5, g6, g7, g8, g9, g10, g11, g12, g13, g14, g15, g16, g17, g18, g19, g20, g21, g22, g23, g24⟩ := hG0
  have r_S0 := sx_gr_S0 hR
  have r_S1 := sx_gr_S1 hR
  have r_S2 := sx_gr_S2 hR
  have r_S3 := sx_gr_S3 hR
  obtain ⟨t0, t1, t2, t3⟩ := g16
  rcases (show j = 0 ∨ j = 1 ∨ j = 2 ∨ j = 3 by omega) with rfl | rfl | rfl | rfl
  · exact sx_q_l_sort_0 hG (by omega) (by omega) (by omega)
  · exact sx_q_l_sort_1 hG (by omega) (by omega) (by omega)
  · exact sx_q_l_sort_2 hG (by omega) (by omega) (by omega)
  · exact sx_q_l_sort_3 hG (by omega) (by omega) (by omega)
theorem sx_p_l_trayMany : sx_okr sx_GG false 102 sx_r_l_trayMany := by
  intro γ A j y hG hR hj hlo hhi hl hn
  rw [show (sx_cell.get 102).2.2.1 = 4 from by decide +kernel] at hj
  rw [show (sx_cell.get 102).2.2.2.1 = (-1) from by decide +kernel] at hlo
  rw [show (sx_cell.get 102).2.2.2.2.1 = 60 from by decide +kernel] at hhi
  have hy : A 102 j = y := hl rfl
  clear hn
  have hG0 := hG
  obtain ⟨g0, g1, g2, g3, g4, g5, g6, g7, g8, g9, g10, g11, g12, g13, g14, g15, g16, g17, g18, g19, g20, g21, g22, g23, g24⟩ := hG0
  have r_M0 := sx_gr_M0 hR
  have r_M1 := sx_gr_M1 hR
  have r_M2 := sx_gr_M2 hR
  have r_M3 := sx_gr_M3 hR
  obtain ⟨t0, t1, t2, t3⟩ := g17
  rcases (show j = 0 ∨ j = 1 ∨ j = 2 ∨ j = 3 by omega) with rfl | rfl | rfl | rfl
  · exact sx_q_l_trayMany_0 hG (by omega) (by omega) (by omega)
  · exact sx_q_l_trayMany_1 hG (by omega) (by omega) (by omega)
  · exact sx_q_l_trayMany_2 hG (by omega) (by omega) (by omega)
  · exact sx_q_l_trayMany_3 hG (by omega) (by omega) (by omega)
theorem sx_p_l_gnd : sx_okr sx_GG false 104 sx_r_l_gnd := by
  intro γ A j y hG hR hj hlo hhi hl hn
  rw [show (sx_cell.get 104).2.2.1 = 8 from by decide +kernel] at hj
  rw [show (sx_cell.get 104).2.2.2.1 = (-9223372036854775808) from by decide +kernel] at hlo
  rw [show (sx_cell.get 104).2.2.2.2.1 = 9223372036854775807 from by decide +kernel] at hhi
  have hy : A 104 j = y := hl rfl
  have n0 : 0 ≤ 0 + ((-1) * γ 18518 + (1 * (j : Int) + 0)) := hn _ (List.Mem.head _)
  have n1 : 0 ≤ 0 + (1 * γ 18518 + ((-1) * (j : Int) + 0)) := hn _ (List.Mem.tail _ (List.Mem.head _))
  clear hn
  have hG0 := hG
  obtain ⟨g0, g1, g2, g3, g4, g5, g6, g7, g8, g9, g10, g11, g12, g13, g14, g15, g16, g17, g18, g19, g20, g21, g22, g23, g24⟩ := hG0
  have r_L0 := sx_gr_L0 hR
  have r_L1 := sx_gr_L1 hR
  have r_L2 := sx_gr_L2 hR
  have r_L3 := sx_gr_L3 hR
  have r_L4 := sx_gr_L4 hR
  have r_L5 := sx_gr_L5 hR
  have r_L6 := sx_gr_L6 hR
  have r_L7 := sx_gr_L7 hR
  have r_gI := sx_gr_gI hR
  have r_gM := sx_gr_gM hR
  have r_gX := sx_gr_gX hR
  by_cases h1 : y = γ 18517
  · exact sx_q_l_gnd_2 hG (by omega) (by omega) ⟨g22.1, (fun _ => (by rw [show (0 + (1 * (j : Int) + 0)).toNat = j by omega]; omega))⟩
  · by_cases h2 : γ 18517 < y
    · exact sx_q_l_gnd_0 hG (by omega) ⟨(fun j2 hj2 => (by
      by_cases e : j2 = j
      · rw [e]; omega
      · exact g22.1 j2 (by omega))), g22.2⟩
    · exact sx_q_l_gnd_1 hG (by omega) ⟨(fun j2 hj2 => (by
      by_cases e : j2 = j
      · rw [e]; omega
      · exact g22.1 j2 (by omega))), g22.2⟩
theorem sx_p_l_tx0 : sx_okr sx_GG false 110 sx_r_l_tx0 := by
  intro γ A j y hG hR hj hlo hhi hl hn
  rw [show (sx_cell.get 110).2.2.1 = 300 from by decide +kernel] at hj
  rw [show (sx_cell.get 110).2.2.2.1 = (-128) from by decide +kernel] at hlo
  rw [show (sx_cell.get 110).2.2.2.2.1 = 127 from by decide +kernel] at hhi
  have hy : A 110 j = y := hl rfl
  have n0 : 0 ≤ 0 + ((-1) * γ 18496 + (1 * (j : Int) + 0)) := hn _ (List.Mem.head _)
  have n1 : 0 ≤ 0 + (1 * γ 18496 + ((-1) * (j : Int) + 0)) := hn _ (List.Mem.tail _ (List.Mem.head _))
  clear hn
  have hG0 := hG
  obtain ⟨g0, g1, g2, g3, g4, g5, g6, g7, g8, g9, g10, g11, g12, g13, g14, g15, g16, g17, g18, g19, g20, g21, g22, g23, g24⟩ := hG0
  have r_tI := sx_gr_tI hR
  have r_tV := sx_gr_tV hR
  have h1 := g8 (by omega)
  rw [show (γ 18496).toNat = j by omega] at h1
  exact sx_q_l_tx0_0 hG (by omega)
theorem sx_p_l_tx : sx_okr sx_GG false 110 sx_r_l_tx := by
  intro γ A j y hG hR hj hlo hhi hl hn
  rw [show (sx_cell.get 110).2.2.1 = 300 from by decide +kernel] at hj
  rw [show (sx_cell.get 110).2.2.2.1 = (-128) from by decide +kernel] at hlo
  rw [show (sx_cell.get 110).2.2.2.2.1 = 127 from by decide +kernel] at hhi
  have hy : A 110 j = y := hl rfl
  clear hn
  have hG0 := hG
  obtain ⟨g0, g1, g2, g3, g4, g5, g6, g7, g8, g9, g10, g11, g12, g13, g14, g15, g16, g17, g18, g19, g20, g21, g22, g23, g24⟩ := hG0
  have r_tI := sx_gr_tI hR
  have r_tV := sx_gr_tV hR
  exact sx_q_l_tx_0 hG (fun _ => by rw [show (0 + (1 * (j : Int) + 0)).toNat = j by omega]; omega)
theorem sx_p_l_say : sx_okr sx_GG false 111 sx_r_l_say := by
  intro γ A j y hG hR hj hlo hhi hl hn
  rw [show (sx_cell.get 111).2.2.1 = 8 from by decide +kernel] at hj
  rw [show (sx_cell.get 111).2.2.2.1 = 0 from by decide +kernel] at hlo
  rw [show (sx_cell.get 111).2.2.2.2.1 = 12 from by decide +kernel] at hhi
  have hy : A 111 j = y := hl rfl
  have n0 : 0 ≤ (-1) + ((-1) * γ 18461 + 0) := hn _ (List.Mem.head _)
  clear hn
  have hG0 := hG
  obtain ⟨g0, g1, g2, g3, g4, g5, g6, g7, g8, g9, g10, g11, g12, g13, g14, g15, g16, g17, g18, g19, g20, g21, g22, g23, g24⟩ := hG0
  have r_D := sx_gr_D hR
  have r_cO := sx_gr_cO hR
  have r_cS := sx_gr_cS hR
  have r_cY := sx_gr_cY hR
  have r_cp := sx_gr_cp hR
  have r_rE := sx_gr_rE hR
  have r_rF := sx_gr_rF hR
  have r_rK := sx_gr_rK hR
  have r_rL := sx_gr_rL hR
  have r_rN := sx_gr_rN hR
  have r_rP := sx_gr_rP hR
  have r_rQ := sx_gr_rQ hR
  have r_rSq := sx_gr_rSq hR
  have r_rSs := sx_gr_rSs hR
  have r_rT0 := sx_gr_rT0 hR
  have r_rT1 := sx_gr_rT1 hR
  have r_rV := sx_gr_rV hR
  have r_yp := sx_gr_yp hR
  obtain ⟨k1, k2, k3, k4, k5, k6⟩ := g12
  exact sx_q_l_say_0 hG ⟨k1, k2, k3, k4, k5, fun _ => ⟨by omega, by rw [show (0 + (1 * (j : Int) + 0)).toNat = j by omega]; omega⟩⟩
theorem sx_p_l_sf : sx_okr sx_GG false 113 sx_r_l_sf := by
  intro γ A j y hG hR hj hlo hhi hl hn
  rw [show (sx_cell.get 113).2.2.1 = 108 from by decide +kernel] at hj
  rw [show (sx_cell.get 113).2.2.2.1 = 0 from by decide +kernel] at hlo
  rw [show (sx_cell.get 113).2.2.2.2.1 = 2900 from by decide +kernel] at hhi
  have hy : A 113 j = y := hl rfl
  have n0 : 0 ≤ 0 + ((-12) * γ 18471 + (1 * (j : Int) + 0)) := hn _ (List.Mem.head _)
  have n1 : 0 ≤ (-1) + (12 * γ 18471 + (1 * γ 18472 + ((-1) * (j : Int) + 0))) := hn _ (List.Mem.tail _ (List.Mem.head _))
  have n2 : 0 ≤ 0 + (1 * γ 18471 + 0) := hn _ (List.Mem.tail _ (List.Mem.tail _ (List.Mem.head _)))
  clear hn
  have hG0 := hG
  obtain ⟨g0, g1, g2, g3, g4, g5, g6, g7, g8, g9, g10, g11, g12, g13, g14, g15, g16, g17, g18, g19, g20, g21, g22, g23, g24⟩ := hG0
  have r_D := sx_gr_D hR
  have r_cO := sx_gr_cO hR
  have r_cS := sx_gr_cS hR
  have r_cY := sx_gr_cY hR
  have r_cp := sx_gr_cp hR
  have r_lI := sx_gr_lI hR
  have r_lV := sx_gr_lV hR
  have r_lw := sx_gr_lw hR
  have r_rE := sx_gr_rE hR
  have r_rF := sx_gr_rF hR
  have r_rK := sx_gr_rK hR
  have r_rL := sx_gr_rL hR
  have r_rN := sx_gr_rN hR
  have r_rP := sx_gr_rP hR
  have r_rQ := sx_gr_rQ hR
  have r_rSq := sx_gr_rSq hR
  have r_rSs := sx_gr_rSs hR
  have r_rT0 := sx_gr_rT0 hR
  have r_rT1 := sx_gr_rT1 hR
  have r_rV := sx_gr_rV hR
  have r_sE := sx_gr_sE hR
  have r_sa := sx_gr_sa hR
  have r_sb := sx_gr_sb hR
  have r_sp := sx_gr_sp hR
  have r_tB := sx_gr_tB hR
  have r_tE := sx_gr_tE hR
  have r_w0 := sx_gr_w0 hR
  have r_w1 := sx_gr_w1 hR
  have r_wa := sx_gr_wa hR
  have r_wh := sx_gr_wh hR
  have r_wp := sx_gr_wp hR
  have r_yp := sx_gr_yp hR
  obtain ⟨k1, k2, k3, k4, k5, k6⟩ := g12
  obtain ⟨hD, hN⟩ := k6 (by omega)
  obtain ⟨hs12, hp⟩ := g11 (γ 18471).toNat (by omega) (by omega)
  obtain ⟨p1, p2, p3, p4, p5⟩ := hp j (by omega) (by omega)
  obtain ⟨s1, s2, s3, s4⟩ := p1
  refine sx_q_l_sf_0 hG (fun _ => A 114 j) ⟨by omega, by omega⟩ (by show 0 ≤ 0 + (-1 * y + (1 * A 114 j + 0)); omega) (by show 0 ≤ 320 + (1 * y + (-1 * A 114 j + 0)); omega) ⟨?_, k2, k3, k4, fun _ => ?_, k6⟩
  · show sx_hk (A 117) ((0 + (1 * A 114 j + 0)) - (0 + (1 * y + 0))).toNat (0 + (1 * y + 0)).toNat (0 + 0)
    exact sx_hk_c s4 (by omega) (by omega) (by omega)
  · show A 114 (0 + (1 * (j : Int) + 0)).toNat = 0 + (1 * A 114 j + 0)
    rw [show (0 + (1 * (j : Int) + 0)).toNat = j by omega]; omega
theorem sx_p_l_cp5 : sx_okr sx_GG false 113 sx_r_l_cp5 := by
  intro γ A j y hG hR hj hlo hhi hl hn
  rw [show (sx_cell.get 113).2.2.1 = 108 from by decide +kernel] at hj
  rw [show (sx_cell.get 113).2.2.2.1 = 0 from by decide +kernel] at hlo
  rw [show (sx_cell.get 113).2.2.2.2.1 = 2900 from by decide +kernel] at hhi
  have hy : A 113 j = y := hl rfl
  have n0 : 0 ≤ (-96) + (1 * (j : Int) + 0) := hn _ (List.Mem.head _)
  have n1 : 0 ≤ (-1) + (1 * γ 18484 + ((-1) * (j : Int) + 0)) := hn _ (List.Mem.tail _ (List.Mem.head _))
  clear hn
  have hG0 := hG
  obtain ⟨g0, g1, g2, g3, g4, g5, g6, g7, g8, g9, g10, g11, g12, g13, g14, g15, g16, g17, g18, g19, g20, g21, g22, g23, g24⟩ := hG0
  have r_D := sx_gr_D hR
  have r_cO := sx_gr_cO hR
  have r_cS := sx_gr_cS hR
  have r_cY := sx_gr_cY hR
  have r_cp := sx_gr_cp hR
  have r_lI := sx_gr_lI hR
  have r_lV := sx_gr_lV hR
  have r_lw := sx_gr_lw hR
  have r_sE := sx_gr_sE hR
  have r_sa := sx_gr_sa hR
  have r_sb := sx_gr_sb hR
  have r_sp := sx_gr_sp hR
  have r_tB := sx_gr_tB hR
  have r_tE := sx_gr_tE hR
  have r_w0 := sx_gr_w0 hR
  have r_w1 := sx_gr_w1 hR
  have r_wa := sx_gr_wa hR
  have r_wh := sx_gr_wh hR
  have r_wp := sx_gr_wp hR
  have r_yp := sx_gr_yp hR
  obtain ⟨w_1, w_2, w_3, w_4, w_5, w_6, w_7, w_8, w_9, w_10⟩ := g13
  obtain ⟨⟨s1, s2, s3, s4⟩, o2, o3, o4⟩ := w_10 j (by omega) (by omega)
  exact sx_q_l_cp5_0 hG (by omega) (by omega) ⟨(fun e => by omega), (fun e => by omega), (fun e => by omega), (fun e => by omega), (fun _ => by rw [show (0 + (1 * (j : Int) + 0)).toNat = j by omega]; omega), (fun e => by omega), (fun e => by omega), (fun e => by omega)⟩
theorem sx_p_l_st : sx_okr sx_GG false 114 sx_r_l_st := by
  intro γ A j y hG hR hj hlo hhi hl hn
  rw [show (sx_cell.get 114).2.2.1 = 108 from by decide +kernel] at hj
  rw [show (sx_cell.get 114).2.2.2.1 = 0 from by decide +kernel] at hlo
  rw [show (sx_cell.get 114).2.2.2.2.1 = 2900 from by decide +kernel] at hhi
  have hy : A 114 j = y := hl rfl
  have n0 : 0 ≤ 0 + ((-1) * γ 18470 + (1 * (j : Int) + 0)) := hn _ (List.Mem.head _)
  have n1 : 0 ≤ 0 + (1 * γ 18470 + ((-1) * (j : Int) + 0)) := hn _ (List.Mem.tail _ (List.Mem.head _))
  have n2 : 0 ≤ 0 + (1 * γ 18470 + 0) := hn _ (List.Mem.tail _ (List.Mem.tail _ (List.Mem.head _)))
  clear hn
  have hG0 := hG
  obtain ⟨g0, g1, g2, g3, g4, g5, g6, g7, g8, g9, g10, g11, g12, g13, g14, g15, g16, g17, g18, g19, g20, g21, g22, g23, g24⟩ := hG0
  have r_D := sx_gr_D hR
  have r_cO := sx_gr_cO hR
  have r_cS := sx_gr_cS hR
  have r_cY := sx_gr_cY hR
  have r_cp := sx_gr_cp hR
  have r_lI := sx_gr_lI hR
  have r_lV := sx_gr_lV hR
  have r_lw := sx_gr_lw hR
  have r_rE := sx_gr_rE hR
  have r_rF := sx_gr_rF hR
  have r_rK := sx_gr_rK hR
  have r_rL := sx_gr_rL hR
  have r_rN := sx_gr_rN hR
  have r_rP := sx_gr_rP hR
  have r_rQ := sx_gr_rQ hR
  have r_rSq := sx_gr_rSq hR
  have r_rSs := sx_gr_rSs hR
  have r_rT0 := sx_gr_rT0 hR
  have r_rT1 := sx_gr_rT1 hR
  have r_rV := sx_gr_rV hR
  have r_sE := sx_gr_sE hR
  have r_sa := sx_gr_sa hR
  have r_sb := sx_gr_sb hR
  have r_sp := sx_gr_sp hR
  have r_tB := sx_gr_tB hR
  have r_tE := sx_gr_tE hR
  have r_w0 := sx_gr_w0 hR
  have r_w1 := sx_gr_w1 hR
  have r_wa := sx_gr_wa hR
  have r_wh := sx_gr_wh hR
  have r_wp := sx_gr_wp hR
  have r_yp := sx_gr_yp hR
  obtain ⟨k1, k2, k3, k4, k5, k6⟩ := g12
  have h1 := k5 (by omega)
  rw [show (γ 18470).toNat = j by omega] at h1
  exact sx_q_l_st_0 hG (by omega)
theorem sx_p_l_cp6 : sx_okr sx_GG false 114 sx_r_l_cp6 := by
  intro γ A j y hG hR hj hlo hhi hl hn
  rw [show (sx_cell.get 114).2.2.1 = 108 from by decide +kernel] at hj
  rw [show (sx_cell.get 114).2.2.2.1 = 0 from by decide +kernel] at hlo
  rw [show (sx_cell.get 114).2.2.2.2.1 = 2900 from by decide +kernel] at hhi
  have hy : A 114 j = y := hl rfl
  have n0 : 0 ≤ (-96) + (1 * (j : Int) + 0) := hn _ (List.Mem.head _)
  have n1 : 0 ≤ (-1) + (1 * γ 18484 + ((-1) * (j : Int) + 0)) := hn _ (List.Mem.tail _ (List.Mem.head _))
  clear hn
  have hG0 := hG
  obtain ⟨g0, g1, g2, g3, g4, g5, g6, g7, g8, g9, g10, g11, g12, g13, g14, g15, g16, g17, g18, g19, g20, g21, g22, g23, g24⟩ := hG0
  have r_D := sx_gr_D hR
  have r_cO := sx_gr_cO hR
  have r_cS := sx_gr_cS hR
  have r_cY := sx_gr_cY hR
  have r_cp := sx_gr_cp hR
  have r_lI := sx_gr_lI hR
  have r_lV := sx_gr_lV hR
  have r_lw := sx_gr_lw hR
  have r_rE := sx_gr_rE hR
  have r_rF := sx_gr_rF hR
  have r_rK := sx_gr_rK hR
  have r_rL := sx_gr_rL hR
  have r_rN := sx_gr_rN hR
  have r_rP := sx_gr_rP hR
  have r_rQ := sx_gr_rQ hR
  have r_rSq := sx_gr_rSq hR
  have r_rSs := sx_gr_rSs hR
  have r_rT0 := sx_gr_rT0 hR
  have r_rT1 := sx_gr_rT1 hR
  have r_rV := sx_gr_rV hR
  have r_sE := sx_gr_sE hR
  have r_sa := sx_gr_sa hR
  have r_sb := sx_gr_sb hR
  have r_sp := sx_gr_sp hR
  have r_tB := sx_gr_tB hR
  have r_tE := sx_gr_tE hR
  have r_w0 := sx_gr_w0 hR
  have r_w1 := sx_gr_w1 hR
  have r_wa := sx_gr_wa hR
  have r_wh := sx_gr_wh hR
  have r_wp := sx_gr_wp hR
  have r_yp := sx_gr_yp hR
  obtain ⟨w_1, w_2, w_3, w_4, w_5, w_6, w_7, w_8, w_9, w_10⟩ := g13
  obtain ⟨⟨s1, s2, s3, s4⟩, o2, o3, o4⟩ := w_10 j (by omega) (by omega)
  exact sx_q_l_cp6_0 hG (by omega) (by omega) ⟨(fun e => by omega), (fun e => by omega), (fun e => by omega), (fun e => by omega), (fun e => by omega), (fun _ => by rw [show (0 + (1 * (j : Int) + 0)).toNat = j by omega]; omega), (fun e => by omega), (fun e => by omega)⟩
theorem sx_p_l_tf : sx_okr sx_GG false 115 sx_r_l_tf := by
  intro γ A j y hG hR hj hlo hhi hl hn
  rw [show (sx_cell.get 115).2.2.1 = 108 from by decide +kernel] at hj
  rw [show (sx_cell.get 115).2.2.2.1 = 0 from by decide +kernel] at hlo
  rw [show (sx_cell.get 115).2.2.2.2.1 = 2000 from by decide +kernel] at hhi
  have hy : A 115 j = y := hl rfl
  have n0 : 0 ≤ 0 + ((-12) * γ 18471 + (1 * (j : Int) + 0)) := hn _ (List.Mem.head _)
  have n1 : 0 ≤ (-1) + (12 * γ 18471 + (1 * γ 18472 + ((-1) * (j : Int) + 0))) := hn _ (List.Mem.tail _ (List.Mem.head _))
  have n2 : 0 ≤ 0 + (1 * γ 18471 + 0) := hn _ (List.Mem.tail _ (List.Mem.tail _ (List.Mem.head _)))
  clear hn
  have hG0 := hG
  obtain ⟨g0, g1, g2, g3, g4, g5, g6, g7, g8, g9, g10, g11, g12, g13, g14, g15, g16, g17, g18, g19, g20, g21, g22, g23, g24⟩ := hG0
  have r_D := sx_gr_D hR
  have r_cO := sx_gr_cO hR
  have r_cS := sx_gr_cS hR
  have r_cY := sx_gr_cY hR
  have r_cp := sx_gr_cp hR
  have r_lI := sx_gr_lI hR
  have r_lV := sx_gr_lV hR
  have r_lw := sx_gr_lw hR
  have r_rE := sx_gr_rE hR
  have r_rF := sx_gr_rF hR
  have r_rK := sx_gr_rK hR
  have r_rL := sx_gr_rL hR
  have r_rN := sx_gr_rN hR
  have r_rP := sx_gr_rP hR
  have r_rQ := sx_gr_rQ hR
  have r_rSq := sx_gr_rSq hR
  have r_rSs := sx_gr_rSs hR
  have r_rT0 := sx_gr_rT0 hR
  have r_rT1 := sx_gr_rT1 hR
  have r_rV := sx_gr_rV hR
  have r_sE := sx_gr_sE hR
  have r_sa := sx_gr_sa hR
  have r_sb := sx_gr_sb hR
  have r_sp := sx_gr_sp hR
  have r_tB := sx_gr_tB hR
  have r_tE := sx_gr_tE hR
  have r_w0 := sx_gr_w0 hR
  have r_w1 := sx_gr_w1 hR
  have r_wa := sx_gr_wa hR
  have r_wh := sx_gr_wh hR
  have r_wp := sx_gr_wp hR
  have r_yp := sx_gr_yp hR
  obtain ⟨k1, k2, k3, k4, k5, k6⟩ := g12
  obtain ⟨hD, hN⟩ := k6 (by omega)
  obtain ⟨hs12, hp⟩ := g11 (γ 18471).toNat (by omega) (by omega)
  obtain ⟨p1, p2, p3, p4, p5⟩ := hp j (by omega) (by omega)
  obtain ⟨s1, s2, s3, s4⟩ := p1
  refine sx_q_l_tf_0 hG (fun _ => A 116 j) ⟨by omega, by omega⟩ (by show 0 ≤ 0 + (-1 * y + (1 * A 116 j + 0)); omega) (by omega) (by show 0 ≤ 160 + (160 * γ 18471 + (-1 * A 116 j + 0)); omega) ⟨k1, k2, fun q q1 q2 => ?_, fun _ => ?_, k5, k6⟩
  · replace q2 : (q : Int) < 0 + (1 * A 116 j + 0) := q2
    exact ⟨_, _, by omega, Int.le_refl _, p5 q (by omega) (by omega)⟩
  · show A 116 (0 + (1 * (j : Int) + 0)).toNat = 0 + (1 * A 116 j + 0)
    rw [show (0 + (1 * (j : Int) + 0)).toNat = j by omega]; omega
theorem sx_p_l_cp7 : sx_okr sx_GG false 115 sx_r_l_cp7 := by
  intro γ A j y hG hR hj hlo hhi hl hn
  rw [show (sx_cell.get 115).2.2.1 = 108 from by decide +kernel] at hj
  rw [show (sx_cell.get 115).2.2.2.1 = 0 from by decide +kernel] at hlo
  rw [show (sx_cell.get 115).2.2.2.2.1 = 2000 from by decide +kernel] at hhi
  have hy : A 115 j = y := hl rfl
  have n0 : 0 ≤ (-96) + (1 * (j : Int) + 0) := hn _ (List.Mem.head _)
  have n1 : 0 ≤ (-1) + (1 * γ 18484 + ((-1) * (j : Int) + 0)) := hn _ (List.Mem.tail _ (List.Mem.head _))
  clear hn
  have hG0 := hG
  obtain ⟨g0, g1, g2, g3, g4, g5, g6, g7, g8, g9, g10, g11, g12, g13, g14, g15, g16, g17, g18, g19, g20, g21, g22, g23, g24⟩ := hG0
  have r_D := sx_gr_D hR
  have r_cO := sx_gr_cO hR
  have r_cS := sx_gr_cS hR
  have r_cY := sx_gr_cY hR
  have r_cp := sx_gr_cp hR
  have r_lI := sx_gr_lI hR
  have r_lV := sx_gr_lV hR
  have r_lw := sx_gr_lw hR
  have r_sE := sx_gr_sE hR
  have r_sa := sx_gr_sa hR
  have r_sb := sx_gr_sb hR
  have r_sp := sx_gr_sp hR
  have r_tB := sx_gr_tB hR
  have r_tE := sx_gr_tE hR
  have r_w0 := sx_gr_w0 hR
  have r_w1 := sx_gr_w1 hR
  have r_wa := sx_gr_wa hR
  have r_wh := sx_gr_wh hR
  have r_wp := sx_gr_wp hR
  have r_yp := sx_gr_yp hR
  obtain ⟨w_1, w_2, w_3, w_4, w_5, w_6, w_7, w_8, w_9, w_10⟩ := g13
  obtain ⟨⟨s1, s2, s3, s4⟩, o2, o3, o4⟩ := w_10 j (by omega) (by omega)
  exact sx_q_l_cp7_0 hG (by omega) (by omega) ⟨(fun e => by omega), (fun e => by omega), (fun e => by omega), (fun e => by omega), (fun e => by omega), (fun e => by omega), (fun _ => by rw [show (0 + (1 * (j : Int) + 0)).toNat = j by omega]; omega), (fun e => by omega)⟩
theorem sx_p_l_tt : sx_okr sx_GG false 116 sx_r_l_tt := by
  intro γ A j y hG hR hj hlo hhi hl hn
  rw [show (sx_cell.get 116).2.2.1 = 108 from by decide +kernel] at hj
  rw [show (sx_cell.get 116).2.2.2.1 = 0 from by decide +kernel] at hlo
  rw [show (sx_cell.get 116).2.2.2.2.1 = 2000 from by decide +kernel] at hhi
  have hy : A 116 j = y := hl rfl
  have n0 : 0 ≤ 0 + ((-1) * γ 18469 + (1 * (j : Int) + 0)) := hn _ (List.Mem.head _)
  have n1 : 0 ≤ 0 + (1 * γ 18469 + ((-1) * (j : Int) + 0)) := hn _ (List.Mem.tail _ (List.Mem.head _))
  have n2 : 0 ≤ 0 + (1 * γ 18469 + 0) := hn _ (List.Mem.tail _ (List.Mem.tail _ (List.Mem.head _)))
  clear hn
  have hG0 := hG
  obtain ⟨g0, g1, g2, g3, g4, g5, g6, g7, g8, g9, g10, g11, g12, g13, g14, g15, g16, g17, g18, g19, g20, g21, g22, g23, g24⟩ := hG0
  have r_D := sx_gr_D hR
  have r_cO := sx_gr_cO hR
  have r_cS := sx_gr_cS hR
  have r_cY := sx_gr_cY hR
  have r_cp := sx_gr_cp hR
  have r_lI := sx_gr_lI hR
  have r_lV := sx_gr_lV hR
  have r_lw := sx_gr_lw hR
  have r_rE := sx_gr_rE hR
  have r_rF := sx_gr_rF hR
  have r_rK := sx_gr_rK hR
  have r_rL := sx_gr_rL hR
  have r_rN := sx_gr_rN hR
  have r_rP := sx_gr_rP hR
  have r_rQ := sx_gr_rQ hR
  have r_rSq := sx_gr_rSq hR
  have r_rSs := sx_gr_rSs hR
  have r_rT0 := sx_gr_rT0 hR
  have r_rT1 := sx_gr_rT1 hR
  have r_rV := sx_gr_rV hR
  have r_sE := sx_gr_sE hR
  have r_sa := sx_gr_sa hR
  have r_sb := sx_gr_sb hR
  have r_sp := sx_gr_sp hR
  have r_tB := sx_gr_tB hR
  have r_tE := sx_gr_tE hR
  have r_w0 := sx_gr_w0 hR
  have r_w1 := sx_gr_w1 hR
  have r_wa := sx_gr_wa hR
  have r_wh := sx_gr_wh hR
  have r_wp := sx_gr_wp hR
  have r_yp := sx_gr_yp hR
  obtain ⟨k1, k2, k3, k4, k5, k6⟩ := g12
  have h1 := k4 (by omega)
  rw [show (γ 18469).toNat = j by omega] at h1
  exact sx_q_l_tt_0 hG (by omega)
theorem sx_p_l_cp8 : sx_okr sx_GG false 116 sx_r_l_cp8 := by
  intro γ A j y hG hR hj hlo hhi hl hn
  rw [show (sx_cell.get 116).2.2.1 = 108 from by decide +kernel] at hj
  rw [show (sx_cell.get 116).2.2.2.1 = 0 from by decide +kernel] at hlo
  rw [show (sx_cell.get 116).2.2.2.2.1 = 2000 from by decide +kernel] at hhi
  have hy : A 116 j = y := hl rfl
  have n0 : 0 ≤ (-96) + (1 * (j : Int) + 0) := hn _ (List.Mem.head _)
  have n1 : 0 ≤ (-1) + (1 * γ 18484 + ((-1) * (j : Int) + 0)) := hn _ (List.Mem.tail _ (List.Mem.head _))
  clear hn
  have hG0 := hG
  obtain ⟨g0, g1, g2, g3, g4, g5, g6, g7, g8, g9, g10, g11, g12, g13, g14, g15, g16, g17, g18, g19, g20, g21, g22, g23, g24⟩ := hG0
  have r_D := sx_gr_D hR
  have r_cO := sx_gr_cO hR
  have r_cS := sx_gr_cS hR
  have r_cY := sx_gr_cY hR
  have r_cp := sx_gr_cp hR
  have r_lI := sx_gr_lI hR
  have r_lV := sx_gr_lV hR
  have r_lw := sx_gr_lw hR
  have r_rE := sx_gr_rE hR
  have r_rF := sx_gr_rF hR
  have r_rK := sx_gr_rK hR
  have r_rL := sx_gr_rL hR
  have r_rN := sx_gr_rN hR
  have r_rP := sx_gr_rP hR
  have r_rQ := sx_gr_rQ hR
  have r_rSq := sx_gr_rSq hR
  have r_rSs := sx_gr_rSs hR
  have r_rT0 := sx_gr_rT0 hR
  have r_rT1 := sx_gr_rT1 hR
  have r_rV := sx_gr_rV hR
  have r_sE := sx_gr_sE hR
  have r_sa := sx_gr_sa hR
  have r_sb := sx_gr_sb hR
  have r_sp := sx_gr_sp hR
  have r_tB := sx_gr_tB hR
  have r_tE := sx_gr_tE hR
  have r_w0 := sx_gr_w0 hR
  have r_w1 := sx_gr_w1 hR
  have r_wa := sx_gr_wa hR
  have r_wh := sx_gr_wh hR
  have r_wp := sx_gr_wp hR
  have r_yp := sx_gr_yp hR
  obtain ⟨w_1, w_2, w_3, w_4, w_5, w_6, w_7, w_8, w_9, w_10⟩ := g13
  obtain ⟨⟨s1, s2, s3, s4⟩, o2, o3, o4⟩ := w_10 j (by omega) (by omega)
  exact sx_q_l_cp8_0 hG (by omega) (by omega) ⟨(fun e => by omega), (fun e => by omega), (fun e => by omega), (fun e => by omega), (fun e => by omega), (fun e => by omega), (fun e => by omega), (fun _ => by rw [show (0 + (1 * (j : Int) + 0)).toNat = j by omega]; omega)⟩
theorem sx_p_l_sg : sx_okr sx_GG false 117 sx_r_l_sg := by
  intro γ A j y hG hR hj hlo hhi hl hn
  rw [show (sx_cell.get 117).2.2.1 = 2900 from by decide +kernel] at hj
  rw [show (sx_cell.get 117).2.2.2.1 = (-2147483648) from by decide +kernel] at hlo
  rw [show (sx_cell.get 117).2.2.2.2.1 = 2147483647 from by decide +kernel] at hhi
  have hy : A 117 j = y := hl rfl
  have n0 : 0 ≤ 0 + ((-1) * γ 18462 + (1 * (j : Int) + 0)) := hn _ (List.Mem.head _)
  have n1 : 0 ≤ 0 + (1 * γ 18462 + ((-1) * (j : Int) + 0)) := hn _ (List.Mem.tail _ (List.Mem.head _))
  have n2 : 0 ≤ (-1) + (1 * γ 18464 + ((-1) * (j : Int) + 0)) := hn _ (List.Mem.tail _ (List.Mem.tail _ (List.Mem.head _)))
  clear hn
  have hG0 := hG
  obtain ⟨g0, g1, g2, g3, g4, g5, g6, g7, g8, g9, g10, g11, g12, g13, g14, g15, g16, g17, g18, g19, g20, g21, g22, g23, g24⟩ := hG0
  have r_D := sx_gr_D hR
  have r_cO := sx_gr_cO hR
  have r_cS := sx_gr_cS hR
  have r_cY := sx_gr_cY hR
  have r_cp := sx_gr_cp hR
  have r_lI := sx_gr_lI hR
  have r_lV := sx_gr_lV hR
  have r_lw := sx_gr_lw hR
  have r_rE := sx_gr_rE hR
  have r_rF := sx_gr_rF hR
  have r_rK := sx_gr_rK hR
  have r_rL := sx_gr_rL hR
  have r_rN := sx_gr_rN hR
  have r_rP := sx_gr_rP hR
  have r_rQ := sx_gr_rQ hR
  have r_rSq := sx_gr_rSq hR
  have r_rSs := sx_gr_rSs hR
  have r_rT0 := sx_gr_rT0 hR
  have r_rT1 := sx_gr_rT1 hR
  have r_rV := sx_gr_rV hR
  have r_sE := sx_gr_sE hR
  have r_sa := sx_gr_sa hR
  have r_sb := sx_gr_sb hR
  have r_sp := sx_gr_sp hR
  have r_tB := sx_gr_tB hR
  have r_tE := sx_gr_tE hR
  have r_w0 := sx_gr_w0 hR
  have r_w1 := sx_gr_w1 hR
  have r_wa := sx_gr_wa hR
  have r_wh := sx_gr_wh hR
  have r_wp := sx_gr_wp hR
  have r_yp := sx_gr_yp hR
  obtain ⟨k1, k2, k3, k4, k5, k6⟩ := g12
  obtain ⟨m, hm⟩ : ∃ m, (γ 18464 - γ 18462).toNat = m + 1 := ⟨(γ 18464 - γ 18462).toNat - 1, by omega⟩
  rw [hm, show (γ 18462).toNat = j by omega] at k1
  unfold sx_hk at k1
  rw [hy] at k1
  by_cases e : y ≤ 1
  · rw [if_pos e] at k1
    exact sx_q_l_sg_0 hG (by omega) ⟨sx_hk_c k1 (by omega) (by omega) (by omega), k2, k3, k4, k5, k6⟩
  · rw [if_neg e] at k1
    exact sx_q_l_sg_1 hG (by omega) (by omega) ⟨sx_hk_c k1.2 (by omega) (by omega) (by omega), k2, k3, k4, k5, k6⟩
theorem sx_p_l_cp1 : sx_okr sx_GG false 117 sx_r_l_cp1 := by
  intro γ A j y hG hR hj hlo hhi hl hn
  rw [show (sx_cell.get 117).2.2.1 = 2900 from by decide +kernel] at hj
  rw [show (sx_cell.get 117).2.2.2.1 = (-2147483648) from by decide +kernel] at hlo
  rw [show (sx_cell.get 117).2.2.2.2.1 = 2147483647 from by decide +kernel] at hhi
  have hy : A 117 j = y := hl rfl
  have n0 : 0 ≤ (-2560) + (1 * (j : Int) + 0) := hn _ (List.Mem.head _)
  have n1 : 0 ≤ (-1) + (1 * γ 18475 + ((-1) * (j : Int) + 0)) := hn _ (List.Mem.tail _ (List.Mem.head _))
  clear hn
  have hG0 := hG
  obtain ⟨g0, g1, g2, g3, g4, g5, g6, g7, g8, g9, g10, g11, g12, g13, g14, g15, g16, g17, g18, g19, g20, g21, g22, g23, g24⟩ := hG0
  have r_D := sx_gr_D hR
  have r_cO := sx_gr_cO hR
  have r_cS := sx_gr_cS hR
  have r_cY := sx_gr_cY hR
  have r_cp := sx_gr_cp hR
  have r_lI := sx_gr_lI hR
  have r_lV := sx_gr_lV hR
  have r_lw := sx_gr_lw hR
  have r_rE := sx_gr_rE hR
  have r_rF := sx_gr_rF hR
  have r_rK := sx_gr_rK hR
  have r_rL := sx_gr_rL hR
  have r_rN := sx_gr_rN hR
  have r_rP := sx_gr_rP hR
  have r_rQ := sx_gr_rQ hR
  have r_rSq := sx_gr_rSq hR
  have r_rSs := sx_gr_rSs hR
  have r_rT0 := sx_gr_rT0 hR
  have r_rT1 := sx_gr_rT1 hR
  have r_rV := sx_gr_rV hR
  have r_sE := sx_gr_sE hR
  have r_sa := sx_gr_sa hR
  have r_sb := sx_gr_sb hR
  have r_sp := sx_gr_sp hR
  have r_tB := sx_gr_tB hR
  have r_tE := sx_gr_tE hR
  have r_w0 := sx_gr_w0 hR
  have r_w1 := sx_gr_w1 hR
  have r_wa := sx_gr_wa hR
  have r_wh := sx_gr_wh hR
  have r_wp := sx_gr_wp hR
  have r_yp := sx_gr_yp hR
  exact sx_q_l_cp1_0 hG ⟨(fun _ => by rw [show (0 + (1 * (j : Int) + 0)).toNat = j by omega]; omega), (fun e => by omega), (fun e => by omega), (fun e => by omega), (fun e => by omega), (fun e => by omega), (fun e => by omega), (fun e => by omega)⟩
theorem sx_p_l_lf : sx_okr sx_GG false 119 sx_r_l_lf := by
  intro γ A j y hG hR hj hlo hhi hl hn
  rw [show (sx_cell.get 119).2.2.1 = 2000 from by decide +kernel] at hj
  rw [show (sx_cell.get 119).2.2.2.1 = 0 from by decide +kernel] at hlo
  rw [show (sx_cell.get 119).2.2.2.2.1 = 2900 from by decide +kernel] at hhi
  have hy : A 119 j = y := hl rfl
  have n0 : 0 ≤ 0 + ((-1) * γ 18467 + (1 * (j : Int) + 0)) := hn _ (List.Mem.head _)
  have n1 : 0 ≤ (-1) + (1 * γ 18468 + ((-1) * (j : Int) + 0)) := hn _ (List.Mem.tail _ (List.Mem.head _))
  clear hn
  have hG0 := hG
  obtain ⟨g0, g1, g2, g3, g4, g5, g6, g7, g8, g9, g10, g11, g12, g13, g14, g15, g16, g17, g18, g19, g20, g21, g22, g23, g24⟩ := hG0
  have r_D := sx_gr_D hR
  have r_cO := sx_gr_cO hR
  have r_cS := sx_gr_cS hR
  have r_cY := sx_gr_cY hR
  have r_cp := sx_gr_cp hR
  have r_lI := sx_gr_lI hR
  have r_lV := sx_gr_lV hR
  have r_lw := sx_gr_lw hR
  have r_rE := sx_gr_rE hR
  have r_rF := sx_gr_rF hR
  have r_rK := sx_gr_rK hR
  have r_rL := sx_gr_rL hR
  have r_rN := sx_gr_rN hR
  have r_rP := sx_gr_rP hR
  have r_rQ := sx_gr_rQ hR
  have r_rSq := sx_gr_rSq hR
  have r_rSs := sx_gr_rSs hR
  have r_rT0 := sx_gr_rT0 hR
  have r_rT1 := sx_gr_rT1 hR
  have r_rV := sx_gr_rV hR
  have r_sE := sx_gr_sE hR
  have r_sa := sx_gr_sa hR
  have r_sb := sx_gr_sb hR
  have r_sp := sx_gr_sp hR
  have r_tB := sx_gr_tB hR
  have r_tE := sx_gr_tE hR
  have r_w0 := sx_gr_w0 hR
  have r_w1 := sx_gr_w1 hR
  have r_wa := sx_gr_wa hR
  have r_wh := sx_gr_wh hR
  have r_wp := sx_gr_wp hR
  have r_yp := sx_gr_yp hR
  obtain ⟨k1, k2, k3, k4, k5, k6⟩ := g12
  obtain ⟨a, b, b1, b2, o1, o2, o3, o4, o5, o6⟩ := k3 j (by omega) (by omega)
  refine sx_q_l_lf_0 hG (fun _ => A 120 j) ⟨by omega, by omega⟩ (by show 0 ≤ 0 + (-1 * y + (1 * A 120 j + 0)); omega) (by show 0 ≤ 320 + (1 * y + (-1 * A 120 j + 0)); omega) ⟨?_, fun _ => ?_, k3, k4, k5, k6⟩
  · show sx_hk (A 117) ((0 + (1 * A 120 j + 0)) - (0 + (1 * y + 0))).toNat (0 + (1 * y + 0)).toNat (0 + 0)
    exact sx_hk_c o5 (by omega) (by omega) (by omega)
  · show A 120 (0 + (1 * (j : Int) + 0)).toNat = 0 + (1 * A 120 j + 0) ∧ 0 + (1 * A 120 j + 0) ≤ A 121 (0 + (1 * (j : Int) + 0)).toNat ∧ A 121 (0 + (1 * (j : Int) + 0)).toNat ≤ 0 + (1 * A 120 j + 0) + 320 ∧ sx_ho (A 117) (0 + (1 * A 120 j + 0)) (A 121 (0 + (1 * (j : Int) + 0)).toNat)
    rw [show (0 + (1 * (j : Int) + 0)).toNat = j by omega]
    exact ⟨by omega, by omega, by omega, sx_ho_e o6 (by omega) rfl⟩
theorem sx_p_l_cp2 : sx_okr sx_GG false 119 sx_r_l_cp2 := by
  intro γ A j y hG hR hj hlo hhi hl hn
  rw [show (sx_cell.get 119).2.2.1 = 2000 from by decide +kernel] at hj
  rw [show (sx_cell.get 119).2.2.2.1 = 0 from by decide +kernel] at hlo
  rw [show (sx_cell.get 119).2.2.2.2.1 = 2900 from by decide +kernel] at hhi
  have hy : A 119 j = y := hl rfl
  have n0 : 0 ≤ (-1280) + (1 * (j : Int) + 0) := hn _ (List.Mem.head _)
  have n1 : 0 ≤ (-1) + (1 * γ 18479 + ((-1) * (j : Int) + 0)) := hn _ (List.Mem.tail _ (List.Mem.head _))
  clear hn
  have hG0 := hG
  obtain ⟨g0, g1, g2, g3, g4, g5, g6, g7, g8, g9, g10, g11, g12, g13, g14, g15, g16, g17, g18, g19, g20, g21, g22, g23, g24⟩ := hG0
  have r_D := sx_gr_D hR
  have r_cO := sx_gr_cO hR
  have r_cS := sx_gr_cS hR
  have r_cY := sx_gr_cY hR
  have r_cp := sx_gr_cp hR
  have r_lI := sx_gr_lI hR
  have r_lV := sx_gr_lV hR
  have r_lw := sx_gr_lw hR
  have r_rE := sx_gr_rE hR
  have r_rF := sx_gr_rF hR
  have r_rK := sx_gr_rK hR
  have r_rL := sx_gr_rL hR
  have r_rN := sx_gr_rN hR
  have r_rP := sx_gr_rP hR
  have r_rQ := sx_gr_rQ hR
  have r_rSq := sx_gr_rSq hR
  have r_rSs := sx_gr_rSs hR
  have r_rT0 := sx_gr_rT0 hR
  have r_rT1 := sx_gr_rT1 hR
  have r_rV := sx_gr_rV hR
  have r_sE := sx_gr_sE hR
  have r_sa := sx_gr_sa hR
  have r_sb := sx_gr_sb hR
  have r_sp := sx_gr_sp hR
  have r_tB := sx_gr_tB hR
  have r_tE := sx_gr_tE hR
  have r_w0 := sx_gr_w0 hR
  have r_w1 := sx_gr_w1 hR
  have r_wa := sx_gr_wa hR
  have r_wh := sx_gr_wh hR
  have r_wp := sx_gr_wp hR
  have r_yp := sx_gr_yp hR
  obtain ⟨w_1, w_2, w_3, w_4, w_5, w_6, w_7, w_8, w_9, w_10⟩ := g13
  obtain ⟨o1, o2, o3, o4, o5, o6⟩ := w_6 j (by omega) (by omega)
  exact sx_q_l_cp2_0 hG (by omega) (by omega) ⟨(fun e => by omega), (fun _ => by rw [show (0 + (1 * (j : Int) + 0)).toNat = j by omega]; omega), (fun e => by omega), (fun e => by omega), (fun e => by omega), (fun e => by omega), (fun e => by omega), (fun e => by omega)⟩
theorem sx_p_l_lt : sx_okr sx_GG false 120 sx_r_l_lt := by
  intro γ A j y hG hR hj hlo hhi hl hn
  rw [show (sx_cell.get 120).2.2.1 = 2000 from by decide +kernel] at hj
  rw [show (sx_cell.get 120).2.2.2.1 = 0 from by decide +kernel] at hlo
  rw [show (sx_cell.get 120).2.2.2.2.1 = 2900 from by decide +kernel] at hhi
  have hy : A 120 j = y := hl rfl
  have n0 : 0 ≤ 0 + ((-1) * γ 18465 + (1 * (j : Int) + 0)) := hn _ (List.Mem.head _)
  have n1 : 0 ≤ 0 + (1 * γ 18465 + ((-1) * (j : Int) + 0)) := hn _ (List.Mem.tail _ (List.Mem.head _))
  have n2 : 0 ≤ 0 + (1 * γ 18465 + 0) := hn _ (List.Mem.tail _ (List.Mem.tail _ (List.Mem.head _)))
  clear hn
  have hG0 := hG
  obtain ⟨g0, g1, g2, g3, g4, g5, g6, g7, g8, g9, g10, g11, g12, g13, g14, g15, g16, g17, g18, g19, g20, g21, g22, g23, g24⟩ := hG0
  have r_D := sx_gr_D hR
  have r_cO := sx_gr_cO hR
  have r_cS := sx_gr_cS hR
  have r_cY := sx_gr_cY hR
  have r_cp := sx_gr_cp hR
  have r_lI := sx_gr_lI hR
  have r_lV := sx_gr_lV hR
  have r_lw := sx_gr_lw hR
  have r_rE := sx_gr_rE hR
  have r_rF := sx_gr_rF hR
  have r_rK := sx_gr_rK hR
  have r_rL := sx_gr_rL hR
  have r_rN := sx_gr_rN hR
  have r_rP := sx_gr_rP hR
  have r_rQ := sx_gr_rQ hR
  have r_rSq := sx_gr_rSq hR
  have r_rSs := sx_gr_rSs hR
  have r_rT0 := sx_gr_rT0 hR
  have r_rT1 := sx_gr_rT1 hR
  have r_rV := sx_gr_rV hR
  have r_sE := sx_gr_sE hR
  have r_sa := sx_gr_sa hR
  have r_sb := sx_gr_sb hR
  have r_sp := sx_gr_sp hR
  have r_tB := sx_gr_tB hR
  have r_tE := sx_gr_tE hR
  have r_w0 := sx_gr_w0 hR
  have r_w1 := sx_gr_w1 hR
  have r_wa := sx_gr_wa hR
  have r_wh := sx_gr_wh hR
  have r_wp := sx_gr_wp hR
  have r_yp := sx_gr_yp hR
  obtain ⟨k1, k2, k3, k4, k5, k6⟩ := g12
  have h1 := (k2 (by omega)).1
  rw [show (γ 18465).toNat = j by omega] at h1
  exact sx_q_l_lt_0 hG (by omega)
theorem sx_p_l_cp3 : sx_okr sx_GG false 120 sx_r_l_cp3 := by
  intro γ A j y hG hR hj hlo hhi hl hn
  rw [show (sx_cell.get 120).2.2.1 = 2000 from by decide +kernel] at hj
  rw [show (sx_cell.get 120).2.2.2.1 = 0 from by decide +kernel] at hlo
  rw [show (sx_cell.get 120).2.2.2.2.1 = 2900 from by decide +kernel] at hhi
  have hy : A 120 j = y := hl rfl
  have n0 : 0 ≤ (-1280) + (1 * (j : Int) + 0) := hn _ (List.Mem.head _)
  have n1 : 0 ≤ (-1) + (1 * γ 18479 + ((-1) * (j : Int) + 0)) := hn _ (List.Mem.tail _ (List.Mem.head _))
  clear hn
  have hG0 := hG
  obtain ⟨g0, g1, g2, g3, g4, g5, g6, g7, g8, g9, g10, g11, g12, g13, g14, g15, g16, g17, g18, g19, g20, g21, g22, g23, g24⟩ := hG0
  have r_D := sx_gr_D hR
  have r_cO := sx_gr_cO hR
  have r_cS := sx_gr_cS hR
  have r_cY := sx_gr_cY hR
  have r_cp := sx_gr_cp hR
  have r_lI := sx_gr_lI hR
  have r_lV := sx_gr_lV hR
  have r_lw := sx_gr_lw hR
  have r_rE := sx_gr_rE hR
  have r_rF := sx_gr_rF hR
  have r_rK := sx_gr_rK hR
  have r_rL := sx_gr_rL hR
  have r_rN := sx_gr_rN hR
  have r_rP := sx_gr_rP hR
  have r_rQ := sx_gr_rQ hR
  have r_rSq := sx_gr_rSq hR
  have r_rSs := sx_gr_rSs hR
  have r_rT0 := sx_gr_rT0 hR
  have r_rT1 := sx_gr_rT1 hR
  have r_rV := sx_gr_rV hR
  have r_sE := sx_gr_sE hR
  have r_sa := sx_gr_sa hR
  have r_sb := sx_gr_sb hR
  have r_sp := sx_gr_sp hR
  have r_tB := sx_gr_tB hR
  have r_tE := sx_gr_tE hR
  have r_w0 := sx_gr_w0 hR
  have r_w1 := sx_gr_w1 hR
  have r_wa := sx_gr_wa hR
  have r_wh := sx_gr_wh hR
  have r_wp := sx_gr_wp hR
  have r_yp := sx_gr_yp hR
  obtain ⟨w_1, w_2, w_3, w_4, w_5, w_6, w_7, w_8, w_9, w_10⟩ := g13
  obtain ⟨o1, o2, o3, o4, o5, o6⟩ := w_6 j (by omega) (by omega)
  exact sx_q_l_cp3_0 hG (by omega) (by omega) ⟨(fun e => by omega), (fun e => by omega), (fun _ => by rw [show (0 + (1 * (j : Int) + 0)).toNat = j by omega]; omega), (fun e => by omega), (fun e => by omega), (fun e => by omega), (fun e => by omega), (fun e => by omega)⟩
theorem sx_p_l_rt : sx_okr sx_GG false 121 sx_r_l_rt := by
  intro γ A j y hG hR hj hlo hhi hl hn
  rw [show (sx_cell.get 121).2.2.1 = 2000 from by decide +kernel] at hj
  rw [show (sx_cell.get 121).2.2.2.1 = 0 from by decide +kernel] at hlo
  rw [show (sx_cell.get 121).2.2.2.2.1 = 2900 from by decide +kernel] at hhi
  have hy : A 121 j = y := hl rfl
  have n0 : 0 ≤ 0 + ((-1) * γ 18465 + (1 * (j : Int) + 0)) := hn _ (List.Mem.head _)
  have n1 : 0 ≤ 0 + (1 * γ 18465 + ((-1) * (j : Int) + 0)) := hn _ (List.Mem.tail _ (List.Mem.head _))
  have n2 : 0 ≤ 0 + (1 * γ 18465 + 0) := hn _ (List.Mem.tail _ (List.Mem.tail _ (List.Mem.head _)))
  clear hn
  have hG0 := hG
  obtain ⟨g0, g1, g2, g3, g4, g5, g6, g7, g8, g9, g10, g11, g12, g13, g14, g15, g16, g17, g18, g19, g20, g21, g22, g23, g24⟩ := hG0
  have r_D := sx_gr_D hR
  have r_cO := sx_gr_cO hR
  have r_cS := sx_gr_cS hR
  have r_cY := sx_gr_cY hR
  have r_cp := sx_gr_cp hR
  have r_lI := sx_gr_lI hR
  have r_lV := sx_gr_lV hR
  have r_lw := sx_gr_lw hR
  have r_rE := sx_gr_rE hR
  have r_rF := sx_gr_rF hR
  have r_rK := sx_gr_rK hR
  have r_rL := sx_gr_rL hR
  have r_rN := sx_gr_rN hR
  have r_rP := sx_gr_rP hR
  have r_rQ := sx_gr_rQ hR
  have r_rSq := sx_gr_rSq hR
  have r_rSs := sx_gr_rSs hR
  have r_rT0 := sx_gr_rT0 hR
  have r_rT1 := sx_gr_rT1 hR
  have r_rV := sx_gr_rV hR
  have r_sE := sx_gr_sE hR
  have r_sa := sx_gr_sa hR
  have r_sb := sx_gr_sb hR
  have r_sp := sx_gr_sp hR
  have r_tB := sx_gr_tB hR
  have r_tE := sx_gr_tE hR
  have r_w0 := sx_gr_w0 hR
  have r_w1 := sx_gr_w1 hR
  have r_wa := sx_gr_wa hR
  have r_wh := sx_gr_wh hR
  have r_wp := sx_gr_wp hR
  have r_yp := sx_gr_yp hR
  obtain ⟨k1, k2, k3, k4, k5, k6⟩ := g12
  obtain ⟨h1, h2, h3, h4⟩ := k2 (by omega)
  rw [show (γ 18465).toNat = j by omega] at h1 h2 h3 h4
  refine sx_q_l_rt_0 hG (by omega) (by omega) ⟨?_, k2, k3, k4, k5, k6⟩
  exact sx_hk_c h4 (by omega) (by omega) (by omega)
theorem sx_p_l_cp4 : sx_okr sx_GG false 121 sx_r_l_cp4 := by
  intro γ A j y hG hR hj hlo hhi hl hn
  rw [show (sx_cell.get 121).2.2.1 = 2000 from by decide +kernel] at hj
  rw [show (sx_cell.get 121).2.2.2.1 = 0 from by decide +kernel] at hlo
  rw [show (sx_cell.get 121).2.2.2.2.1 = 2900 from by decide +kernel] at hhi
  have hy : A 121 j = y := hl rfl
  have n0 : 0 ≤ (-1280) + (1 * (j : Int) + 0) := hn _ (List.Mem.head _)
  have n1 : 0 ≤ (-1) + (1 * γ 18479 + ((-1) * (j : Int) + 0)) := hn _ (List.Mem.tail _ (List.Mem.head _))
  clear hn
  have hG0 := hG
  obtain ⟨g0, g1, g2, g3, g4, g5, g6, g7, g8, g9, g10, g11, g12, g13, g14, g15, g16, g17, g18, g19, g20, g21, g22, g23, g24⟩ := hG0
  have r_D := sx_gr_D hR
  have r_cO := sx_gr_cO hR
  have r_cS := sx_gr_cS hR
  have r_cY := sx_gr_cY hR
  have r_cp := sx_gr_cp hR
  have r_lI := sx_gr_lI hR
  have r_lV := sx_gr_lV hR
  have r_lw := sx_gr_lw hR
  have r_rE := sx_gr_rE hR
  have r_rF := sx_gr_rF hR
  have r_rK := sx_gr_rK hR
  have r_rL := sx_gr_rL hR
  have r_rN := sx_gr_rN hR
  have r_rP := sx_gr_rP hR
  have r_rQ := sx_gr_rQ hR
  have r_rSq := sx_gr_rSq hR
  have r_rSs := sx_gr_rSs hR
  have r_rT0 := sx_gr_rT0 hR
  have r_rT1 := sx_gr_rT1 hR
  have r_rV := sx_gr_rV hR
  have r_sE := sx_gr_sE hR
  have r_sa := sx_gr_sa hR
  have r_sb := sx_gr_sb hR
  have r_sp := sx_gr_sp hR
  have r_tB := sx_gr_tB hR
  have r_tE := sx_gr_tE hR
  have r_w0 := sx_gr_w0 hR
  have r_w1 := sx_gr_w1 hR
  have r_wa := sx_gr_wa hR
  have r_wh := sx_gr_wh hR
  have r_wp := sx_gr_wp hR
  have r_yp := sx_gr_yp hR
  obtain ⟨w_1, w_2, w_3, w_4, w_5, w_6, w_7, w_8, w_9, w_10⟩ := g13
  obtain ⟨o1, o2, o3, o4, o5, o6⟩ := w_6 j (by omega) (by omega)
  exact sx_q_l_cp4_0 hG (by omega) (by omega) ⟨(fun e => by omega), (fun e => by omega), (fun e => by omega), (fun _ => by rw [show (0 + (1 * (j : Int) + 0)).toNat = j by omega]; omega), (fun e => by omega), (fun e => by omega), (fun e => by omega), (fun e => by omega)⟩
theorem sx_p_l_zS0 : sx_okr sx_GG false 123 sx_r_l_zS0 := by
  intro γ A j y hG hR hj hlo hhi hl hn
  rw [show (sx_cell.get 123).2.2.1 = 8 from by decide +kernel] at hj
  rw [show (sx_cell.get 123).2.2.2.1 = 0 from by decide +kernel] at hlo
  rw [show (sx_cell.get 123).2.2.2.2.1 = 45 from by decide +kernel] at hhi
  have hy : A 123 j = y := hl rfl
  have n0 : 0 ≤ 0 + (1 * (j : Int) + 0) := hn _ (List.Mem.head _)
  have n1 : 0 ≤ 0 + ((-1) * (j : Int) + 0) := hn _ (List.Mem.tail _ (List.Mem.head _))
  clear hn
  have hG0 := hG
  obtain ⟨g0, g1, g2, g3, g4, g5, g6, g7, g8, g9, g10, g11, g12, g13, g14, g15, g16, g17, g18, g19, g20, g21, g22, g23, g24⟩ := hG0
  have r_zS0 := sx_gr_zS0 hR
  have r_zS1 := sx_gr_zS1 hR
  have r_zS2 := sx_gr_zS2 hR
  have r_zS3 := sx_gr_zS3 hR
  have r_zS4 := sx_gr_zS4 hR
  have r_zS5 := sx_gr_zS5 hR
  have r_zS6 := sx_gr_zS6 hR
  obtain ⟨z0, z1, z2, z3, z4, z5, z6⟩ := g4
  have e : j = 0 := by omega
  subst e
  rcases z0 with ⟨h1, h2⟩ | ⟨h1, h2⟩
  · exact sx_q_l_zS0_0 hG (by omega) (by omega)
  · exact sx_q_l_zS0_1 hG (by omega) (by omega)
theorem sx_p_l_zS1 : sx_okr sx_GG false 123 sx_r_l_zS1 := by
  intro γ A j y hG hR hj hlo hhi hl hn
  rw [show (sx_cell.get 123).2.2.1 = 8 from by decide +kernel] at hj
  rw [show (sx_cell.get 123).2.2.2.1 = 0 from by decide +kernel] at hlo
  rw [show (sx_cell.get 123).2.2.2.2.1 = 45 from by decide +kernel] at hhi
  have hy : A 123 j = y := hl rfl
  have n0 : 0 ≤ (-1) + (1 * (j : Int) + 0) := hn _ (List.Mem.head _)
  have n1 : 0 ≤ 1 + ((-1) * (j : Int) + 0) := hn _ (List.Mem.tail _ (List.Mem.head _))
  clear hn
  have hG0 := hG
  obtain ⟨g0, g1, g2, g3, g4, g5, g6, g7, g8, g9, g10, g11, g12, g13, g14, g15, g16, g17, g18, g19, g20, g21, g22, g23, g24⟩ := hG0
  have r_zS0 := sx_gr_zS0 hR
  have r_zS1 := sx_gr_zS1 hR
  have r_zS2 := sx_gr_zS2 hR
  have r_zS3 := sx_gr_zS3 hR
  have r_zS4 := sx_gr_zS4 hR
  have r_zS5 := sx_gr_zS5 hR
  have r_zS6 := sx_gr_zS6 hR
  obtain ⟨z0, z1, z2, z3, z4, z5, z6⟩ := g4
  have e : j = 1 := by omega
  subst e
  rcases z1 with ⟨h1, h2⟩ | ⟨h1, h2⟩
  · exact sx_q_l_zS1_0 hG (by omega) (by omega)
  · exact sx_q_l_zS1_1 hG (by omega) (by omega)
theorem sx_p_l_zS2 : sx_okr sx_GG false 123 sx_r_l_zS2 := by
  intro γ A j y hG hR hj hlo hhi hl hn
  rw [show (sx_cell.get 123).2.2.1 = 8 from by decide +kernel] at hj
  rw [show (sx_cell.get 123).2.2.2.1 = 0 from by decide +kernel] at hlo
  rw [show (sx_cell.get 123).2.2.2.2.1 = 45 from by decide +kernel] at hhi
  have hy : A 123 j = y := hl rfl
  have n0 : 0 ≤ (-2) + (1 * (j : Int) + 0) := hn _ (List.Mem.head _)
  have n1 : 0 ≤ 2 + ((-1) * (j : Int) + 0) := hn _ (List.Mem.tail _ (List.Mem.head _))
  clear hn
  have hG0 := hG
  obtain ⟨g0, g1, g2, g3, g4, g5, g6, g7, g8, g9, g10, g11, g12, g13, g14, g15, g16, g17, g18, g19, g20, g21, g22, g23, g24⟩ := hG0
  have r_zS0 := sx_gr_zS0 hR
  have r_zS1 := sx_gr_zS1 hR
  have r_zS2 := sx_gr_zS2 hR
  have r_zS3 := sx_gr_zS3 hR
  have r_zS4 := sx_gr_zS4 hR
  have r_zS5 := sx_gr_zS5 hR
  have r_zS6 := sx_gr_zS6 hR
  obtain ⟨z0, z1, z2, z3, z4, z5, z6⟩ := g4
  have e : j = 2 := by omega
  subst e
  rcases z2 with ⟨h1, h2⟩ | ⟨h1, h2⟩
  · exact sx_q_l_zS2_0 hG (by omega) (by omega)
  · exact sx_q_l_zS2_1 hG (by omega) (by omega)
theorem sx_p_l_zS3 : sx_okr sx_GG false 123 sx_r_l_zS3 := by
  intro γ A j y hG hR hj hlo hhi hl hn
  rw [show (sx_cell.get 123).2.2.1 = 8 from by decide +kernel] at hj
  rw [show (sx_cell.get 123).2.2.2.1 = 0 from by decide +kernel] at hlo
  rw [show (sx_cell.get 123).2.2.2.2.1 = 45 from by decide +kernel] at hhi
  have hy : A 123 j = y := hl rfl
  have n0 : 0 ≤ (-3) + (1 * (j : Int) + 0) := hn _ (List.Mem.head _)
  have n1 : 0 ≤ 3 + ((-1) * (j : Int) + 0) := hn _ (List.Mem.tail _ (List.Mem.head _))
  clear hn
  have hG0 := hG
  obtain ⟨g0, g1, g2, g3, g4, g5, g6, g7, g8, g9, g10, g11, g12, g13, g14, g15, g16, g17, g18, g19, g20, g21, g22, g23, g24⟩ := hG0
  have r_zS0 := sx_gr_zS0 hR
  have r_zS1 := sx_gr_zS1 hR
  have r_zS2 := sx_gr_zS2 hR
  have r_zS3 := sx_gr_zS3 hR
  have r_zS4 := sx_gr_zS4 hR
  have r_zS5 := sx_gr_zS5 hR
  have r_zS6 := sx_gr_zS6 hR
  obtain ⟨z0, z1, z2, z3, z4, z5, z6⟩ := g4
  have e : j = 3 := by omega
  subst e
  rcases z3 with ⟨h1, h2⟩ | ⟨h1, h2⟩
  · exact sx_q_l_zS3_0 hG (by omega) (by omega)
  · exact sx_q_l_zS3_1 hG (by omega) (by omega)
theorem sx_p_l_zS4 : sx_okr sx_GG false 123 sx_r_l_zS4 := by
  intro γ A j y hG hR hj hlo hhi hl hn
  rw [show (sx_cell.get 123).2.2.1 = 8 from by decide +kernel] at hj
  rw [show (sx_cell.get 123).2.2.2.1 = 0 from by decide +kernel] at hlo
  rw [show (sx_cell.get 123).2.2.2.2.1 = 45 from by decide +kernel] at hhi
  have hy : A 123 j = y := hl rfl
  have n0 : 0 ≤ (-4) + (1 * (j : Int) + 0) := hn _ (List.Mem.head _)
  have n1 : 0 ≤ 4 + ((-1) * (j : Int) + 0) := hn _ (List.Mem.tail _ (List.Mem.head _))
  clear hn
  have hG0 := hG
  obtain ⟨g0, g1, g2, g3, g4, g5, g6, g7, g8, g9, g10, g11, g12, g13, g14, g15, g16, g17, g18, g19, g20, g21, g22, g23, g24⟩ := hG0
  have r_zS0 := sx_gr_zS0 hR
  have r_zS1 := sx_gr_zS1 hR
  have r_zS2 := sx_gr_zS2 hR
  have r_zS3 := sx_gr_zS3 hR
  have r_zS4 := sx_gr_zS4 hR
  have r_zS5 := sx_gr_zS5 hR
  have r_zS6 := sx_gr_zS6 hR
  obtain ⟨z0, z1, z2, z3, z4, z5, z6⟩ := g4
  have e : j = 4 := by omega
  subst e
  rcases z4 with ⟨h1, h2⟩ | ⟨h1, h2⟩
  · exact sx_q_l_zS4_0 hG (by omega) (by omega)
  · exact sx_q_l_zS4_1 hG (by omega) (by omega)
theorem sx_p_l_zS5 : sx_okr sx_GG false 123 sx_r_l_zS5 := by
  intro γ A j y hG hR hj hlo hhi hl hn
  rw [show (sx_cell.get 123).2.2.1 = 8 from by decide +kernel] at hj
  rw [show (sx_cell.get 123).2.2.2.1 = 0 from by decide +kernel] at hlo
  rw [show (sx_cell.get 123).2.2.2.2.1 = 45 from by decide +kernel] at hhi
  have hy : A 123 j = y := hl rfl
  have n0 : 0 ≤ (-5) + (1 * (j : Int) + 0) := hn _ (List.Mem.head _)
  have n1 : 0 ≤ 5 + ((-1) * (j : Int) + 0) := hn _ (List.Mem.tail _ (List.Mem.head _))
  clear hn
  have hG0 := hG
  obtain ⟨g0, g1, g2, g3, g4, g5, g6, g7, g8, g9, g10, g11, g12, g13, g14, g15, g16, g17, g18, g19, g20, g21, g22, g23, g24⟩ := hG0
  have r_zS0 := sx_gr_zS0 hR
  have r_zS1 := sx_gr_zS1 hR
  have r_zS2 := sx_gr_zS2 hR
  have r_zS3 := sx_gr_zS3 hR
  have r_zS4 := sx_gr_zS4 hR
  have r_zS5 := sx_gr_zS5 hR
  have r_zS6 := sx_gr_zS6 hR
  obtain ⟨z0, z1, z2, z3, z4, z5, z6⟩ := g4
  have e : j = 5 := by omega
  subst e
  rcases z5 with ⟨h1, h2⟩ | ⟨h1, h2⟩
  · exact sx_q_l_zS5_0 hG (by omega) (by omega)
  · exact sx_q_l_zS5_1 hG (by omega) (by omega)
theorem sx_p_l_zS6 : sx_okr sx_GG false 123 sx_r_l_zS6 := by
  intro γ A j y hG hR hj hlo hhi hl hn
  rw [show (sx_cell.get 123).2.2.1 = 8 from by decide +kernel] at hj
  rw [show (sx_cell.get 123).2.2.2.1 = 0 from by decide +kernel] at hlo
  rw [show (sx_cell.get 123).2.2.2.2.1 = 45 from by decide +kernel] at hhi
  have hy : A 123 j = y := hl rfl
  have n0 : 0 ≤ (-6) + (1 * (j : Int) + 0) := hn _ (List.Mem.head _)
  have n1 : 0 ≤ 6 + ((-1) * (j : Int) + 0) := hn _ (List.Mem.tail _ (List.Mem.head _))
  clear hn
  have hG0 := hG
  obtain ⟨g0, g1, g2, g3, g4, g5, g6, g7, g8, g9, g10, g11, g12, g13, g14, g15, g16, g17, g18, g19, g20, g21, g22, g23, g24⟩ := hG0
  have r_zS0 := sx_gr_zS0 hR
  have r_zS1 := sx_gr_zS1 hR
  have r_zS2 := sx_gr_zS2 hR
  have r_zS3 := sx_gr_zS3 hR
  have r_zS4 := sx_gr_zS4 hR
  have r_zS5 := sx_gr_zS5 hR
  have r_zS6 := sx_gr_zS6 hR
  obtain ⟨z0, z1, z2, z3, z4, z5, z6⟩ := g4
  have e : j = 6 := by omega
  subst e
  rcases z6 with ⟨h1, h2⟩ | ⟨h1, h2⟩
  · exact sx_q_l_zS6_0 hG (by omega) (by omega)
  · exact sx_q_l_zS6_1 hG (by omega) (by omega)
theorem sx_p_l_zI0 : sx_okr sx_GG false 124 sx_r_l_zI0 := by
  intro γ A j y hG hR hj hlo hhi hl hn
  rw [show (sx_cell.get 124).2.2.1 = 8 from by decide +kernel] at hj
  rw [show (sx_cell.get 124).2.2.2.1 = 0 from by decide +kernel] at hlo
  rw [show (sx_cell.get 124).2.2.2.2.1 = 42 from by decide +kernel] at hhi
  have hy : A 124 j = y := hl rfl
  have n0 : 0 ≤ 0 + (1 * (j : Int) + 0) := hn _ (List.Mem.head _)
  have n1 : 0 ≤ 0 + ((-1) * (j : Int) + 0) := hn _ (List.Mem.tail _ (List.Mem.head _))
  clear hn
  have hG0 := hG
  obtain ⟨g0, g1, g2, g3, g4, g5, g6, g7, g8, g9, g10, g11, g12, g13, g14, g15, g16, g17, g18, g19, g20, g21, g22, g23, g24⟩ := hG0
  have r_zI0 := sx_gr_zI0 hR
  have r_zI1 := sx_gr_zI1 hR
  have r_zI2 := sx_gr_zI2 hR
  have r_zI3 := sx_gr_zI3 hR
  have r_zI4 := sx_gr_zI4 hR
  have r_zI5 := sx_gr_zI5 hR
  have r_zI6 := sx_gr_zI6 hR
  obtain ⟨z0, z1, z2, z3, z4, z5, z6⟩ := g3
  have e : j = 0 := by omega
  subst e
  rcases z0 with ⟨h1, h2⟩ | ⟨h1, h2⟩
  · exact sx_q_l_zI0_0 hG (by omega) (by omega)
  · exact sx_q_l_zI0_1 hG (by omega) (by omega)
theorem sx_p_l_zI1 : sx_okr sx_GG false 124 sx_r_l_zI1 := by
  intro γ A j y hG hR hj hlo hhi hl hn
  rw [show (sx_cell.get 124).2.2.1 = 8 from by decide +kernel] at hj
  rw [show (sx_cell.get 124).2.2.2.1 = 0 from by decide +kernel] at hlo
  rw [show (sx_cell.get 124).2.2.2.2.1 = 42 from by decide +kernel] at hhi
  have hy : A 124 j = y := hl rfl
  have n0 : 0 ≤ (-1) + (1 * (j : Int) + 0) := hn _ (List.Mem.head _)
  have n1 : 0 ≤ 1 + ((-1) * (j : Int) + 0) := hn _ (List.Mem.tail _ (List.Mem.head _))
  clear hn
  have hG0 := hG
  obtain ⟨g0, g1, g2, g3, g4, g5, g6, g7, g8, g9, g10, g11, g12, g13, g14, g15, g16, g17, g18, g19, g20, g21, g22, g23, g24⟩ := hG0
  have r_zI0 := sx_gr_zI0 hR
  have r_zI1 := sx_gr_zI1 hR
  have r_zI2 := sx_gr_zI2 hR
  have r_zI3 := sx_gr_zI3 hR
  have r_zI4 := sx_gr_zI4 hR
  have r_zI5 := sx_gr_zI5 hR
  have r_zI6 := sx_gr_zI6 hR
  obtain ⟨z0, z1, z2, z3, z4, z5, z6⟩ := g3
  have e : j = 1 := by omega
  subst e
  rcases z1 with ⟨h1, h2⟩ | ⟨h1, h2⟩
  · exact sx_q_l_zI1_0 hG (by omega) (by omega)
  · exact sx_q_l_zI1_1 hG (by omega) (by omega)
theorem sx_p_l_zI2 : sx_okr sx_GG false 124 sx_r_l_zI2 := by
  intro γ A j y hG hR hj hlo hhi hl hn
  rw [show (sx_cell.get 124).2.2.1 = 8 from by decide +kernel] at hj
  rw [show (sx_cell.get 124).2.2.2.1 = 0 from by decide +kernel] at hlo
  rw [show (sx_cell.get 124).2.2.2.2.1 = 42 from by decide +kernel] at hhi
  have hy : A 124 j = y := hl rfl
  have n0 : 0 ≤ (-2) + (1 * (j : Int) + 0) := hn _ (List.Mem.head _)
  have n1 : 0 ≤ 2 + ((-1) * (j : Int) + 0) := hn _ (List.Mem.tail _ (List.Mem.head _))
  clear hn
  have hG0 := hG
  obtain ⟨g0, g1, g2, g3, g4, g5, g6, g7, g8, g9, g10, g11, g12, g13, g14, g15, g16, g17, g18, g19, g20, g21, g22, g23, g24⟩ := hG0
  have r_zI0 := sx_gr_zI0 hR
  have r_zI1 := sx_gr_zI1 hR
  have r_zI2 := sx_gr_zI2 hR
  have r_zI3 := sx_gr_zI3 hR
  have r_zI4 := sx_gr_zI4 hR
  have r_zI5 := sx_gr_zI5 hR
  have r_zI6 := sx_gr_zI6 hR
  obtain ⟨z0, z1, z2, z3, z4, z5, z6⟩ := g3
  have e : j = 2 := by omega
  subst e
  rcases z2 with ⟨h1, h2⟩ | ⟨h1, h2⟩
  · exact sx_q_l_zI2_0 hG (by omega) (by omega)
  · exact sx_q_l_zI2_1 hG (by omega) (by omega)
theorem sx_p_l_zI3 : sx_okr sx_GG false 124 sx_r_l_zI3 := by
  intro γ A j y hG hR hj hlo hhi hl hn
  rw [show (sx_cell.get 124).2.2.1 = 8 from by decide +kernel] at hj
  rw [show (sx_cell.get 124).2.2.2.1 = 0 from by decide +kernel] at hlo
  rw [show (sx_cell.get 124).2.2.2.2.1 = 42 from by decide +kernel] at hhi
  have hy : A 124 j = y := hl rfl
  have n0 : 0 ≤ (-3) + (1 * (j : Int) + 0) := hn _ (List.Mem.head _)
  have n1 : 0 ≤ 3 + ((-1) * (j : Int) + 0) := hn _ (List.Mem.tail _ (List.Mem.head _))
  clear hn
  have hG0 := hG
  obtain ⟨g0, g1, g2, g3, g4, g5, g6, g7, g8, g9, g10, g11, g12, g13, g14, g15, g16, g17, g18, g19, g20, g21, g22, g23, g24⟩ := hG0
  have r_zI0 := sx_gr_zI0 hR
  have r_zI1 := sx_gr_zI1 hR
  have r_zI2 := sx_gr_zI2 hR
  have r_zI3 := sx_gr_zI3 hR
  have r_zI4 := sx_gr_zI4 hR
  have r_zI5 := sx_gr_zI5 hR
  have r_zI6 := sx_gr_zI6 hR
  obtain ⟨z0, z1, z2, z3, z4, z5, z6⟩ := g3
  have e : j = 3 := by omega
  subst e
  rcases z3 with ⟨h1, h2⟩ | ⟨h1, h2⟩
  · exact sx_q_l_zI3_0 hG (by omega) (by omega)
  · exact sx_q_l_zI3_1 hG (by omega) (by omega)
theorem sx_p_l_zI4 : sx_okr sx_GG false 124 sx_r_l_zI4 := by
  intro γ A j y hG hR hj hlo hhi hl hn
  rw [show (sx_cell.get 124).2.2.1 = 8 from by decide +kernel] at hj
  rw [show (sx_cell.get 124).2.2.2.1 = 0 from by decide +kernel] at hlo
  rw [show (sx_cell.get 124).2.2.2.2.1 = 42 from by decide +kernel] at hhi
  have hy : A 124 j = y := hl rfl
  have n0 : 0 ≤ (-4) + (1 * (j : Int) + 0) := hn _ (List.Mem.head _)
  have n1 : 0 ≤ 4 + ((-1) * (j : Int) + 0) := hn _ (List.Mem.tail _ (List.Mem.head _))
  clear hn
  have hG0 := hG
  obtain ⟨g0, g1, g2, g3, g4, g5, g6, g7, g8, g9, g10, g11, g12, g13, g14, g15, g16, g17, g18, g19, g20, g21, g22, g23, g24⟩ := hG0
  have r_zI0 := sx_gr_zI0 hR
  have r_zI1 := sx_gr_zI1 hR
  have r_zI2 := sx_gr_zI2 hR
  have r_zI3 := sx_gr_zI3 hR
  have r_zI4 := sx_gr_zI4 hR
  have r_zI5 := sx_gr_zI5 hR
  have r_zI6 := sx_gr_zI6 hR
  obtain ⟨z0, z1, z2, z3, z4, z5, z6⟩ := g3
  have e : j = 4 := by omega
  subst e
  rcases z4 with ⟨h1, h2⟩ | ⟨h1, h2⟩
  · exact sx_q_l_zI4_0 hG (by omega) (by omega)
  · exact sx_q_l_zI4_1 hG (by omega) (by omega)
theorem sx_p_l_zI5 : sx_okr sx_GG false 124 sx_r_l_zI5 := by
  intro γ A j y hG hR hj hlo hhi hl hn
  rw [show (sx_cell.get 124).2.2.1 = 8 from by decide +kernel] at hj
  rw [show (sx_cell.get 124).2.2.2.1 = 0 from by decide +kernel] at hlo
  rw [show (sx_cell.get 124).2.2.2.2.1 = 42 from by decide +kernel] at hhi
  have hy : A 124 j = y := hl rfl
  have n0 : 0 ≤ (-5) + (1 * (j : Int) + 0) := hn _ (List.Mem.head _)
  have n1 : 0 ≤ 5 + ((-1) * (j : Int) + 0) := hn _ (List.Mem.tail _ (List.Mem.head _))
  clear hn
  have hG0 := hG
  obtain ⟨g0, g1, g2, g3, g4, g5, g6, g7, g8, g9, g10, g11, g12, g13, g14, g15, g16, g17, g18, g19, g20, g21, g22, g23, g24⟩ := hG0
  have r_zI0 := sx_gr_zI0 hR
  have r_zI1 := sx_gr_zI1 hR
  have r_zI2 := sx_gr_zI2 hR
  have r_zI3 := sx_gr_zI3 hR
  have r_zI4 := sx_gr_zI4 hR
  have r_zI5 := sx_gr_zI5 hR
  have r_zI6 := sx_gr_zI6 hR
  obtain ⟨z0, z1, z2, z3, z4, z5, z6⟩ := g3
  have e : j = 5 := by omega
  subst e
  rcases z5 with ⟨h1, h2⟩ | ⟨h1, h2⟩
  · exact sx_q_l_zI5_0 hG (by omega) (by omega)
  · exact sx_q_l_zI5_1 hG (by omega) (by omega)
theorem sx_p_l_zI6 : sx_okr sx_GG false 124 sx_r_l_zI6 := by
  intro γ A j y hG hR hj hlo hhi hl hn
  rw [show (sx_cell.get 124).2.2.1 = 8 from by decide +kernel] at hj
  rw [show (sx_cell.get 124).2.2.2.1 = 0 from by decide +kernel] at hlo
  rw [show (sx_cell.get 124).2.2.2.2.1 = 42 from by decide +kernel] at hhi
  have hy : A 124 j = y := hl rfl
  have n0 : 0 ≤ (-6) + (1 * (j : Int) + 0) := hn _ (List.Mem.head _)
  have n1 : 0 ≤ 6 + ((-1) * (j : Int) + 0) := hn _ (List.Mem.tail _ (List.Mem.head _))
  clear hn
  have hG0 := hG
  obtain ⟨g0, g1, g2, g3, g4, g5, g6, g7, g8, g9, g10, g11, g12, g13, g14, g15, g16, g17, g18, g19, g20, g21, g22, g23, g24⟩ := hG0
  have r_zI0 := sx_gr_zI0 hR
  have r_zI1 := sx_gr_zI1 hR
  have r_zI2 := sx_gr_zI2 hR
  have r_zI3 := sx_gr_zI3 hR
  have r_zI4 := sx_gr_zI4 hR
  have r_zI5 := sx_gr_zI5 hR
  have r_zI6 := sx_gr_zI6 hR
  obtain ⟨z0, z1, z2, z3, z4, z5, z6⟩ := g3
  have e : j = 6 := by omega
  subst e
  rcases z6 with ⟨h1, h2⟩ | ⟨h1, h2⟩
  · exact sx_q_l_zI6_0 hG (by omega) (by omega)
  · exact sx_q_l_zI6_1 hG (by omega) (by omega)
theorem sx_p_l_room0 : sx_okr sx_GG false 131 sx_r_l_room0 := by
  intro γ A j y hG hR hj hlo hhi hl hn
  rw [show (sx_cell.get 131).2.2.1 = 8 from by decide +kernel] at hj
  rw [show (sx_cell.get 131).2.2.2.1 = 0 from by decide +kernel] at hlo
  rw [show (sx_cell.get 131).2.2.2.2.1 = 9 from by decide +kernel] at hhi
  have hy : A 131 j = y := hl rfl
  have n0 : 0 ≤ 0 + ((-1) * γ 18457 + (1 * (j : Int) + 0)) := hn _ (List.Mem.head _)
  have n1 : 0 ≤ 0 + (1 * γ 18457 + ((-1) * (j : Int) + 0)) := hn _ (List.Mem.tail _ (List.Mem.head _))
  have n2 : 0 ≤ 7 + ((-1) * (j : Int) + 0) := hn _ (List.Mem.tail _ (List.Mem.tail _ (List.Mem.head _)))
  clear hn
  have hG0 := hG
  obtain ⟨g0, g1, g2, g3, g4, g5, g6, g7, g8, g9, g10, g11, g12, g13, g14, g15, g16, g17, g18, g19, g20, g21, g22, g23, g24⟩ := hG0
  have r_K := sx_gr_K hR
  have r_LI := sx_gr_LI hR
  have r_LV := sx_gr_LV hR
  have r_MI := sx_gr_MI hR
  have r_MX := sx_gr_MX hR
  have r_VU := sx_gr_VU hR
  obtain ⟨q1, q2, q3, q4⟩ := g7
  rcases q3 with q3 | q3
  · omega
  · rw [show (γ 18457).toNat = j by omega] at q3
    exact sx_q_l_room0_0 hG (by omega)
theorem sx_p_l_room : sx_okr sx_GG false 131 sx_r_l_room := by
  intro γ A j y hG hR hj hlo hhi hl hn
  rw [show (sx_cell.get 131).2.2.1 = 8 from by decide +kernel] at hj
  rw [show (sx_cell.get 131).2.2.2.1 = 0 from by decide +kernel] at hlo
  rw [show (sx_cell.get 131).2.2.2.2.1 = 9 from by decide +kernel] at hhi
  have hy : A 131 j = y := hl rfl
  have n0 : 0 ≤ (-1) + (1 * γ 18455 + ((-1) * (j : Int) + 0)) := hn _ (List.Mem.head _)
  clear hn
  have hG0 := hG
  obtain ⟨g0, g1, g2, g3, g4, g5, g6, g7, g8, g9, g10, g11, g12, g13, g14, g15, g16, g17, g18, g19, g20, g21, g22, g23, g24⟩ := hG0
  have r_K := sx_gr_K hR
  have r_LI := sx_gr_LI hR
  have r_LV := sx_gr_LV hR
  have r_MI := sx_gr_MI hR
  have r_MX := sx_gr_MX hR
  have r_VU := sx_gr_VU hR
  obtain ⟨q1, q2, q3, q4⟩ := g7
  have h1 := q1 j (by omega)
  by_cases e : y ≤ γ 18459
  · exact sx_q_l_room_1 hG (by omega) (by omega) ⟨q1, q2, Or.inr (by rw [show (0 + (1 * (j : Int) + 0)).toNat = j by omega]; omega), q4⟩
  · exact sx_q_l_room_0 hG (by omega) (by omega) ⟨q1, q2, Or.inr (by rw [show (0 + (1 * (j : Int) + 0)).toNat = j by omega]; omega), Or.inr ⟨j, by omega, by omega⟩⟩
theorem sx_p_l_who : sx_okr sx_GG false 135 sx_r_l_who := by
  intro γ A j y hG hR hj hlo hhi hl hn
  rw [show (sx_cell.get 135).2.2.1 = 300 from by decide +kernel] at hj
  rw [show (sx_cell.get 135).2.2.2.1 = 0 from by decide +kernel] at hlo
  rw [show (sx_cell.get 135).2.2.2.2.1 = 255 from by decide +kernel] at hhi
  have hy : A 135 j = y := hl rfl
  have n0 : 0 ≤ 0 + ((-1) * (j : Int) + 0) := hn _ (List.Mem.head _)
  clear hn
  have hG0 := hG
  obtain ⟨g0, g1, g2, g3, g4, g5, g6, g7, g8, g9, g10, g11, g12, g13, g14, g15, g16, g17, g18, g19, g20, g21, g22, g23, g24⟩ := hG0
  have r_W0 := sx_gr_W0 hR
  have h1 : A 135 0 = γ 18432 := g0
  have e : j = 0 := by omega
  subst e
  exact sx_q_l_who_0 hG (by omega)
theorem sx_p_l_goal : sx_okr sx_GG false 136 sx_r_l_goal := by
  intro γ A j y hG hR hj hlo hhi hl hn
  rw [show (sx_cell.get 136).2.2.1 = 300 from by decide +kernel] at hj
  rw [show (sx_cell.get 136).2.2.2.1 = 0 from by decide +kernel] at hlo
  rw [show (sx_cell.get 136).2.2.2.2.1 = 255 from by decide +kernel] at hhi
  have hy : A 136 j = y := hl rfl
  have n0 : 0 ≤ 0 + ((-1) * (j : Int) + 0) := hn _ (List.Mem.head _)
  clear hn
  have hG0 := hG
  obtain ⟨g0, g1, g2, g3, g4, g5, g6, g7, g8, g9, g10, g11, g12, g13, g14, g15, g16, g17, g18, g19, g20, g21, g22, g23, g24⟩ := hG0
  have r_G0 := sx_gr_G0 hR
  have h1 : A 136 0 = γ 18433 := g1
  have e : j = 0 := by omega
  subst e
  exact sx_q_l_goal_0 hG (by omega)
theorem sx_p_l_week0 : sx_okr sx_GG false 140 sx_r_l_week0 := by
  intro γ A j y hG hR hj hlo hhi hl hn
  rw [show (sx_cell.get 140).2.2.1 = 5 from by decide +kernel] at hj
  rw [show (sx_cell.get 140).2.2.2.1 = (-1) from by decide +kernel] at hlo
  rw [show (sx_cell.get 140).2.2.2.2.1 = 4140 from by decide +kernel] at hhi
  have hy : A 140 j = y := hl rfl
  have n0 : 0 ≤ 0 + (1 * (j : Int) + 0) := hn _ (List.Mem.head _)
  have n1 : 0 ≤ 0 + ((-1) * (j : Int) + 0) := hn _ (List.Mem.tail _ (List.Mem.head _))
  clear hn
  have hG0 := hG
  obtain ⟨g0, g1, g2, g3, g4, g5, g6, g7, g8, g9, g10, g11, g12, g13, g14, g15, g16, g17, g18, g19, g20, g21, g22, g23, g24⟩ := hG0
  have r_T0 := sx_gr_T0 hR
  have r_T1 := sx_gr_T1 hR
  have r_T2 := sx_gr_T2 hR
  have r_T3 := sx_gr_T3 hR
  have r_T4 := sx_gr_T4 hR
  obtain ⟨t0, t1, t2, t3, t4⟩ := g2
  have e : j = 0 := by omega
  subst e
  exact sx_q_l_week0_0 hG (by omega)
theorem sx_p_l_week1 : sx_okr sx_GG false 140 sx_r_l_week1 := by
  intro γ A j y hG hR hj hlo hhi hl hn
  rw [show (sx_cell.get 140).2.2.1 = 5 from by decide +kernel] at hj
  rw [show (sx_cell.get 140).2.2.2.1 = (-1) from by decide +kernel] at hlo
  rw [show (sx_cell.get 140).2.2.2.2.1 = 4140 from by decide +kernel] at hhi
  have hy : A 140 j = y := hl rfl
  have n0 : 0 ≤ (-1) + (1 * (j : Int) + 0) := hn _ (List.Mem.head _)
  have n1 : 0 ≤ 1 + ((-1) * (j : Int) + 0) := hn _ (List.Mem.tail _ (List.Mem.head _))
  clear hn
  have hG0 := hG
  obtain ⟨g0, g1, g2, g3, g4, g5, g6, g7, g8, g9, g10, g11, g12, g13, g14, g15, g16, g17, g18, g19, g20, g21, g22, g23, g24⟩ := hG0
  have r_T0 := sx_gr_T0 hR
  have r_T1 := sx_gr_T1 hR
  have r_T2 := sx_gr_T2 hR
  have r_T3 := sx_gr_T3 hR
  have r_T4 := sx_gr_T4 hR
  obtain ⟨t0, t1, t2, t3, t4⟩ := g2
  have e : j = 1 := by omega
  subst e
  exact sx_q_l_week1_0 hG (by omega)
theorem sx_p_l_week2 : sx_okr sx_GG false 140 sx_r_l_week2 := by
  intro γ A j y hG hR hj hlo hhi hl hn
  rw [show (sx_cell.get 140).2.2.1 = 5 from by decide +kernel] at hj
  rw [show (sx_cell.get 140).2.2.2.1 = (-1) from by decide +kernel] at hlo
  rw [show (sx_cell.get 140).2.2.2.2.1 = 4140 from by decide +kernel] at hhi
  have hy : A 140 j = y := hl rfl
  have n0 : 0 ≤ (-2) + (1 * (j : Int) + 0) := hn _ (List.Mem.head _)
  have n1 : 0 ≤ 2 + ((-1) * (j : Int) + 0) := hn _ (List.Mem.tail _ (List.Mem.head _))
  clear hn
  have hG0 := hG
  obtain ⟨g0, g1, g2, g3, g4, g5, g6, g7, g8, g9, g10, g11, g12, g13, g14, g15, g16, g17, g18, g19, g20, g21, g22, g23, g24⟩ := hG0
  have r_T0 := sx_gr_T0 hR
  have r_T1 := sx_gr_T1 hR
  have r_T2 := sx_gr_T2 hR
  have r_T3 := sx_gr_T3 hR
  have r_T4 := sx_gr_T4 hR
  obtain ⟨t0, t1, t2, t3, t4⟩ := g2
  have e : j = 2 := by omega
  subst e
  exact sx_q_l_week2_0 hG (by omega)
theorem sx_p_l_week3 : sx_okr sx_GG false 140 sx_r_l_week3 := by
  intro γ A j y hG hR hj hlo hhi hl hn
  rw [show (sx_cell.get 140).2.2.1 = 5 from by decide +kernel] at hj
  rw [show (sx_cell.get 140).2.2.2.1 = (-1) from by decide +kernel] at hlo
  rw [show (sx_cell.get 140).2.2.2.2.1 = 4140 from by decide +kernel] at hhi
  have hy : A 140 j = y := hl rfl
  have n0 : 0 ≤ (-3) + (1 * (j : Int) + 0) := hn _ (List.Mem.head _)
  have n1 : 0 ≤ 3 + ((-1) * (j : Int) + 0) := hn _ (List.Mem.tail _ (List.Mem.head _))
  clear hn
  have hG0 := hG
  obtain ⟨g0, g1, g2, g3, g4, g5, g6, g7, g8, g9, g10, g11, g12, g13, g14, g15, g16, g17, g18, g19, g20, g21, g22, g23, g24⟩ := hG0
  have r_T0 := sx_gr_T0 hR
  have r_T1 := sx_gr_T1 hR
  have r_T2 := sx_gr_T2 hR
  have r_T3 := sx_gr_T3 hR
  have r_T4 := sx_gr_T4 hR
  obtain ⟨t0, t1, t2, t3, t4⟩ := g2
  have e : j = 3 := by omega
  subst e
  exact sx_q_l_week3_0 hG (by omega)
theorem sx_p_l_week4 : sx_okr sx_GG false 140 sx_r_l_week4 := by
  intro γ A j y hG hR hj hlo hhi hl hn
  rw [show (sx_cell.get 140).2.2.1 = 5 from by decide +kernel] at hj
  rw [show (sx_cell.get 140).2.2.2.1 = (-1) from by decide +kernel] at hlo
  rw [show (sx_cell.get 140).2.2.2.2.1 = 4140 from by decide +kernel] at hhi
  have hy : A 140 j = y := hl rfl
  have n0 : 0 ≤ (-4) + (1 * (j : Int) + 0) := hn _ (List.Mem.head _)
  have n1 : 0 ≤ 4 + ((-1) * (j : Int) + 0) := hn _ (List.Mem.tail _ (List.Mem.head _))
  clear hn
  have hG0 := hG
  obtain ⟨g0, g1, g2, g3, g4, g5, g6, g7, g8, g9, g10, g11, g12, g13, g14, g15, g16, g17, g18, g19, g20, g21, g22, g23, g24⟩ := hG0
  have r_T0 := sx_gr_T0 hR
  have r_T1 := sx_gr_T1 hR
  have r_T2 := sx_gr_T2 hR
  have r_T3 := sx_gr_T3 hR
  have r_T4 := sx_gr_T4 hR
  obtain ⟨t0, t1, t2, t3, t4⟩ := g2
  have e : j = 4 := by omega
  subst e
  exact sx_q_l_week4_0 hG (by omega)
theorem sx_p_s_fndA : sx_okr sx_GG true 2 sx_r_s_fndA := by
  intro γ A j y hG hR hj hlo hhi hl hn
  rw [show (sx_cell.get 2).2.2.1 = 8 from by decide +kernel] at hj
  rw [show (sx_cell.get 2).2.2.2.1 = (-9223372036854775808) from by decide +kernel] at hlo
  rw [show (sx_cell.get 2).2.2.2.2.1 = 9223372036854775807 from by decide +kernel] at hhi
  have n0 : 0 ≤ 0 + ((-1) * γ 18515 + (1 * (j : Int) + 0)) := hn _ (List.Mem.head _)
  have n1 : 0 ≤ (-1) + ((-1) * γ 18516 + 0) := hn _ (List.Mem.tail _ (List.Mem.head _))
  clear hn
  have hG0 := hG
  obtain ⟨g0, g1, g2, g3, g4, g5, g6, g7, g8, g9, g10, g11, g12, g13, g14, g15, g16, g17, g18, g19, g20, g21, g22, g23, g24⟩ := hG0
  have r_N0 := sx_gr_N0 hR
  have r_N1 := sx_gr_N1 hR
  have r_N2 := sx_gr_N2 hR
  have r_N3 := sx_gr_N3 hR
  have r_N4 := sx_gr_N4 hR
  have r_N5 := sx_gr_N5 hR
  have r_N6 := sx_gr_N6 hR
  have r_N7 := sx_gr_N7 hR
  have r_fI := sx_gr_fI hR
  have r_fM := sx_gr_fM hR
  have r_fX := sx_gr_fX hR
  obtain ⟨t0, t1, t2, t3, t4, t5, t6, t7⟩ := g23
  rcases (show j = 0 ∨ j = 1 ∨ j = 2 ∨ j = 3 ∨ j = 4 ∨ j = 5 ∨ j = 6 ∨ j = 7 by omega) with rfl | rfl | rfl | rfl | rfl | rfl | rfl | rfl
  · exact sx_q_s_fndA_0 hG (by omega) (by omega) ⟨(fun j2 hj2 => (by rw [sx_au_o (by omega)]; exact g21.1 j2 hj2)), (fun h => (by omega))⟩ ⟨(by rw [sx_au_s rfl]; omega), (by rw [sx_au_o (by decide)]; omega), (by rw [sx_au_o (by decide)]; omega), (by rw [sx_au_o (by decide)]; omega), (by rw [sx_au_o (by decide)]; omega), (by rw [sx_au_o (by decide)]; omega), (by rw [sx_au_o (by decide)]; omega), (by rw [sx_au_o (by decide)]; omega)⟩
  · exact sx_q_s_fndA_1 hG (by omega) (by omega) ⟨(fun j2 hj2 => (by rw [sx_au_o (by omega)]; exact g21.1 j2 hj2)), (fun h => (by omega))⟩ ⟨(by rw [sx_au_o (by decide)]; omega), (by rw [sx_au_s rfl]; omega), (by rw [sx_au_o (by decide)]; omega), (by rw [sx_au_o (by decide)]; omega), (by rw [sx_au_o (by decide)]; omega), (by rw [sx_au_o (by decide)]; omega), (by rw [sx_au_o (by decide)]; omega), (by rw [sx_au_o (by decide)]; omega)⟩
  · exact sx_q_s_fndA_2 hG (by omega) (by omega) ⟨(fun j2 hj2 => (by rw [sx_au_o (by omega)]; exact g21.1 j2 hj2)), (fun h => (by omega))⟩ ⟨(by rw [sx_au_o (by decide)]; omega), (by rw [sx_au_o (by decide)]; omega), (by rw [sx_au_s rfl]; omega), (by rw [sx_au_o (by decide)]; omega), (by rw [sx_au_o (by decide)]; omega), (by rw [sx_au_o (by decide)]; omega), (by rw [sx_au_o (by decide)]; omega), (by rw [sx_au_o (by decide)]; omega)⟩
  · exact sx_q_s_fndA_3 hG (by omega) (by omega) ⟨(fun j2 hj2 => (by rw [sx_au_o (by omega)]; exact g21.1 j2 hj2)), (fun h => (by omega))⟩ ⟨(by rw [sx_au_o (by decide)]; omega), (by rw [sx_au_o (by decide)]; omega), (by rw [sx_au_o (by decide)]; omega), (by rw [sx_au_s rfl]; omega), (by rw [sx_au_o (by decide)]; omega), (by rw [sx_au_o (by decide)]; omega), (by rw [sx_au_o (by decide)]; omega), (by rw [sx_au_o (by decide)]; omega)⟩
  · exact sx_q_s_fndA_4 hG (by omega) (by omega) ⟨(fun j2 hj2 => (by rw [sx_au_o (by omega)]; exact g21.1 j2 hj2)), (fun h => (by omega))⟩ ⟨(by rw [sx_au_o (by decide)]; omega), (by rw [sx_au_o (by decide)]; omega), (by rw [sx_au_o (by decide)]; omega), (by rw [sx_au_o (by decide)]; omega), (by rw [sx_au_s rfl]; omega), (by rw [sx_au_o (by decide)]; omega), (by rw [sx_au_o (by decide)]; omega), (by rw [sx_au_o (by decide)]; omega)⟩
  · exact sx_q_s_fndA_5 hG (by omega) (by omega) ⟨(fun j2 hj2 => (by rw [sx_au_o (by omega)]; exact g21.1 j2 hj2)), (fun h => (by omega))⟩ ⟨(by rw [sx_au_o (by decide)]; omega), (by rw [sx_au_o (by decide)]; omega), (by rw [sx_au_o (by decide)]; omega), (by rw [sx_au_o (by decide)]; omega), (by rw [sx_au_o (by decide)]; omega), (by rw [sx_au_s rfl]; omega), (by rw [sx_au_o (by decide)]; omega), (by rw [sx_au_o (by decide)]; omega)⟩
  · exact sx_q_s_fndA_6 hG (by omega) (by omega) ⟨(fun j2 hj2 => (by rw [sx_au_o (by omega)]; exact g21.1 j2 hj2)), (fun h => (by omega))⟩ ⟨(by rw [sx_au_o (by decide)]; omega), (by rw [sx_au_o (by decide)]; omega), (by rw [sx_au_o (by decide)]; omega), (by rw [sx_au_o (by decide)]; omega), (by rw [sx_au_o (by decide)]; omega), (by rw [sx_au_o (by decide)]; omega), (by rw [sx_au_s rfl]; omega), (by rw [sx_au_o (by decide)]; omega)⟩
  · exact sx_q_s_fndA_7 hG (by omega) (by omega) ⟨(fun j2 hj2 => (by rw [sx_au_o (by omega)]; exact g21.1 j2 hj2)), (fun h => (by omega))⟩ ⟨(by rw [sx_au_o (by decide)]; omega), (by rw [sx_au_o (by decide)]; omega), (by rw [sx_au_o (by decide)]; omega), (by rw [sx_au_o (by decide)]; omega), (by rw [sx_au_o (by decide)]; omega), (by rw [sx_au_o (by decide)]; omega), (by rw [sx_au_o (by decide)]; omega), (by rw [sx_au_s rfl]; omega)⟩
theorem sx_p_s_fndB : sx_okr sx_GG true 2 sx_r_s_fndB := by
  intro γ A j y hG hR hj hlo hhi hl hn
  rw [show (sx_cell.get 2).2.2.1 = 8 from by decide +kernel] at hj
  rw [show (sx_cell.get 2).2.2.2.1 = (-9223372036854775808) from by decide +kernel] at hlo
  rw [show (sx_cell.get 2).2.2.2.2.1 = 9223372036854775807 from by decide +kernel] at hhi
  clear hn
  have hG0 := hG
  obtain ⟨g0, g1, g2, g3, g4, g5, g6, g7, g8, g9, g10, g11, g12, g13, g14, g15, g16, g17, g18, g19, g20, g21, g22, g23, g24⟩ := hG0
  have r_N0 := sx_gr_N0 hR
  have r_N1 := sx_gr_N1 hR
  have r_N2 := sx_gr_N2 hR
  have r_N3 := sx_gr_N3 hR
  have r_N4 := sx_gr_N4 hR
  have r_N5 := sx_gr_N5 hR
  have r_N6 := sx_gr_N6 hR
  have r_N7 := sx_gr_N7 hR
  have r_fI := sx_gr_fI hR
  have r_fM := sx_gr_fM hR
  have r_fX := sx_gr_fX hR
  obtain ⟨t0, t1, t2, t3, t4, t5, t6, t7⟩ := g23
  rcases (show j = 0 ∨ j = 1 ∨ j = 2 ∨ j = 3 ∨ j = 4 ∨ j = 5 ∨ j = 6 ∨ j = 7 by omega) with rfl | rfl | rfl | rfl | rfl | rfl | rfl | rfl
  · exact sx_q_s_fndB_0 hG (by omega) (by omega) ⟨(fun j2 hj2 => (by omega)), (fun h => (by omega))⟩ ⟨(by rw [sx_au_s rfl]; omega), (by rw [sx_au_o (by decide)]; omega), (by rw [sx_au_o (by decide)]; omega), (by rw [sx_au_o (by decide)]; omega), (by rw [sx_au_o (by decide)]; omega), (by rw [sx_au_o (by decide)]; omega), (by rw [sx_au_o (by decide)]; omega), (by rw [sx_au_o (by decide)]; omega)⟩
  · exact sx_q_s_fndB_1 hG (by omega) (by omega) ⟨(fun j2 hj2 => (by omega)), (fun h => (by omega))⟩ ⟨(by rw [sx_au_o (by decide)]; omega), (by rw [sx_au_s rfl]; omega), (by rw [sx_au_o (by decide)]; omega), (by rw [sx_au_o (by decide)]; omega), (by rw [sx_au_o (by decide)]; omega), (by rw [sx_au_o (by decide)]; omega), (by rw [sx_au_o (by decide)]; omega), (by rw [sx_au_o (by decide)]; omega)⟩
  · exact sx_q_s_fndB_2 hG (by omega) (by omega) ⟨(fun j2 hj2 => (by omega)), (fun h => (by omega))⟩ ⟨(by rw [sx_au_o (by decide)]; omega), (by rw [sx_au_o (by decide)]; omega), (by rw [sx_au_s rfl]; omega), (by rw [sx_au_o (by decide)]; omega), (by rw [sx_au_o (by decide)]; omega), (by rw [sx_au_o (by decide)]; omega), (by rw [sx_au_o (by decide)]; omega), (by rw [sx_au_o (by decide)]; omega)⟩
  · exact sx_q_s_fndB_3 hG (by omega) (by omega) ⟨(fun j2 hj2 => (by omega)), (fun h => (by omega))⟩ ⟨(by rw [sx_au_o (by decide)]; omega), (by rw [sx_au_o (by decide)]; omega), (by rw [sx_au_o (by decide)]; omega), (by rw [sx_au_s rfl]; omega), (by rw [sx_au_o (by decide)]; omega), (by rw [sx_au_o (by decide)]; omega), (by rw [sx_au_o (by decide)]; omega), (by rw [sx_au_o (by decide)]; omega)⟩
  · exact sx_q_s_fndB_4 hG (by omega) (by omega) ⟨(fun j2 hj2 => (by omega)), (fun h => (by omega))⟩ ⟨(by rw [sx_au_o (by decide)]; omega), (by rw [sx_au_o (by decide)]; omega), (by rw [sx_au_o (by decide)]; omega), (by rw [sx_au_o (by decide)]; omega), (by rw [sx_au_s rfl]; omega), (by rw [sx_au_o (by decide)]; omega), (by rw [sx_au_o (by decide)]; omega), (by rw [sx_au_o (by decide)]; omega)⟩
  · exact sx_q_s_fndB_5 hG (by omega) (by omega) ⟨(fun j2 hj2 => (by omega)), (fun h => (by omega))⟩ ⟨(by rw [sx_au_o (by decide)]; omega), (by rw [sx_au_o (by decide)]; omega), (by rw [sx_au_o (by decide)]; omega), (by rw [sx_au_o (by decide)]; omega), (by rw [sx_au_o (by decide)]; omega), (by rw [sx_au_s rfl]; omega), (by rw [sx_au_o (by decide)]; omega), (by rw [sx_au_o (by decide)]; omega)⟩
  · exact sx_q_s_fndB_6 hG (by omega) (by omega) ⟨(fun j2 hj2 => (by omega)), (fun h => (by omega))⟩ ⟨(by rw [sx_au_o (by decide)]; omega), (by rw [sx_au_o (by decide)]; omega), (by rw [sx_au_o (by decide)]; omega), (by rw [sx_au_o (by decide)]; omega), (by rw [sx_au_o (by decide)]; omega), (by rw [sx_au_o (by decide)]; omega), (by rw [sx_au_s rfl]; omega), (by rw [sx_au_o (by decide)]; omega)⟩
  · exact sx_q_s_fndB_7 hG (by omega) (by omega) ⟨(fun j2 hj2 => (by omega)), (fun h => (by omega))⟩ ⟨(by rw [sx_au_o (by decide)]; omega), (by rw [sx_au_o (by decide)]; omega), (by rw [sx_au_o (by decide)]; omega), (by rw [sx_au_o (by decide)]; omega), (by rw [sx_au_o (by decide)]; omega), (by rw [sx_au_o (by decide)]; omega), (by rw [sx_au_o (by decide)]; omega), (by rw [sx_au_s rfl]; omega)⟩
theorem sx_p_s_tr : sx_okr sx_GG true 41 sx_r_s_tr := by
  intro γ A j y hG hR hj hlo hhi hl hn
  rw [show (sx_cell.get 41).2.2.1 = 4 from by decide +kernel] at hj
  rw [show (sx_cell.get 41).2.2.2.1 = 0 from by decide +kernel] at hlo
  rw [show (sx_cell.get 41).2.2.2.2.1 = 142 from by decide +kernel] at hhi
  have n0 : 0 ≤ (-1) + 0 := hn _ (List.Mem.head _)
  clear hn
  have hG0 := hG
  obtain ⟨g0, g1, g2, g3, g4, g5, g6, g7, g8, g9, g10, g11, g12, g13, g14, g15, g16, g17, g18, g19, g20, g21, g22, g23, g24⟩ := hG0
  omega
theorem sx_p_s_choicea : sx_okr sx_GG true 76 sx_r_s_choicea := by
  intro γ A j y hG hR hj hlo hhi hl hn
  rw [show (sx_cell.get 76).2.2.1 = 8 from by decide +kernel] at hj
  rw [show (sx_cell.get 76).2.2.2.1 = (-1) from by decide +kernel] at hlo
  rw [show (sx_cell.get 76).2.2.2.2.1 = 7 from by decide +kernel] at hhi
  have n0 : 0 ≤ 0 + (1 * y + 0) := hn _ (List.Mem.head _)
  have n1 : 0 ≤ 0 + (1 * γ 18453 + ((-1) * (j : Int) + 0)) := hn _ (List.Mem.tail _ (List.Mem.head _))
  clear hn
  have hG0 := hG
  obtain ⟨g0, g1, g2, g3, g4, g5, g6, g7, g8, g9, g10, g11, g12, g13, g14, g15, g16, g17, g18, g19, g20, g21, g22, g23, g24⟩ := hG0
  have r_B1 := sx_gr_B1 hR
  by_cases e0 : (j : Int) = γ 18453
  · exact sx_q_s_choicea_0 hG (by omega) (by omega) (by
      intro j2 hj2
      by_cases e : j2 = j
      · rw [sx_au_s e]; omega
      · rw [sx_au_o e]; exact g5 j2 (by omega))
  · exact sx_q_s_choicea_1 hG (by omega) (by
      intro j2 hj2
      by_cases e : j2 = j
      · rw [sx_au_s e]; omega
      · rw [sx_au_o e]; exact g5 j2 (by omega))
theorem sx_p_s_choiceb : sx_okr sx_GG true 76 sx_r_s_choiceb := by
  intro γ A j y hG hR hj hlo hhi hl hn
  rw [show (sx_cell.get 76).2.2.1 = 8 from by decide +kernel] at hj
  rw [show (sx_cell.get 76).2.2.2.1 = (-1) from by decide +kernel] at hlo
  rw [show (sx_cell.get 76).2.2.2.2.1 = 7 from by decide +kernel] at hhi
  have n0 : 0 ≤ 0 + ((-1) * γ 18453 + (1 * (j : Int) + 0)) := hn _ (List.Mem.head _)
  clear hn
  have hG0 := hG
  obtain ⟨g0, g1, g2, g3, g4, g5, g6, g7, g8, g9, g10, g11, g12, g13, g14, g15, g16, g17, g18, g19, g20, g21, g22, g23, g24⟩ := hG0
  have r_B1 := sx_gr_B1 hR
  exact sx_q_s_choiceb_0 hG (by
      intro j2 hj2
      by_cases e : j2 = j
      · omega
      · rw [sx_au_o e]; exact g5 j2 (by omega))
theorem sx_p_s_choicec : sx_okr sx_GG true 76 sx_r_s_choicec := by
  intro γ A j y hG hR hj hlo hhi hl hn
  rw [show (sx_cell.get 76).2.2.1 = 8 from by decide +kernel] at hj
  rw [show (sx_cell.get 76).2.2.2.1 = (-1) from by decide +kernel] at hlo
  rw [show (sx_cell.get 76).2.2.2.2.1 = 7 from by decide +kernel] at hhi
  have n0 : 0 ≤ 0 + (1 * γ 18453 + ((-1) * (j : Int) + 0)) := hn _ (List.Mem.head _)
  clear hn
  have hG0 := hG
  obtain ⟨g0, g1, g2, g3, g4, g5, g6, g7, g8, g9, g10, g11, g12, g13, g14, g15, g16, g17, g18, g19, g20, g21, g22, g23, g24⟩ := hG0
  have r_B1 := sx_gr_B1 hR
  exact sx_q_s_choicec_0 hG (by
      intro j2 hj2
      by_cases e : j2 = j
      · omega
      · rw [sx_au_o e]; exact g5 j2 (by omega))
theorem sx_p_s_choiced : sx_okr sx_GG true 76 sx_r_s_choiced := by
  intro γ A j y hG hR hj hlo hhi hl hn
  rw [show (sx_cell.get 76).2.2.1 = 8 from by decide +kernel] at hj
  rw [show (sx_cell.get 76).2.2.2.1 = (-1) from by decide +kernel] at hlo
  rw [show (sx_cell.get 76).2.2.2.2.1 = 7 from by decide +kernel] at hhi
  clear hn
  have hG0 := hG
  obtain ⟨g0, g1, g2, g3, g4, g5, g6, g7, g8, g9, g10, g11, g12, g13, g14, g15, g16, g17, g18, g19, g20, g21, g22, g23, g24⟩ := hG0
  have r_B1 := sx_gr_B1 hR
  exact sx_q_s_choiced_0 hG (by
      intro j2 hj2
      by_cases e : j2 = j
      · omega
      · rw [sx_au_o e]; exact g5 j2 (by omega))
theorem sx_p_s_openeda : sx_okr sx_GG true 77 sx_r_s_openeda := by
  intro γ A j y hG hR hj hlo hhi hl hn
  rw [show (sx_cell.get 77).2.2.1 = 9 from by decide +kernel] at hj
  rw [show (sx_cell.get 77).2.2.2.1 = 0 from by decide +kernel] at hlo
  rw [show (sx_cell.get 77).2.2.2.2.1 = 8 from by decide +kernel] at hhi
  have n0 : 0 ≤ 0 + (1 * (j : Int) + ((-1) * y + 0)) := hn _ (List.Mem.head _)
  have n1 : 0 ≤ 0 + (1 * γ 18454 + ((-1) * (j : Int) + 0)) := hn _ (List.Mem.tail _ (List.Mem.head _))
  clear hn
  have hG0 := hG
  obtain ⟨g0, g1, g2, g3, g4, g5, g6, g7, g8, g9, g10, g11, g12, g13, g14, g15, g16, g17, g18, g19, g20, g21, g22, g23, g24⟩ := hG0
  have r_B2 := sx_gr_B2 hR
  by_cases e0 : (j : Int) = γ 18454
  · exact sx_q_s_openeda_0 hG (by omega) (by omega) (by
      intro j2 hj2
      by_cases e : j2 = j
      · rw [sx_au_s e]; omega
      · rw [sx_au_o e]; exact g6 j2 (by omega))
  · exact sx_q_s_openeda_1 hG (by omega) (by
      intro j2 hj2
      by_cases e : j2 = j
      · rw [sx_au_s e]; omega
      · rw [sx_au_o e]; exact g6 j2 (by omega))
theorem sx_p_s_openedb : sx_okr sx_GG true 77 sx_r_s_openedb := by
  intro γ A j y hG hR hj hlo hhi hl hn
  rw [show (sx_cell.get 77).2.2.1 = 9 from by decide +kernel] at hj
  rw [show (sx_cell.get 77).2.2.2.1 = 0 from by decide +kernel] at hlo
  rw [show (sx_cell.get 77).2.2.2.2.1 = 8 from by decide +kernel] at hhi
  have n0 : 0 ≤ 0 + ((-1) * γ 18454 + (1 * (j : Int) + 0)) := hn _ (List.Mem.head _)
  clear hn
  have hG0 := hG
  obtain ⟨g0, g1, g2, g3, g4, g5, g6, g7, g8, g9, g10, g11, g12, g13, g14, g15, g16, g17, g18, g19, g20, g21, g22, g23, g24⟩ := hG0
  have r_B2 := sx_gr_B2 hR
  exact sx_q_s_openedb_0 hG (by
      intro j2 hj2
      by_cases e : j2 = j
      · omega
      · rw [sx_au_o e]; exact g6 j2 (by omega))
theorem sx_p_s_openedc : sx_okr sx_GG true 77 sx_r_s_openedc := by
  intro γ A j y hG hR hj hlo hhi hl hn
  rw [show (sx_cell.get 77).2.2.1 = 9 from by decide +kernel] at hj
  rw [show (sx_cell.get 77).2.2.2.1 = 0 from by decide +kernel] at hlo
  rw [show (sx_cell.get 77).2.2.2.2.1 = 8 from by decide +kernel] at hhi
  have n0 : 0 ≤ 0 + (1 * γ 18454 + ((-1) * (j : Int) + 0)) := hn _ (List.Mem.head _)
  clear hn
  have hG0 := hG
  obtain ⟨g0, g1, g2, g3, g4, g5, g6, g7, g8, g9, g10, g11, g12, g13, g14, g15, g16, g17, g18, g19, g20, g21, g22, g23, g24⟩ := hG0
  have r_B2 := sx_gr_B2 hR
  exact sx_q_s_openedc_0 hG (by
      intro j2 hj2
      by_cases e : j2 = j
      · omega
      · rw [sx_au_o e]; exact g6 j2 (by omega))
theorem sx_p_s_openedd : sx_okr sx_GG true 77 sx_r_s_openedd := by
  intro γ A j y hG hR hj hlo hhi hl hn
  rw [show (sx_cell.get 77).2.2.1 = 9 from by decide +kernel] at hj
  rw [show (sx_cell.get 77).2.2.2.1 = 0 from by decide +kernel] at hlo
  rw [show (sx_cell.get 77).2.2.2.2.1 = 8 from by decide +kernel] at hhi
  clear hn
  have hG0 := hG
  obtain ⟨g0, g1, g2, g3, g4, g5, g6, g7, g8, g9, g10, g11, g12, g13, g14, g15, g16, g17, g18, g19, g20, g21, g22, g23, g24⟩ := hG0
  have r_B2 := sx_gr_B2 hR
  exact sx_q_s_openedd_0 hG (by
      intro j2 hj2
      by_cases e : j2 = j
      · omega
      · rw [sx_au_o e]; exact g6 j2 (by omega))
theorem sx_p_s_sort : sx_okr sx_GG true 101 sx_r_s_sort := by
  intro γ A j y hG hR hj hlo hhi hl hn
  rw [show (sx_cell.get 101).2.2.1 = 4 from by decide +kernel] at hj
  rw [show (sx_cell.get 101).2.2.2.1 = 0 from by decide +kernel] at hlo
  rw [show (sx_cell.get 101).2.2.2.2.1 = 3 from by decide +kernel] at hhi
  clear hn
  have hG0 := hG
  obtain ⟨g0, g1, g2, g3, g4, g5, g6, g7, g8, g9, g10, g11, g12, g13, g14, g15, g16, g17, g18, g19, g20, g21, g22, g23, g24⟩ := hG0
  have r_S0 := sx_gr_S0 hR
  have r_S1 := sx_gr_S1 hR
  have r_S2 := sx_gr_S2 hR
  have r_S3 := sx_gr_S3 hR
  obtain ⟨t0, t1, t2, t3⟩ := g16
  rcases (show j = 0 ∨ j = 1 ∨ j = 2 ∨ j = 3 by omega) with rfl | rfl | rfl | rfl
  · exact sx_q_s_sort_0 hG (by omega) (by omega) ⟨(by rw [sx_au_s rfl]; omega), (by rw [sx_au_o (by decide)]; omega), (by rw [sx_au_o (by decide)]; omega), (by rw [sx_au_o (by decide)]; omega)⟩
  · exact sx_q_s_sort_1 hG (by omega) (by omega) ⟨(by rw [sx_au_o (by decide)]; omega), (by rw [sx_au_s rfl]; omega), (by rw [sx_au_o (by decide)]; omega), (by rw [sx_au_o (by decide)]; omega)⟩
  · exact sx_q_s_sort_2 hG (by omega) (by omega) ⟨(by rw [sx_au_o (by decide)]; omega), (by rw [sx_au_o (by decide)]; omega), (by rw [sx_au_s rfl]; omega), (by rw [sx_au_o (by decide)]; omega)⟩
  · exact sx_q_s_sort_3 hG (by omega) (by omega) ⟨(by rw [sx_au_o (by decide)]; omega), (by rw [sx_au_o (by decide)]; omega), (by rw [sx_au_o (by decide)]; omega), (by rw [sx_au_s rfl]; omega)⟩
theorem sx_p_s_trayMany : sx_okr sx_GG true 102 sx_r_s_trayMany := by
  intro γ A j y hG hR hj hlo hhi hl hn
  rw [show (sx_cell.get 102).2.2.1 = 4 from by decide +kernel] at hj
  rw [show (sx_cell.get 102).2.2.2.1 = (-1) from by decide +kernel] at hlo
  rw [show (sx_cell.get 102).2.2.2.2.1 = 60 from by decide +kernel] at hhi
  clear hn
  have hG0 := hG
  obtain ⟨g0, g1, g2, g3, g4, g5, g6, g7, g8, g9, g10, g11, g12, g13, g14, g15, g16, g17, g18, g19, g20, g21, g22, g23, g24⟩ := hG0
  have r_M0 := sx_gr_M0 hR
  have r_M1 := sx_gr_M1 hR
  have r_M2 := sx_gr_M2 hR
  have r_M3 := sx_gr_M3 hR
  obtain ⟨t0, t1, t2, t3⟩ := g17
  rcases (show j = 0 ∨ j = 1 ∨ j = 2 ∨ j = 3 by omega) with rfl | rfl | rfl | rfl
  · exact sx_q_s_trayMany_0 hG (by omega) (by omega) ⟨(by rw [sx_au_s rfl]; omega), (by rw [sx_au_o (by decide)]; omega), (by rw [sx_au_o (by decide)]; omega), (by rw [sx_au_o (by decide)]; omega)⟩
  · exact sx_q_s_trayMany_1 hG (by omega) (by omega) ⟨(by rw [sx_au_o (by decide)]; omega), (by rw [sx_au_s rfl]; omega), (by rw [sx_au_o (by decide)]; omega), (by rw [sx_au_o (by decide)]; omega)⟩
  · exact sx_q_s_trayMany_2 hG (by omega) (by omega) ⟨(by rw [sx_au_o (by decide)]; omega), (by rw [sx_au_o (by decide)]; omega), (by rw [sx_au_s rfl]; omega), (by rw [sx_au_o (by decide)]; omega)⟩
  · exact sx_q_s_trayMany_3 hG (by omega) (by omega) ⟨(by rw [sx_au_o (by decide)]; omega), (by rw [sx_au_o (by decide)]; omega), (by rw [sx_au_o (by decide)]; omega), (by rw [sx_au_s rfl]; omega)⟩
theorem sx_p_s_gndA : sx_okr sx_GG true 104 sx_r_s_gndA := by
  intro γ A j y hG hR hj hlo hhi hl hn
  rw [show (sx_cell.get 104).2.2.1 = 8 from by decide +kernel] at hj
  rw [show (sx_cell.get 104).2.2.2.1 = (-9223372036854775808) from by decide +kernel] at hlo
  rw [show (sx_cell.get 104).2.2.2.2.1 = 9223372036854775807 from by decide +kernel] at hhi
  have n0 : 0 ≤ 0 + ((-1) * γ 18518 + (1 * (j : Int) + 0)) := hn _ (List.Mem.head _)
  have n1 : 0 ≤ (-1) + ((-1) * γ 18519 + 0) := hn _ (List.Mem.tail _ (List.Mem.head _))
  clear hn
  have hG0 := hG
  obtain ⟨g0, g1, g2, g3, g4, g5, g6, g7, g8, g9, g10, g11, g12, g13, g14, g15, g16, g17, g18, g19, g20, g21, g22, g23, g24⟩ := hG0
  have r_L0 := sx_gr_L0 hR
  have r_L1 := sx_gr_L1 hR
  have r_L2 := sx_gr_L2 hR
  have r_L3 := sx_gr_L3 hR
  have r_L4 := sx_gr_L4 hR
  have r_L5 := sx_gr_L5 hR
  have r_L6 := sx_gr_L6 hR
  have r_L7 := sx_gr_L7 hR
  have r_gI := sx_gr_gI hR
  have r_gM := sx_gr_gM hR
  have r_gX := sx_gr_gX hR
  obtain ⟨t0, t1, t2, t3, t4, t5, t6, t7⟩ := g24
  rcases (show j = 0 ∨ j = 1 ∨ j = 2 ∨ j = 3 ∨ j = 4 ∨ j = 5 ∨ j = 6 ∨ j = 7 by omega) with rfl | rfl | rfl | rfl | rfl | rfl | rfl | rfl
  · exact sx_q_s_gndA_0 hG (by omega) (by omega) ⟨(fun j2 hj2 => (by rw [sx_au_o (by omega)]; exact g22.1 j2 hj2)), (fun h => (by omega))⟩ ⟨(by rw [sx_au_s rfl]; omega), (by rw [sx_au_o (by decide)]; omega), (by rw [sx_au_o (by decide)]; omega), (by rw [sx_au_o (by decide)]; omega), (by rw [sx_au_o (by decide)]; omega), (by rw [sx_au_o (by decide)]; omega), (by rw [sx_au_o (by decide)]; omega), (by rw [sx_au_o (by decide)]; omega)⟩
  · exact sx_q_s_gndA_1 hG (by omega) (by omega) ⟨(fun j2 hj2 => (by rw [sx_au_o (by omega)]; exact g22.1 j2 hj2)), (fun h => (by omega))⟩ ⟨(by rw [sx_au_o (by decide)]; omega), (by rw [sx_au_s rfl]; omega), (by rw [sx_au_o (by decide)]; omega), (by rw [sx_au_o (by decide)]; omega), (by rw [sx_au_o (by decide)]; omega), (by rw [sx_au_o (by decide)]; omega), (by rw [sx_au_o (by decide)]; omega), (by rw [sx_au_o (by decide)]; omega)⟩
  · exact sx_q_s_gndA_2 hG (by omega) (by omega) ⟨(fun j2 hj2 => (by rw [sx_au_o (by omega)]; exact g22.1 j2 hj2)), (fun h => (by omega))⟩ ⟨(by rw [sx_au_o (by decide)]; omega), (by rw [sx_au_o (by decide)]; omega), (by rw [sx_au_s rfl]; omega), (by rw [sx_au_o (by decide)]; omega), (by rw [sx_au_o (by decide)]; omega), (by rw [sx_au_o (by decide)]; omega), (by rw [sx_au_o (by decide)]; omega), (by rw [sx_au_o (by decide)]; omega)⟩
  · exact sx_q_s_gndA_3 hG (by omega) (by omega) ⟨(fun j2 hj2 => (by rw [sx_au_o (by omega)]; exact g22.1 j2 hj2)), (fun h => (by omega))⟩ ⟨(by rw [sx_au_o (by decide)]; omega), (by rw [sx_au_o (by decide)]; omega), (by rw [sx_au_o (by decide)]; omega), (by rw [sx_au_s rfl]; omega), (by rw [sx_au_o (by decide)]; omega), (by rw [sx_au_o (by decide)]; omega), (by rw [sx_au_o (by decide)]; omega), (by rw [sx_au_o (by decide)]; omega)⟩
  · exact sx_q_s_gndA_4 hG (by omega) (by omega) ⟨(fun j2 hj2 => (by rw [sx_au_o (by omega)]; exact g22.1 j2 hj2)), (fun h => (by omega))⟩ ⟨(by rw [sx_au_o (by decide)]; omega), (by rw [sx_au_o (by decide)]; omega), (by rw [sx_au_o (by decide)]; omega), (by rw [sx_au_o (by decide)]; omega), (by rw [sx_au_s rfl]; omega), (by rw [sx_au_o (by decide)]; omega), (by rw [sx_au_o (by decide)]; omega), (by rw [sx_au_o (by decide)]; omega)⟩
  · exact sx_q_s_gndA_5 hG (by omega) (by omega) ⟨(fun j2 hj2 => (by rw [sx_au_o (by omega)]; exact g22.1 j2 hj2)), (fun h => (by omega))⟩ ⟨(by rw [sx_au_o (by decide)]; omega), (by rw [sx_au_o (by decide)]; omega), (by rw [sx_au_o (by decide)]; omega), (by rw [sx_au_o (by decide)]; omega), (by rw [sx_au_o (by decide)]; omega), (by rw [sx_au_s rfl]; omega), (by rw [sx_au_o (by decide)]; omega), (by rw [sx_au_o (by decide)]; omega)⟩
  · exact sx_q_s_gndA_6 hG (by omega) (by omega) ⟨(fun j2 hj2 => (by rw [sx_au_o (by omega)]; exact g22.1 j2 hj2)), (fun h => (by omega))⟩ ⟨(by rw [sx_au_o (by decide)]; omega), (by rw [sx_au_o (by decide)]; omega), (by rw [sx_au_o (by decide)]; omega), (by rw [sx_au_o (by decide)]; omega), (by rw [sx_au_o (by decide)]; omega), (by rw [sx_au_o (by decide)]; omega), (by rw [sx_au_s rfl]; omega), (by rw [sx_au_o (by decide)]; omega)⟩
  · exact sx_q_s_gndA_7 hG (by omega) (by omega) ⟨(fun j2 hj2 => (by rw [sx_au_o (by omega)]; exact g22.1 j2 hj2)), (fun h => (by omega))⟩ ⟨(by rw [sx_au_o (by decide)]; omega), (by rw [sx_au_o (by decide)]; omega), (by rw [sx_au_o (by decide)]; omega), (by rw [sx_au_o (by decide)]; omega), (by rw [sx_au_o (by decide)]; omega), (by rw [sx_au_o (by decide)]; omega), (by rw [sx_au_o (by decide)]; omega), (by rw [sx_au_s rfl]; omega)⟩
theorem sx_p_s_gndB : sx_okr sx_GG true 104 sx_r_s_gndB := by
  intro γ A j y hG hR hj hlo hhi hl hn
  rw [show (sx_cell.get 104).2.2.1 = 8 from by decide +kernel] at hj
  rw [show (sx_cell.get 104).2.2.2.1 = (-9223372036854775808) from by decide +kernel] at hlo
  rw [show (sx_cell.get 104).2.2.2.2.1 = 9223372036854775807 from by decide +kernel] at hhi
  clear hn
  have hG0 := hG
  obtain ⟨g0, g1, g2, g3, g4, g5, g6, g7, g8, g9, g10, g11, g12, g13, g14, g15, g16, g17, g18, g19, g20, g21, g22, g23, g24⟩ := hG0
  have r_L0 := sx_gr_L0 hR
  have r_L1 := sx_gr_L1 hR
  have r_L2 := sx_gr_L2 hR
  have r_L3 := sx_gr_L3 hR
  have r_L4 := sx_gr_L4 hR
  have r_L5 := sx_gr_L5 hR
  have r_L6 := sx_gr_L6 hR
  have r_L7 := sx_gr_L7 hR
  have r_gI := sx_gr_gI hR
  have r_gM := sx_gr_gM hR
  have r_gX := sx_gr_gX hR
  obtain ⟨t0, t1, t2, t3, t4, t5, t6, t7⟩ := g24
  rcases (show j = 0 ∨ j = 1 ∨ j = 2 ∨ j = 3 ∨ j = 4 ∨ j = 5 ∨ j = 6 ∨ j = 7 by omega) with rfl | rfl | rfl | rfl | rfl | rfl | rfl | rfl
  · exact sx_q_s_gndB_0 hG (by omega) (by omega) ⟨(fun j2 hj2 => (by omega)), (fun h => (by omega))⟩ ⟨(by rw [sx_au_s rfl]; omega), (by rw [sx_au_o (by decide)]; omega), (by rw [sx_au_o (by decide)]; omega), (by rw [sx_au_o (by decide)]; omega), (by rw [sx_au_o (by decide)]; omega), (by rw [sx_au_o (by decide)]; omega), (by rw [sx_au_o (by decide)]; omega), (by rw [sx_au_o (by decide)]; omega)⟩
  · exact sx_q_s_gndB_1 hG (by omega) (by omega) ⟨(fun j2 hj2 => (by omega)), (fun h => (by omega))⟩ ⟨(by rw [sx_au_o (by decide)]; omega), (by rw [sx_au_s rfl]; omega), (by rw [sx_au_o (by decide)]; omega), (by rw [sx_au_o (by decide)]; omega), (by rw [sx_au_o (by decide)]; omega), (by rw [sx_au_o (by decide)]; omega), (by rw [sx_au_o (by decide)]; omega), (by rw [sx_au_o (by decide)]; omega)⟩
  · exact sx_q_s_gndB_2 hG (by omega) (by omega) ⟨(fun j2 hj2 => (by omega)), (fun h => (by omega))⟩ ⟨(by rw [sx_au_o (by decide)]; omega), (by rw [sx_au_o (by decide)]; omega), (by rw [sx_au_s rfl]; omega), (by rw [sx_au_o (by decide)]; omega), (by rw [sx_au_o (by decide)]; omega), (by rw [sx_au_o (by decide)]; omega), (by rw [sx_au_o (by decide)]; omega), (by rw [sx_au_o (by decide)]; omega)⟩
  · exact sx_q_s_gndB_3 hG (by omega) (by omega) ⟨(fun j2 hj2 => (by omega)), (fun h => (by omega))⟩ ⟨(by rw [sx_au_o (by decide)]; omega), (by rw [sx_au_o (by decide)]; omega), (by rw [sx_au_o (by decide)]; omega), (by rw [sx_au_s rfl]; omega), (by rw [sx_au_o (by decide)]; omega), (by rw [sx_au_o (by decide)]; omega), (by rw [sx_au_o (by decide)]; omega), (by rw [sx_au_o (by decide)]; omega)⟩
  · exact sx_q_s_gndB_4 hG (by omega) (by omega) ⟨(fun j2 hj2 => (by omega)), (fun h => (by omega))⟩ ⟨(by rw [sx_au_o (by decide)]; omega), (by rw [sx_au_o (by decide)]; omega), (by rw [sx_au_o (by decide)]; omega), (by rw [sx_au_o (by decide)]; omega), (by rw [sx_au_s rfl]; omega), (by rw [sx_au_o (by decide)]; omega), (by rw [sx_au_o (by decide)]; omega), (by rw [sx_au_o (by decide)]; omega)⟩
  · exact sx_q_s_gndB_5 hG (by omega) (by omega) ⟨(fun j2 hj2 => (by omega)), (fun h => (by omega))⟩ ⟨(by rw [sx_au_o (by decide)]; omega), (by rw [sx_au_o (by decide)]; omega), (by rw [sx_au_o (by decide)]; omega), (by rw [sx_au_o (by decide)]; omega), (by rw [sx_au_o (by decide)]; omega), (by rw [sx_au_s rfl]; omega), (by rw [sx_au_o (by decide)]; omega), (by rw [sx_au_o (by decide)]; omega)⟩
  · exact sx_q_s_gndB_6 hG (by omega) (by omega) ⟨(fun j2 hj2 => (by omega)), (fun h => (by omega))⟩ ⟨(by rw [sx_au_o (by decide)]; omega), (by rw [sx_au_o (by decide)]; omega), (by rw [sx_au_o (by decide)]; omega), (by rw [sx_au_o (by decide)]; omega), (by rw [sx_au_o (by decide)]; omega), (by rw [sx_au_o (by decide)]; omega), (by rw [sx_au_s rfl]; omega), (by rw [sx_au_o (by decide)]; omega)⟩
  · exact sx_q_s_gndB_7 hG (by omega) (by omega) ⟨(fun j2 hj2 => (by omega)), (fun h => (by omega))⟩ ⟨(by rw [sx_au_o (by decide)]; omega), (by rw [sx_au_o (by decide)]; omega), (by rw [sx_au_o (by decide)]; omega), (by rw [sx_au_o (by decide)]; omega), (by rw [sx_au_o (by decide)]; omega), (by rw [sx_au_o (by decide)]; omega), (by rw [sx_au_o (by decide)]; omega), (by rw [sx_au_s rfl]; omega)⟩
theorem sx_p_s_tx : sx_okr sx_GG true 110 sx_r_s_tx := by
  intro γ A j y hG hR hj hlo hhi hl hn
  rw [show (sx_cell.get 110).2.2.1 = 300 from by decide +kernel] at hj
  rw [show (sx_cell.get 110).2.2.2.1 = (-128) from by decide +kernel] at hlo
  rw [show (sx_cell.get 110).2.2.2.2.1 = 127 from by decide +kernel] at hhi
  clear hn
  have hG0 := hG
  obtain ⟨g0, g1, g2, g3, g4, g5, g6, g7, g8, g9, g10, g11, g12, g13, g14, g15, g16, g17, g18, g19, g20, g21, g22, g23, g24⟩ := hG0
  have r_tI := sx_gr_tI hR
  have r_tV := sx_gr_tV hR
  exact sx_q_s_tx_0 hG (fun h => by omega)
theorem sx_p_s_sayA : sx_okr sx_GG true 111 sx_r_s_sayA := by
  intro γ A j y hG hR hj hlo hhi hl hn
  rw [show (sx_cell.get 111).2.2.1 = 8 from by decide +kernel] at hj
  rw [show (sx_cell.get 111).2.2.2.1 = 0 from by decide +kernel] at hlo
  rw [show (sx_cell.get 111).2.2.2.2.1 = 12 from by decide +kernel] at hhi
  have n0 : 0 ≤ 0 + (1 * y + 0) := hn _ (List.Mem.head _)
  have n1 : 0 ≤ 0 + ((-1) * y + 0) := hn _ (List.Mem.tail _ (List.Mem.head _))
  have n2 : 0 ≤ (-1) + ((-1) * γ 18461 + 0) := hn _ (List.Mem.tail _ (List.Mem.tail _ (List.Mem.head _)))
  clear hn
  have hG0 := hG
  obtain ⟨g0, g1, g2, g3, g4, g5, g6, g7, g8, g9, g10, g11, g12, g13, g14, g15, g16, g17, g18, g19, g20, g21, g22, g23, g24⟩ := hG0
  have r_D := sx_gr_D hR
  have r_cO := sx_gr_cO hR
  have r_cS := sx_gr_cS hR
  have r_cY := sx_gr_cY hR
  have r_cp := sx_gr_cp hR
  have r_rE := sx_gr_rE hR
  have r_rF := sx_gr_rF hR
  have r_rK := sx_gr_rK hR
  have r_rL := sx_gr_rL hR
  have r_rN := sx_gr_rN hR
  have r_rP := sx_gr_rP hR
  have r_rQ := sx_gr_rQ hR
  have r_rSq := sx_gr_rSq hR
  have r_rSs := sx_gr_rSs hR
  have r_rT0 := sx_gr_rT0 hR
  have r_rT1 := sx_gr_rT1 hR
  have r_rV := sx_gr_rV hR
  have r_yp := sx_gr_yp hR
  refine sx_q_s_sayA_0 hG (fun p hp8 hne => ?_) (sx_x2_z (by omega) (by omega) (by omega) (by omega) (by omega) (by omega))
  by_cases e : p = j
  · rw [sx_au_s e]
    exact ⟨by omega, fun s a b => by omega⟩
  · rw [sx_au_o e]
    exact g11 p hp8 hne
theorem sx_p_s_sayB : sx_okr sx_GG true 111 sx_r_s_sayB := by
  intro γ A j y hG hR hj hlo hhi hl hn
  rw [show (sx_cell.get 111).2.2.1 = 8 from by decide +kernel] at hj
  rw [show (sx_cell.get 111).2.2.2.1 = 0 from by decide +kernel] at hlo
  rw [show (sx_cell.get 111).2.2.2.2.1 = 12 from by decide +kernel] at hhi
  have n0 : 0 ≤ 0 + (1 * γ 18461 + 0) := hn _ (List.Mem.head _)
  have n1 : 0 ≤ 0 + ((-1) * γ 18461 + (1 * (j : Int) + 0)) := hn _ (List.Mem.tail _ (List.Mem.head _))
  have n2 : 0 ≤ 0 + (1 * γ 18461 + ((-1) * (j : Int) + 0)) := hn _ (List.Mem.tail _ (List.Mem.tail _ (List.Mem.head _)))
  have n3 : 0 ≤ 0 + ((-1) * γ 18488 + (1 * y + 0)) := hn _ (List.Mem.tail _ (List.Mem.tail _ (List.Mem.tail _ (List.Mem.head _))))
  have n4 : 0 ≤ 0 + (1 * γ 18488 + ((-1) * y + 0)) := hn _ (List.Mem.tail _ (List.Mem.tail _ (List.Mem.tail _ (List.Mem.tail _ (List.Mem.head _)))))
  have n5 : 0 ≤ 96 + ((-1) * γ 18484 + (1 * γ 18488 + 0)) := hn _ (List.Mem.tail _ (List.Mem.tail _ (List.Mem.tail _ (List.Mem.tail _ (List.Mem.tail _ (List.Mem.head _))))))
  have n6 : 0 ≤ (-96) + (1 * γ 18484 + ((-1) * γ 18488 + 0)) := hn _ (List.Mem.tail _ (List.Mem.tail _ (List.Mem.tail _ (List.Mem.tail _ (List.Mem.tail _ (List.Mem.tail _ (List.Mem.head _)))))))
  have n7 : 0 ≤ 0 + ((-1) * γ 18479 + (1 * γ 18486 + 0)) := hn _ (List.Mem.tail _ (List.Mem.tail _ (List.Mem.tail _ (List.Mem.tail _ (List.Mem.tail _ (List.Mem.tail _ (List.Mem.tail _ (List.Mem.head _))))))))
  have n8 : 0 ≤ 0 + (1 * γ 18479 + ((-1) * γ 18486 + 0)) := hn _ (List.Mem.tail _ (List.Mem.tail _ (List.Mem.tail _ (List.Mem.tail _ (List.Mem.tail _ (List.Mem.tail _ (List.Mem.tail _ (List.Mem.tail _ (List.Mem.head _)))))))))
  have n9 : 0 ≤ 0 + ((-1) * γ 18475 + (1 * γ 18485 + 0)) := hn _ (List.Mem.tail _ (List.Mem.tail _ (List.Mem.tail _ (List.Mem.tail _ (List.Mem.tail _ (List.Mem.tail _ (List.Mem.tail _ (List.Mem.tail _ (List.Mem.tail _ (List.Mem.head _))))))))))
  have n10 : 0 ≤ 0 + (1 * γ 18475 + ((-1) * γ 18485 + 0)) := hn _ (List.Mem.tail _ (List.Mem.tail _ (List.Mem.tail _ (List.Mem.tail _ (List.Mem.tail _ (List.Mem.tail _ (List.Mem.tail _ (List.Mem.tail _ (List.Mem.tail _ (List.Mem.tail _ (List.Mem.head _)))))))))))
  have n11 : 0 ≤ 2880 + ((-1) * γ 18475 + 0) := hn _ (List.Mem.tail _ (List.Mem.tail _ (List.Mem.tail _ (List.Mem.tail _ (List.Mem.tail _ (List.Mem.tail _ (List.Mem.tail _ (List.Mem.tail _ (List.Mem.tail _ (List.Mem.tail _ (List.Mem.tail _ (List.Mem.head _))))))))))))
  have n12 : 0 ≤ 1440 + ((-1) * γ 18479 + 0) := hn _ (List.Mem.tail _ (List.Mem.tail _ (List.Mem.tail _ (List.Mem.tail _ (List.Mem.tail _ (List.Mem.tail _ (List.Mem.tail _ (List.Mem.tail _ (List.Mem.tail _ (List.Mem.tail _ (List.Mem.tail _ (List.Mem.tail _ (List.Mem.head _)))))))))))))
  clear hn
  have hG0 := hG
  obtain ⟨g0, g1, g2, g3, g4, g5, g6, g7, g8, g9, g10, g11, g12, g13, g14, g15, g16, g17, g18, g19, g20, g21, g22, g23, g24⟩ := hG0
  have r_D := sx_gr_D hR
  have r_cO := sx_gr_cO hR
  have r_cS := sx_gr_cS hR
  have r_cY := sx_gr_cY hR
  have r_cp := sx_gr_cp hR
  have r_lI := sx_gr_lI hR
  have r_lV := sx_gr_lV hR
  have r_lw := sx_gr_lw hR
  have r_rE := sx_gr_rE hR
  have r_rF := sx_gr_rF hR
  have r_rK := sx_gr_rK hR
  have r_rL := sx_gr_rL hR
  have r_rN := sx_gr_rN hR
  have r_rP := sx_gr_rP hR
  have r_rQ := sx_gr_rQ hR
  have r_rSq := sx_gr_rSq hR
  have r_rSs := sx_gr_rSs hR
  have r_rT0 := sx_gr_rT0 hR
  have r_rT1 := sx_gr_rT1 hR
  have r_rV := sx_gr_rV hR
  have r_sE := sx_gr_sE hR
  have r_sa := sx_gr_sa hR
  have r_sb := sx_gr_sb hR
  have r_sp := sx_gr_sp hR
  have r_tB := sx_gr_tB hR
  have r_tE := sx_gr_tE hR
  have r_w0 := sx_gr_w0 hR
  have r_w1 := sx_gr_w1 hR
  have r_wa := sx_gr_wa hR
  have r_wh := sx_gr_wh hR
  have r_wp := sx_gr_wp hR
  have r_yp := sx_gr_yp hR
  obtain ⟨w_1, w_2, w_3, w_4, w_5, w_6, w_7, w_8, w_9, w_10⟩ := g13
  obtain ⟨d_1, d_2, d_3, d_4, d_5, d_6, d_7, d_8⟩ := g14 (by omega)
  refine sx_q_s_sayB_0 hG (fun p hp8 hne => ?_) (sx_x2_z (by omega) (by omega) (by omega) (by omega) (by omega) (by omega)) (sx_x4_n (by omega)) (sx_x5_0 (by omega))
  by_cases e : p = j
  · rw [sx_au_s e]
    refine ⟨by omega, fun s a b => ?_⟩
    obtain ⟨i, hi⟩ : ∃ i, s = 12 * (γ 18461).toNat + i := ⟨s - 12 * (γ 18461).toNat, by omega⟩
    subst hi
    obtain ⟨c1, c2, c3, c4⟩ := d_5 i (by omega)
    obtain ⟨⟨s1, s2, s3, s4⟩, t1, t2, t3⟩ := w_10 (96 + i) (by omega) (by omega)
    unfold sx_p1 sx_s1
    rw [c1, c2, c3, c4]
    refine ⟨⟨by omega, by omega, by omega, sx_ho_s (by omega) (by omega) (by omega) (fun k k1 k2 => ?_) s4⟩, by omega, by omega, by omega, fun q q1 q2 => ?_⟩
    · rw [show k + (A 113 (96 + i) + 320 * γ 18461 - 2560).toNat - (A 113 (96 + i)).toNat = k + 320 * (γ 18461).toNat - 2560 by omega]
      exact d_1 k (by omega) (by omega)
    · obtain ⟨q0, hq0⟩ : ∃ q0, q = q0 + 160 * (γ 18461).toNat - 1280 ∧ 1280 ≤ q0 := ⟨q + 1280 - 160 * (γ 18461).toNat, by omega, by omega⟩
      obtain ⟨hq1, hq2⟩ := hq0
      obtain ⟨e1, e2, e3⟩ := d_2 q0 hq2 (by omega)
      obtain ⟨o1, o2, o3, o4, o5, o6⟩ := w_6 q0 hq2 (by omega)
      rw [hq1]
      unfold sx_o1
      rw [e1, e2, e3]
      refine ⟨by omega, by omega, by omega, by omega, sx_ho_s (by omega) (by omega) (by omega) (fun k k1 k2 => ?_) o5, sx_ho_s (by omega) (by omega) (by omega) (fun k k1 k2 => ?_) o6⟩
      · rw [show k + (A 119 q0 + 320 * γ 18461 - 2560).toNat - (A 119 q0).toNat = k + 320 * (γ 18461).toNat - 2560 by omega]
        exact d_1 k (by omega) (by omega)
      · rw [show k + (A 120 q0 + 320 * γ 18461 - 2560).toNat - (A 120 q0).toNat = k + 320 * (γ 18461).toNat - 2560 by omega]
        exact d_1 k (by omega) (by omega)
  · rw [sx_au_o e]
    exact g11 p hp8 (by omega)
theorem sx_p_s_sfA : sx_okr sx_GG true 113 sx_r_s_sfA := by
  intro γ A j y hG hR hj hlo hhi hl hn
  rw [show (sx_cell.get 113).2.2.1 = 108 from by decide +kernel] at hj
  rw [show (sx_cell.get 113).2.2.2.1 = 0 from by decide +kernel] at hlo
  rw [show (sx_cell.get 113).2.2.2.2.1 = 2900 from by decide +kernel] at hhi
  have n0 : 0 ≤ 0 + ((-1) * γ 18484 + (1 * (j : Int) + 0)) := hn _ (List.Mem.head _)
  have n1 : 0 ≤ 0 + (1 * γ 18484 + ((-1) * (j : Int) + 0)) := hn _ (List.Mem.tail _ (List.Mem.head _))
  have n2 : 0 ≤ 0 + ((-1) * γ 18475 + (1 * y + 0)) := hn _ (List.Mem.tail _ (List.Mem.tail _ (List.Mem.head _)))
  have n3 : 0 ≤ 0 + (1 * γ 18475 + ((-1) * y + 0)) := hn _ (List.Mem.tail _ (List.Mem.tail _ (List.Mem.tail _ (List.Mem.head _))))
  have n4 : 0 ≤ (-1) + ((-1) * γ 18461 + 0) := hn _ (List.Mem.tail _ (List.Mem.tail _ (List.Mem.tail _ (List.Mem.tail _ (List.Mem.head _)))))
  clear hn
  have hG0 := hG
  obtain ⟨g0, g1, g2, g3, g4, g5, g6, g7, g8, g9, g10, g11, g12, g13, g14, g15, g16, g17, g18, g19, g20, g21, g22, g23, g24⟩ := hG0
  have r_D := sx_gr_D hR
  have r_cO := sx_gr_cO hR
  have r_cS := sx_gr_cS hR
  have r_cY := sx_gr_cY hR
  have r_cp := sx_gr_cp hR
  have r_lI := sx_gr_lI hR
  have r_lV := sx_gr_lV hR
  have r_lw := sx_gr_lw hR
  have r_rE := sx_gr_rE hR
  have r_rF := sx_gr_rF hR
  have r_rK := sx_gr_rK hR
  have r_rL := sx_gr_rL hR
  have r_rN := sx_gr_rN hR
  have r_rP := sx_gr_rP hR
  have r_rQ := sx_gr_rQ hR
  have r_rSq := sx_gr_rSq hR
  have r_rSs := sx_gr_rSs hR
  have r_rT0 := sx_gr_rT0 hR
  have r_rT1 := sx_gr_rT1 hR
  have r_rV := sx_gr_rV hR
  have r_sE := sx_gr_sE hR
  have r_sa := sx_gr_sa hR
  have r_sb := sx_gr_sb hR
  have r_sp := sx_gr_sp hR
  have r_tB := sx_gr_tB hR
  have r_tE := sx_gr_tE hR
  have r_w0 := sx_gr_w0 hR
  have r_w1 := sx_gr_w1 hR
  have r_wa := sx_gr_wa hR
  have r_wh := sx_gr_wh hR
  have r_wp := sx_gr_wp hR
  have r_yp := sx_gr_yp hR
  obtain ⟨w_1, w_2, w_3, w_4, w_5, w_6, w_7, w_8, w_9, w_10⟩ := g13
  exact sx_q_s_sfA_0 hG (sx_x1_c (fun p hp8 hne => ⟨by omega, rfl, fun i a b => rfl, fun q2 a b => ⟨rfl, rfl, rfl⟩, fun s2 a b => ⟨rfl, rfl, (sx_au_o (by omega)), rfl⟩⟩) g11) (sx_x2_z (by omega) (by omega) (by omega) (by omega) (by omega) (by omega)) ⟨by omega, sx_ho_0 (by omega), (by rw [show ((0 + (1 * y + 0)) - (0 + (1 * y + 0))).toNat = 0 by omega]; show (0 : Int) = _; omega), (fun e => by omega), (fun e => by omega), (fun q2 a b => sx_o1_c (by omega) (by omega) (fun i a1 a2 => rfl) rfl rfl rfl (w_6 q2 a b)), (fun _ => ⟨by rw [show (γ 18484).toNat = j by omega, sx_au_s rfl]; omega, by omega⟩), (fun e => by omega), (fun e => by omega), (fun s2 a b => ⟨sx_s1_c (by omega) (by omega) (fun i a1 a2 => rfl) (sx_au_o (by omega)) rfl (w_10 s2 a b).1, (w_10 s2 a b).2⟩)⟩ (sx_x4_n (by omega)) (sx_x5_0 (by omega))
theorem sx_p_s_sfC : sx_okr sx_GG true 113 sx_r_s_sfC := by
  intro γ A j y hG hR hj hlo hhi hl hn
  rw [show (sx_cell.get 113).2.2.1 = 108 from by decide +kernel] at hj
  rw [show (sx_cell.get 113).2.2.2.1 = 0 from by decide +kernel] at hlo
  rw [show (sx_cell.get 113).2.2.2.2.1 = 2900 from by decide +kernel] at hhi
  have n0 : 0 ≤ 0 + (1 * γ 18461 + 0) := hn _ (List.Mem.head _)
  have n1 : 0 ≤ 0 + ((-12) * γ 18461 + ((-1) * γ 18488 + (1 * (j : Int) + 0))) := hn _ (List.Mem.tail _ (List.Mem.head _))
  have n2 : 0 ≤ 0 + (12 * γ 18461 + (1 * γ 18488 + ((-1) * (j : Int) + 0))) := hn _ (List.Mem.tail _ (List.Mem.tail _ (List.Mem.head _)))
  have n3 : 0 ≤ (-5) + (1 * γ 18498 + 0) := hn _ (List.Mem.tail _ (List.Mem.tail _ (List.Mem.tail _ (List.Mem.head _))))
  have n4 : 0 ≤ 5 + ((-1) * γ 18498 + 0) := hn _ (List.Mem.tail _ (List.Mem.tail _ (List.Mem.tail _ (List.Mem.tail _ (List.Mem.head _)))))
  have n5 : 0 ≤ (-96) + ((-1) * γ 18488 + (1 * γ 18499 + 0)) := hn _ (List.Mem.tail _ (List.Mem.tail _ (List.Mem.tail _ (List.Mem.tail _ (List.Mem.tail _ (List.Mem.head _))))))
  have n6 : 0 ≤ 96 + (1 * γ 18488 + ((-1) * γ 18499 + 0)) := hn _ (List.Mem.tail _ (List.Mem.tail _ (List.Mem.tail _ (List.Mem.tail _ (List.Mem.tail _ (List.Mem.tail _ (List.Mem.head _)))))))
  have n7 : 0 ≤ 2560 + ((-320) * γ 18461 + ((-1) * γ 18500 + (1 * y + 0))) := hn _ (List.Mem.tail _ (List.Mem.tail _ (List.Mem.tail _ (List.Mem.tail _ (List.Mem.tail _ (List.Mem.tail _ (List.Mem.tail _ (List.Mem.head _))))))))
  have n8 : 0 ≤ (-2560) + (320 * γ 18461 + (1 * γ 18500 + ((-1) * y + 0))) := hn _ (List.Mem.tail _ (List.Mem.tail _ (List.Mem.tail _ (List.Mem.tail _ (List.Mem.tail _ (List.Mem.tail _ (List.Mem.tail _ (List.Mem.tail _ (List.Mem.head _)))))))))
  have n9 : 0 ≤ (-97) + (1 * γ 18484 + ((-1) * γ 18488 + 0)) := hn _ (List.Mem.tail _ (List.Mem.tail _ (List.Mem.tail _ (List.Mem.tail _ (List.Mem.tail _ (List.Mem.tail _ (List.Mem.tail _ (List.Mem.tail _ (List.Mem.tail _ (List.Mem.head _))))))))))
  have n10 : 0 ≤ 0 + (1 * γ 18489 + 0) := hn _ (List.Mem.tail _ (List.Mem.tail _ (List.Mem.tail _ (List.Mem.tail _ (List.Mem.tail _ (List.Mem.tail _ (List.Mem.tail _ (List.Mem.tail _ (List.Mem.tail _ (List.Mem.tail _ (List.Mem.head _)))))))))))
  have n11 : 0 ≤ 0 + ((-1) * γ 18489 + 0) := hn _ (List.Mem.tail _ (List.Mem.tail _ (List.Mem.tail _ (List.Mem.tail _ (List.Mem.tail _ (List.Mem.tail _ (List.Mem.tail _ (List.Mem.tail _ (List.Mem.tail _ (List.Mem.tail _ (List.Mem.tail _ (List.Mem.head _))))))))))))
  clear hn
  have hG0 := hG
  obtain ⟨g0, g1, g2, g3, g4, g5, g6, g7, g8, g9, g10, g11, g12, g13, g14, g15, g16, g17, g18, g19, g20, g21, g22, g23, g24⟩ := hG0
  have r_D := sx_gr_D hR
  have r_cO := sx_gr_cO hR
  have r_cS := sx_gr_cS hR
  have r_cY := sx_gr_cY hR
  have r_cp := sx_gr_cp hR
  have r_lI := sx_gr_lI hR
  have r_lV := sx_gr_lV hR
  have r_lw := sx_gr_lw hR
  have r_rE := sx_gr_rE hR
  have r_rF := sx_gr_rF hR
  have r_rK := sx_gr_rK hR
  have r_rL := sx_gr_rL hR
  have r_rN := sx_gr_rN hR
  have r_rP := sx_gr_rP hR
  have r_rQ := sx_gr_rQ hR
  have r_rSq := sx_gr_rSq hR
  have r_rSs := sx_gr_rSs hR
  have r_rT0 := sx_gr_rT0 hR
  have r_rT1 := sx_gr_rT1 hR
  have r_rV := sx_gr_rV hR
  have r_sE := sx_gr_sE hR
  have r_sa := sx_gr_sa hR
  have r_sb := sx_gr_sb hR
  have r_sp := sx_gr_sp hR
  have r_tB := sx_gr_tB hR
  have r_tE := sx_gr_tE hR
  have r_w0 := sx_gr_w0 hR
  have r_w1 := sx_gr_w1 hR
  have r_wa := sx_gr_wa hR
  have r_wh := sx_gr_wh hR
  have r_wp := sx_gr_wp hR
  have r_yp := sx_gr_yp hR
  obtain ⟨d_1, d_2, d_3, d_4, d_5, d_6, d_7, d_8⟩ := g14 (by omega)
  obtain ⟨l_1, l_2, l_3, l_4, l_5, l_6, l_7, l_8⟩ := g15
  have hv := l_5 (by omega)
  exact sx_q_s_sfC_0 hG (sx_x1_c (fun p hp8 hne => ⟨by omega, rfl, fun i a b => rfl, fun q2 a b => ⟨rfl, rfl, rfl⟩, fun s2 a b => ⟨rfl, rfl, (sx_au_o (by omega)), rfl⟩⟩) g11) (sx_x2_z (by omega) (by omega) (by omega) (by omega) (by omega) (by omega)) (sx_x3_c (by omega) (by omega) (by omega) (by omega) (by omega) (fun i a b => rfl) (fun q2 a => ⟨rfl, rfl, rfl⟩) (fun s2 a => ⟨rfl, rfl, sx_au_o (by omega), rfl⟩) g13) (fun _ => ⟨d_1, d_2, d_3, d_4, fun i a => ⟨(by rw [sx_au_o (by omega), sx_au_o (by omega)]; exact (d_5 i a).1), (d_5 i a).2.1, (d_5 i a).2.2.1, (d_5 i a).2.2.2⟩, (fun _ => by rw [sx_au_s (by omega), sx_au_o (by omega), show 96 + (γ 18488).toNat = (γ 18499).toNat by omega]; omega), (fun e => by omega), (fun e => by omega)⟩) (sx_x5_0 (by omega))
theorem sx_p_s_stA : sx_okr sx_GG true 114 sx_r_s_stA := by
  intro γ A j y hG hR hj hlo hhi hl hn
  rw [show (sx_cell.get 114).2.2.1 = 108 from by decide +kernel] at hj
  rw [show (sx_cell.get 114).2.2.2.1 = 0 from by decide +kernel] at hlo
  rw [show (sx_cell.get 114).2.2.2.2.1 = 2900 from by decide +kernel] at hhi
  have n0 : 0 ≤ 0 + ((-1) * γ 18484 + (1 * (j : Int) + 0)) := hn _ (List.Mem.head _)
  have n1 : 0 ≤ 0 + (1 * γ 18484 + ((-1) * (j : Int) + 0)) := hn _ (List.Mem.tail _ (List.Mem.head _))
  have n2 : 0 ≤ (-1) + (1 * γ 18480 + 0) := hn _ (List.Mem.tail _ (List.Mem.tail _ (List.Mem.head _)))
  have n3 : 0 ≤ 1 + ((-1) * γ 18480 + 0) := hn _ (List.Mem.tail _ (List.Mem.tail _ (List.Mem.tail _ (List.Mem.head _))))
  have n4 : 0 ≤ 0 + ((-1) * γ 18475 + (1 * y + 0)) := hn _ (List.Mem.tail _ (List.Mem.tail _ (List.Mem.tail _ (List.Mem.tail _ (List.Mem.head _)))))
  have n5 : 0 ≤ 0 + (1 * γ 18475 + ((-1) * y + 0)) := hn _ (List.Mem.tail _ (List.Mem.tail _ (List.Mem.tail _ (List.Mem.tail _ (List.Mem.tail _ (List.Mem.head _))))))
  have n6 : 0 ≤ 0 + ((-1) * γ 18474 + (1 * γ 18481 + 0)) := hn _ (List.Mem.tail _ (List.Mem.tail _ (List.Mem.tail _ (List.Mem.tail _ (List.Mem.tail _ (List.Mem.tail _ (List.Mem.head _)))))))
  have n7 : 0 ≤ 0 + (1 * γ 18474 + ((-1) * γ 18481 + 0)) := hn _ (List.Mem.tail _ (List.Mem.tail _ (List.Mem.tail _ (List.Mem.tail _ (List.Mem.tail _ (List.Mem.tail _ (List.Mem.tail _ (List.Mem.head _))))))))
  have n8 : 0 ≤ (-1) + ((-1) * γ 18461 + 0) := hn _ (List.Mem.tail _ (List.Mem.tail _ (List.Mem.tail _ (List.Mem.tail _ (List.Mem.tail _ (List.Mem.tail _ (List.Mem.tail _ (List.Mem.tail _ (List.Mem.head _)))))))))
  clear hn
  have hG0 := hG
  obtain ⟨g0, g1, g2, g3, g4, g5, g6, g7, g8, g9, g10, g11, g12, g13, g14, g15, g16, g17, g18, g19, g20, g21, g22, g23, g24⟩ := hG0
  have r_D := sx_gr_D hR
  have r_cO := sx_gr_cO hR
  have r_cS := sx_gr_cS hR
  have r_cY := sx_gr_cY hR
  have r_cp := sx_gr_cp hR
  have r_lI := sx_gr_lI hR
  have r_lV := sx_gr_lV hR
  have r_lw := sx_gr_lw hR
  have r_rE := sx_gr_rE hR
  have r_rF := sx_gr_rF hR
  have r_rK := sx_gr_rK hR
  have r_rL := sx_gr_rL hR
  have r_rN := sx_gr_rN hR
  have r_rP := sx_gr_rP hR
  have r_rQ := sx_gr_rQ hR
  have r_rSq := sx_gr_rSq hR
  have r_rSs := sx_gr_rSs hR
  have r_rT0 := sx_gr_rT0 hR
  have r_rT1 := sx_gr_rT1 hR
  have r_rV := sx_gr_rV hR
  have r_sE := sx_gr_sE hR
  have r_sa := sx_gr_sa hR
  have r_sb := sx_gr_sb hR
  have r_sp := sx_gr_sp hR
  have r_tB := sx_gr_tB hR
  have r_tE := sx_gr_tE hR
  have r_w0 := sx_gr_w0 hR
  have r_w1 := sx_gr_w1 hR
  have r_wa := sx_gr_wa hR
  have r_wh := sx_gr_wh hR
  have r_wp := sx_gr_wp hR
  have r_yp := sx_gr_yp hR
  obtain ⟨w_1, w_2, w_3, w_4, w_5, w_6, w_7, w_8, w_9, w_10⟩ := g13
  have h7 := w_7 (by omega)
  exact sx_q_s_stA_0 hG (sx_x1_c (fun p hp8 hne => ⟨by omega, rfl, fun i a b => rfl, fun q2 a b => ⟨rfl, rfl, rfl⟩, fun s2 a b => ⟨rfl, rfl, rfl, (sx_au_o (by omega))⟩⟩) g11) (sx_x2_z (by omega) (by omega) (by omega) (by omega) (by omega) (by omega)) ⟨w_1, w_2, w_3, w_4, w_5, w_6, (fun _ => h7), (fun _ => ⟨by rw [show (γ 18484).toNat = j by omega, sx_au_s rfl]; omega, by omega, by omega, sx_ho_e w_2 (by omega) (by omega)⟩), (fun e => by omega), (fun s2 a b => ⟨sx_s1_c (by omega) (by omega) (fun i a1 a2 => rfl) rfl (sx_au_o (by omega)) (w_10 s2 a b).1, (w_10 s2 a b).2⟩)⟩ (sx_x4_n (by omega)) (sx_x5_0 (by omega))
theorem sx_p_s_stC : sx_okr sx_GG true 114 sx_r_s_stC := by
  intro γ A j y hG hR hj hlo hhi hl hn
  rw [show (sx_cell.get 114).2.2.1 = 108 from by decide +kernel] at hj
  rw [show (sx_cell.get 114).2.2.2.1 = 0 from by decide +kernel] at hlo
  rw [show (sx_cell.get 114).2.2.2.2.1 = 2900 from by decide +kernel] at hhi
  have n0 : 0 ≤ 0 + (1 * γ 18461 + 0) := hn _ (List.Mem.head _)
  have n1 : 0 ≤ 0 + ((-12) * γ 18461 + ((-1) * γ 18488 + (1 * (j : Int) + 0))) := hn _ (List.Mem.tail _ (List.Mem.head _))
  have n2 : 0 ≤ 0 + (12 * γ 18461 + (1 * γ 18488 + ((-1) * (j : Int) + 0))) := hn _ (List.Mem.tail _ (List.Mem.tail _ (List.Mem.head _)))
  have n3 : 0 ≤ (-6) + (1 * γ 18498 + 0) := hn _ (List.Mem.tail _ (List.Mem.tail _ (List.Mem.tail _ (List.Mem.head _))))
  have n4 : 0 ≤ 6 + ((-1) * γ 18498 + 0) := hn _ (List.Mem.tail _ (List.Mem.tail _ (List.Mem.tail _ (List.Mem.tail _ (List.Mem.head _)))))
  have n5 : 0 ≤ (-96) + ((-1) * γ 18488 + (1 * γ 18499 + 0)) := hn _ (List.Mem.tail _ (List.Mem.tail _ (List.Mem.tail _ (List.Mem.tail _ (List.Mem.tail _ (List.Mem.head _))))))
  have n6 : 0 ≤ 96 + (1 * γ 18488 + ((-1) * γ 18499 + 0)) := hn _ (List.Mem.tail _ (List.Mem.tail _ (List.Mem.tail _ (List.Mem.tail _ (List.Mem.tail _ (List.Mem.tail _ (List.Mem.head _)))))))
  have n7 : 0 ≤ 2560 + ((-320) * γ 18461 + ((-1) * γ 18500 + (1 * y + 0))) := hn _ (List.Mem.tail _ (List.Mem.tail _ (List.Mem.tail _ (List.Mem.tail _ (List.Mem.tail _ (List.Mem.tail _ (List.Mem.tail _ (List.Mem.head _))))))))
  have n8 : 0 ≤ (-2560) + (320 * γ 18461 + (1 * γ 18500 + ((-1) * y + 0))) := hn _ (List.Mem.tail _ (List.Mem.tail _ (List.Mem.tail _ (List.Mem.tail _ (List.Mem.tail _ (List.Mem.tail _ (List.Mem.tail _ (List.Mem.tail _ (List.Mem.head _)))))))))
  have n9 : 0 ≤ (-97) + (1 * γ 18484 + ((-1) * γ 18488 + 0)) := hn _ (List.Mem.tail _ (List.Mem.tail _ (List.Mem.tail _ (List.Mem.tail _ (List.Mem.tail _ (List.Mem.tail _ (List.Mem.tail _ (List.Mem.tail _ (List.Mem.tail _ (List.Mem.head _))))))))))
  have n10 : 0 ≤ (-1) + (1 * γ 18489 + 0) := hn _ (List.Mem.tail _ (List.Mem.tail _ (List.Mem.tail _ (List.Mem.tail _ (List.Mem.tail _ (List.Mem.tail _ (List.Mem.tail _ (List.Mem.tail _ (List.Mem.tail _ (List.Mem.tail _ (List.Mem.head _)))))))))))
  have n11 : 0 ≤ 1 + ((-1) * γ 18489 + 0) := hn _ (List.Mem.tail _ (List.Mem.tail _ (List.Mem.tail _ (List.Mem.tail _ (List.Mem.tail _ (List.Mem.tail _ (List.Mem.tail _ (List.Mem.tail _ (List.Mem.tail _ (List.Mem.tail _ (List.Mem.tail _ (List.Mem.head _))))))))))))
  clear hn
  have hG0 := hG
  obtain ⟨g0, g1, g2, g3, g4, g5, g6, g7, g8, g9, g10, g11, g12, g13, g14, g15, g16, g17, g18, g19, g20, g21, g22, g23, g24⟩ := hG0
  have r_D := sx_gr_D hR
  have r_cO := sx_gr_cO hR
  have r_cS := sx_gr_cS hR
  have r_cY := sx_gr_cY hR
  have r_cp := sx_gr_cp hR
  have r_lI := sx_gr_lI hR
  have r_lV := sx_gr_lV hR
  have r_lw := sx_gr_lw hR
  have r_rE := sx_gr_rE hR
  have r_rF := sx_gr_rF hR
  have r_rK := sx_gr_rK hR
  have r_rL := sx_gr_rL hR
  have r_rN := sx_gr_rN hR
  have r_rP := sx_gr_rP hR
  have r_rQ := sx_gr_rQ hR
  have r_rSq := sx_gr_rSq hR
  have r_rSs := sx_gr_rSs hR
  have r_rT0 := sx_gr_rT0 hR
  have r_rT1 := sx_gr_rT1 hR
  have r_rV := sx_gr_rV hR
  have r_sE := sx_gr_sE hR
  have r_sa := sx_gr_sa hR
  have r_sb := sx_gr_sb hR
  have r_sp := sx_gr_sp hR
  have r_tB := sx_gr_tB hR
  have r_tE := sx_gr_tE hR
  have r_w0 := sx_gr_w0 hR
  have r_w1 := sx_gr_w1 hR
  have r_wa := sx_gr_wa hR
  have r_wh := sx_gr_wh hR
  have r_wp := sx_gr_wp hR
  have r_yp := sx_gr_yp hR
  obtain ⟨d_1, d_2, d_3, d_4, d_5, d_6, d_7, d_8⟩ := g14 (by omega)
  obtain ⟨l_1, l_2, l_3, l_4, l_5, l_6, l_7, l_8⟩ := g15
  have hv := l_6 (by omega)
  exact sx_q_s_stC_0 hG (sx_x1_c (fun p hp8 hne => ⟨by omega, rfl, fun i a b => rfl, fun q2 a b => ⟨rfl, rfl, rfl⟩, fun s2 a b => ⟨rfl, rfl, rfl, (sx_au_o (by omega))⟩⟩) g11) (sx_x2_z (by omega) (by omega) (by omega) (by omega) (by omega) (by omega)) (sx_x3_c (by omega) (by omega) (by omega) (by omega) (by omega) (fun i a b => rfl) (fun q2 a => ⟨rfl, rfl, rfl⟩) (fun s2 a => ⟨rfl, rfl, rfl, sx_au_o (by omega)⟩) g13) (fun _ => ⟨d_1, d_2, d_3, d_4, fun i a => ⟨(d_5 i a).1, (by rw [sx_au_o (by omega), sx_au_o (by omega)]; exact (d_5 i a).2.1), (d_5 i a).2.2.1, (d_5 i a).2.2.2⟩, (fun _ => d_6 (by omega)), (fun _ => by rw [sx_au_s (by omega), sx_au_o (by omega), show 96 + (γ 18488).toNat = (γ 18499).toNat by omega]; omega), (fun e => by omega)⟩) (sx_x5_0 (by omega))
theorem sx_p_s_tfA : sx_okr sx_GG true 115 sx_r_s_tfA := by
  intro γ A j y hG hR hj hlo hhi hl hn
  rw [show (sx_cell.get 115).2.2.1 = 108 from by decide +kernel] at hj
  rw [show (sx_cell.get 115).2.2.2.1 = 0 from by decide +kernel] at hlo
  rw [show (sx_cell.get 115).2.2.2.2.1 = 2000 from by decide +kernel] at hhi
  have n0 : 0 ≤ 0 + ((-1) * γ 18484 + (1 * (j : Int) + 0)) := hn _ (List.Mem.head _)
  have n1 : 0 ≤ 0 + (1 * γ 18484 + ((-1) * (j : Int) + 0)) := hn _ (List.Mem.tail _ (List.Mem.head _))
  have n2 : 0 ≤ (-2) + (1 * γ 18480 + 0) := hn _ (List.Mem.tail _ (List.Mem.tail _ (List.Mem.head _)))
  have n3 : 0 ≤ 2 + ((-1) * γ 18480 + 0) := hn _ (List.Mem.tail _ (List.Mem.tail _ (List.Mem.tail _ (List.Mem.head _))))
  have n4 : 0 ≤ 0 + ((-1) * γ 18479 + (1 * y + 0)) := hn _ (List.Mem.tail _ (List.Mem.tail _ (List.Mem.tail _ (List.Mem.tail _ (List.Mem.head _)))))
  have n5 : 0 ≤ 0 + (1 * γ 18479 + ((-1) * y + 0)) := hn _ (List.Mem.tail _ (List.Mem.tail _ (List.Mem.tail _ (List.Mem.tail _ (List.Mem.tail _ (List.Mem.head _))))))
  have n6 : 0 ≤ (-1) + ((-1) * γ 18461 + 0) := hn _ (List.Mem.tail _ (List.Mem.tail _ (List.Mem.tail _ (List.Mem.tail _ (List.Mem.tail _ (List.Mem.tail _ (List.Mem.head _)))))))
  clear hn
  have hG0 := hG
  obtain ⟨g0, g1, g2, g3, g4, g5, g6, g7, g8, g9, g10, g11, g12, g13, g14, g15, g16, g17, g18, g19, g20, g21, g22, g23, g24⟩ := hG0
  have r_D := sx_gr_D hR
  have r_cO := sx_gr_cO hR
  have r_cS := sx_gr_cS hR
  have r_cY := sx_gr_cY hR
  have r_cp := sx_gr_cp hR
  have r_lI := sx_gr_lI hR
  have r_lV := sx_gr_lV hR
  have r_lw := sx_gr_lw hR
  have r_rE := sx_gr_rE hR
  have r_rF := sx_gr_rF hR
  have r_rK := sx_gr_rK hR
  have r_rL := sx_gr_rL hR
  have r_rN := sx_gr_rN hR
  have r_rP := sx_gr_rP hR
  have r_rQ := sx_gr_rQ hR
  have r_rSq := sx_gr_rSq hR
  have r_rSs := sx_gr_rSs hR
  have r_rT0 := sx_gr_rT0 hR
  have r_rT1 := sx_gr_rT1 hR
  have r_rV := sx_gr_rV hR
  have r_sE := sx_gr_sE hR
  have r_sa := sx_gr_sa hR
  have r_sb := sx_gr_sb hR
  have r_sp := sx_gr_sp hR
  have r_tB := sx_gr_tB hR
  have r_tE := sx_gr_tE hR
  have r_w0 := sx_gr_w0 hR
  have r_w1 := sx_gr_w1 hR
  have r_wa := sx_gr_wa hR
  have r_wh := sx_gr_wh hR
  have r_wp := sx_gr_wp hR
  have r_yp := sx_gr_yp hR
  obtain ⟨w_1, w_2, w_3, w_4, w_5, w_6, w_7, w_8, w_9, w_10⟩ := g13
  have h7 := w_7 (by omega)
  have h8 := w_8 (by omega)
  exact sx_q_s_tfA_0 hG (sx_x1_c (fun p hp8 hne => ⟨by omega, rfl, fun i a b => rfl, fun q2 a b => ⟨rfl, rfl, rfl⟩, fun s2 a b => ⟨(sx_au_o (by omega)), rfl, rfl, rfl⟩⟩) g11) (sx_x2_z (by omega) (by omega) (by omega) (by omega) (by omega) (by omega)) ⟨w_1, w_2, w_3, w_4, w_5, w_6, (fun _ => h7), (fun _ => h8), (fun _ => ⟨by rw [show (γ 18484).toNat = j by omega, sx_au_s rfl]; omega, by omega⟩), fun s2 a b => ⟨(w_10 s2 a b).1, by rw [sx_au_o (by omega)]; exact (w_10 s2 a b).2⟩⟩ (sx_x4_n (by omega)) (sx_x5_0 (by omega))
theorem sx_p_s_tfC : sx_okr sx_GG true 115 sx_r_s_tfC := by
  intro γ A j y hG hR hj hlo hhi hl hn
  rw [show (sx_cell.get 115).2.2.1 = 108 from by decide +kernel] at hj
  rw [show (sx_cell.get 115).2.2.2.1 = 0 from by decide +kernel] at hlo
  rw [show (sx_cell.get 115).2.2.2.2.1 = 2000 from by decide +kernel] at hhi
  have n0 : 0 ≤ 0 + (1 * γ 18461 + 0) := hn _ (List.Mem.head _)
  have n1 : 0 ≤ 0 + ((-12) * γ 18461 + ((-1) * γ 18488 + (1 * (j : Int) + 0))) := hn _ (List.Mem.tail _ (List.Mem.head _))
  have n2 : 0 ≤ 0 + (12 * γ 18461 + (1 * γ 18488 + ((-1) * (j : Int) + 0))) := hn _ (List.Mem.tail _ (List.Mem.tail _ (List.Mem.head _)))
  have n3 : 0 ≤ (-7) + (1 * γ 18498 + 0) := hn _ (List.Mem.tail _ (List.Mem.tail _ (List.Mem.tail _ (List.Mem.head _))))
  have n4 : 0 ≤ 7 + ((-1) * γ 18498 + 0) := hn _ (List.Mem.tail _ (List.Mem.tail _ (List.Mem.tail _ (List.Mem.tail _ (List.Mem.head _)))))
  have n5 : 0 ≤ (-96) + ((-1) * γ 18488 + (1 * γ 18499 + 0)) := hn _ (List.Mem.tail _ (List.Mem.tail _ (List.Mem.tail _ (List.Mem.tail _ (List.Mem.tail _ (List.Mem.head _))))))
  have n6 : 0 ≤ 96 + (1 * γ 18488 + ((-1) * γ 18499 + 0)) := hn _ (List.Mem.tail _ (List.Mem.tail _ (List.Mem.tail _ (List.Mem.tail _ (List.Mem.tail _ (List.Mem.tail _ (List.Mem.head _)))))))
  have n7 : 0 ≤ 1280 + ((-160) * γ 18461 + ((-1) * γ 18500 + (1 * y + 0))) := hn _ (List.Mem.tail _ (List.Mem.tail _ (List.Mem.tail _ (List.Mem.tail _ (List.Mem.tail _ (List.Mem.tail _ (List.Mem.tail _ (List.Mem.head _))))))))
  have n8 : 0 ≤ (-1280) + (160 * γ 18461 + (1 * γ 18500 + ((-1) * y + 0))) := hn _ (List.Mem.tail _ (List.Mem.tail _ (List.Mem.tail _ (List.Mem.tail _ (List.Mem.tail _ (List.Mem.tail _ (List.Mem.tail _ (List.Mem.tail _ (List.Mem.head _)))))))))
  have n9 : 0 ≤ (-97) + (1 * γ 18484 + ((-1) * γ 18488 + 0)) := hn _ (List.Mem.tail _ (List.Mem.tail _ (List.Mem.tail _ (List.Mem.tail _ (List.Mem.tail _ (List.Mem.tail _ (List.Mem.tail _ (List.Mem.tail _ (List.Mem.tail _ (List.Mem.head _))))))))))
  have n10 : 0 ≤ (-2) + (1 * γ 18489 + 0) := hn _ (List.Mem.tail _ (List.Mem.tail _ (List.Mem.tail _ (List.Mem.tail _ (List.Mem.tail _ (List.Mem.tail _ (List.Mem.tail _ (List.Mem.tail _ (List.Mem.tail _ (List.Mem.tail _ (List.Mem.head _)))))))))))
  have n11 : 0 ≤ 2 + ((-1) * γ 18489 + 0) := hn _ (List.Mem.tail _ (List.Mem.tail _ (List.Mem.tail _ (List.Mem.tail _ (List.Mem.tail _ (List.Mem.tail _ (List.Mem.tail _ (List.Mem.tail _ (List.Mem.tail _ (List.Mem.tail _ (List.Mem.tail _ (List.Mem.head _))))))))))))
  clear hn
  have hG0 := hG
  obtain ⟨g0, g1, g2, g3, g4, g5, g6, g7, g8, g9, g10, g11, g12, g13, g14, g15, g16, g17, g18, g19, g20, g21, g22, g23, g24⟩ := hG0
  have r_D := sx_gr_D hR
  have r_cO := sx_gr_cO hR
  have r_cS := sx_gr_cS hR
  have r_cY := sx_gr_cY hR
  have r_cp := sx_gr_cp hR
  have r_lI := sx_gr_lI hR
  have r_lV := sx_gr_lV hR
  have r_lw := sx_gr_lw hR
  have r_rE := sx_gr_rE hR
  have r_rF := sx_gr_rF hR
  have r_rK := sx_gr_rK hR
  have r_rL := sx_gr_rL hR
  have r_rN := sx_gr_rN hR
  have r_rP := sx_gr_rP hR
  have r_rQ := sx_gr_rQ hR
  have r_rSq := sx_gr_rSq hR
  have r_rSs := sx_gr_rSs hR
  have r_rT0 := sx_gr_rT0 hR
  have r_rT1 := sx_gr_rT1 hR
  have r_rV := sx_gr_rV hR
  have r_sE := sx_gr_sE hR
  have r_sa := sx_gr_sa hR
  have r_sb := sx_gr_sb hR
  have r_sp := sx_gr_sp hR
  have r_tB := sx_gr_tB hR
  have r_tE := sx_gr_tE hR
  have r_w0 := sx_gr_w0 hR
  have r_w1 := sx_gr_w1 hR
  have r_wa := sx_gr_wa hR
  have r_wh := sx_gr_wh hR
  have r_wp := sx_gr_wp hR
  have r_yp := sx_gr_yp hR
  obtain ⟨d_1, d_2, d_3, d_4, d_5, d_6, d_7, d_8⟩ := g14 (by omega)
  obtain ⟨l_1, l_2, l_3, l_4, l_5, l_6, l_7, l_8⟩ := g15
  have hv := l_7 (by omega)
  exact sx_q_s_tfC_0 hG (sx_x1_c (fun p hp8 hne => ⟨by omega, rfl, fun i a b => rfl, fun q2 a b => ⟨rfl, rfl, rfl⟩, fun s2 a b => ⟨(sx_au_o (by omega)), rfl, rfl, rfl⟩⟩) g11) (sx_x2_z (by omega) (by omega) (by omega) (by omega) (by omega) (by omega)) (sx_x3_c (by omega) (by omega) (by omega) (by omega) (by omega) (fun i a b => rfl) (fun q2 a => ⟨rfl, rfl, rfl⟩) (fun s2 a => ⟨sx_au_o (by omega), rfl, rfl, rfl⟩) g13) (fun _ => ⟨d_1, d_2, d_3, d_4, fun i a => ⟨(d_5 i a).1, (d_5 i a).2.1, (by rw [sx_au_o (by omega), sx_au_o (by omega)]; exact (d_5 i a).2.2.1), (d_5 i a).2.2.2⟩, (fun _ => d_6 (by omega)), (fun _ => d_7 (by omega)), (fun _ => by rw [sx_au_s (by omega), sx_au_o (by omega), show 96 + (γ 18488).toNat = (γ 18499).toNat by omega]; omega)⟩) (sx_x5_0 (by omega))
theorem sx_p_s_ttA : sx_okr sx_GG true 116 sx_r_s_ttA := by
  intro γ A j y hG hR hj hlo hhi hl hn
  rw [show (sx_cell.get 116).2.2.1 = 108 from by decide +kernel] at hj
  rw [show (sx_cell.get 116).2.2.2.1 = 0 from by decide +kernel] at hlo
  rw [show (sx_cell.get 116).2.2.2.2.1 = 2000 from by decide +kernel] at hhi
  have n0 : 0 ≤ 0 + ((-1) * γ 18484 + (1 * (j : Int) + 0)) := hn _ (List.Mem.head _)
  have n1 : 0 ≤ 0 + (1 * γ 18484 + ((-1) * (j : Int) + 0)) := hn _ (List.Mem.tail _ (List.Mem.head _))
  have n2 : 0 ≤ (-3) + (1 * γ 18480 + 0) := hn _ (List.Mem.tail _ (List.Mem.tail _ (List.Mem.head _)))
  have n3 : 0 ≤ 3 + ((-1) * γ 18480 + 0) := hn _ (List.Mem.tail _ (List.Mem.tail _ (List.Mem.tail _ (List.Mem.head _))))
  have n4 : 0 ≤ 0 + ((-1) * γ 18479 + (1 * y + 0)) := hn _ (List.Mem.tail _ (List.Mem.tail _ (List.Mem.tail _ (List.Mem.tail _ (List.Mem.head _)))))
  have n5 : 0 ≤ 0 + (1 * γ 18479 + ((-1) * y + 0)) := hn _ (List.Mem.tail _ (List.Mem.tail _ (List.Mem.tail _ (List.Mem.tail _ (List.Mem.tail _ (List.Mem.head _))))))
  have n6 : 0 ≤ 0 + ((-1) * γ 18483 + (1 * y + 0)) := hn _ (List.Mem.tail _ (List.Mem.tail _ (List.Mem.tail _ (List.Mem.tail _ (List.Mem.tail _ (List.Mem.tail _ (List.Mem.head _)))))))
  have n7 : 0 ≤ (-1) + ((-1) * γ 18461 + 0) := hn _ (List.Mem.tail _ (List.Mem.tail _ (List.Mem.tail _ (List.Mem.tail _ (List.Mem.tail _ (List.Mem.tail _ (List.Mem.tail _ (List.Mem.head _))))))))
  clear hn
  have hG0 := hG
  obtain ⟨g0, g1, g2, g3, g4, g5, g6, g7, g8, g9, g10, g11, g12, g13, g14, g15, g16, g17, g18, g19, g20, g21, g22, g23, g24⟩ := hG0
  have r_D := sx_gr_D hR
  have r_cO := sx_gr_cO hR
  have r_cS := sx_gr_cS hR
  have r_cY := sx_gr_cY hR
  have r_cp := sx_gr_cp hR
  have r_lI := sx_gr_lI hR
  have r_lV := sx_gr_lV hR
  have r_lw := sx_gr_lw hR
  have r_rE := sx_gr_rE hR
  have r_rF := sx_gr_rF hR
  have r_rK := sx_gr_rK hR
  have r_rL := sx_gr_rL hR
  have r_rN := sx_gr_rN hR
  have r_rP := sx_gr_rP hR
  have r_rQ := sx_gr_rQ hR
  have r_rSq := sx_gr_rSq hR
  have r_rSs := sx_gr_rSs hR
  have r_rT0 := sx_gr_rT0 hR
  have r_rT1 := sx_gr_rT1 hR
  have r_rV := sx_gr_rV hR
  have r_sE := sx_gr_sE hR
  have r_sa := sx_gr_sa hR
  have r_sb := sx_gr_sb hR
  have r_sp := sx_gr_sp hR
  have r_tB := sx_gr_tB hR
  have r_tE := sx_gr_tE hR
  have r_w0 := sx_gr_w0 hR
  have r_w1 := sx_gr_w1 hR
  have r_wa := sx_gr_wa hR
  have r_wh := sx_gr_wh hR
  have r_wp := sx_gr_wp hR
  have r_yp := sx_gr_yp hR
  obtain ⟨w_1, w_2, w_3, w_4, w_5, w_6, w_7, w_8, w_9, w_10⟩ := g13
  have h7 := w_7 (by omega)
  have h8 := w_8 (by omega)
  have h9 := w_9 (by omega)
  rw [show (γ 18484).toNat = j by omega] at h7 h8 h9
  refine sx_q_s_ttA_0 hG (sx_x1_c (fun p hp8 hne => ⟨by omega, rfl, fun i a b => rfl, fun q2 a b => ⟨rfl, rfl, rfl⟩, fun s2 a b => ⟨rfl, (sx_au_o (by omega)), rfl, rfl⟩⟩) g11) (sx_x2_z (by omega) (by omega) (by omega) (by omega) (by omega) (by omega)) ⟨w_1, w_2, w_3, w_4, w_5, w_6, (fun e => by omega), (fun e => by omega), (fun e => by omega), fun s2 a b => ?_⟩ (sx_x4_n (by omega)) (sx_x5_0 (by omega))
  by_cases e : s2 = j
  · rw [e]
    unfold sx_s1
    rw [sx_au_s rfl, h7.1, h8.1, h9.1]
    exact ⟨⟨by omega, h8.2.1, h8.2.2.1, h8.2.2.2⟩, by omega, by omega, by omega⟩
  · rw [sx_au_o e]
    exact w_10 s2 a (by omega)
theorem sx_p_s_ttC : sx_okr sx_GG true 116 sx_r_s_ttC := by
  intro γ A j y hG hR hj hlo hhi hl hn
  rw [show (sx_cell.get 116).2.2.1 = 108 from by decide +kernel] at hj
  rw [show (sx_cell.get 116).2.2.2.1 = 0 from by decide +kernel] at hlo
  rw [show (sx_cell.get 116).2.2.2.2.1 = 2000 from by decide +kernel] at hhi
  have n0 : 0 ≤ 0 + (1 * γ 18461 + 0) := hn _ (List.Mem.head _)
  have n1 : 0 ≤ 0 + ((-12) * γ 18461 + ((-1) * γ 18488 + (1 * (j : Int) + 0))) := hn _ (List.Mem.tail _ (List.Mem.head _))
  have n2 : 0 ≤ 0 + (12 * γ 18461 + (1 * γ 18488 + ((-1) * (j : Int) + 0))) := hn _ (List.Mem.tail _ (List.Mem.tail _ (List.Mem.head _)))
  have n3 : 0 ≤ (-8) + (1 * γ 18498 + 0) := hn _ (List.Mem.tail _ (List.Mem.tail _ (List.Mem.tail _ (List.Mem.head _))))
  have n4 : 0 ≤ 8 + ((-1) * γ 18498 + 0) := hn _ (List.Mem.tail _ (List.Mem.tail _ (List.Mem.tail _ (List.Mem.tail _ (List.Mem.head _)))))
  have n5 : 0 ≤ (-96) + ((-1) * γ 18488 + (1 * γ 18499 + 0)) := hn _ (List.Mem.tail _ (List.Mem.tail _ (List.Mem.tail _ (List.Mem.tail _ (List.Mem.tail _ (List.Mem.head _))))))
  have n6 : 0 ≤ 96 + (1 * γ 18488 + ((-1) * γ 18499 + 0)) := hn _ (List.Mem.tail _ (List.Mem.tail _ (List.Mem.tail _ (List.Mem.tail _ (List.Mem.tail _ (List.Mem.tail _ (List.Mem.head _)))))))
  have n7 : 0 ≤ 1280 + ((-160) * γ 18461 + ((-1) * γ 18500 + (1 * y + 0))) := hn _ (List.Mem.tail _ (List.Mem.tail _ (List.Mem.tail _ (List.Mem.tail _ (List.Mem.tail _ (List.Mem.tail _ (List.Mem.tail _ (List.Mem.head _))))))))
  have n8 : 0 ≤ (-1280) + (160 * γ 18461 + (1 * γ 18500 + ((-1) * y + 0))) := hn _ (List.Mem.tail _ (List.Mem.tail _ (List.Mem.tail _ (List.Mem.tail _ (List.Mem.tail _ (List.Mem.tail _ (List.Mem.tail _ (List.Mem.tail _ (List.Mem.head _)))))))))
  have n9 : 0 ≤ (-97) + (1 * γ 18484 + ((-1) * γ 18488 + 0)) := hn _ (List.Mem.tail _ (List.Mem.tail _ (List.Mem.tail _ (List.Mem.tail _ (List.Mem.tail _ (List.Mem.tail _ (List.Mem.tail _ (List.Mem.tail _ (List.Mem.tail _ (List.Mem.head _))))))))))
  have n10 : 0 ≤ (-3) + (1 * γ 18489 + 0) := hn _ (List.Mem.tail _ (List.Mem.tail _ (List.Mem.tail _ (List.Mem.tail _ (List.Mem.tail _ (List.Mem.tail _ (List.Mem.tail _ (List.Mem.tail _ (List.Mem.tail _ (List.Mem.tail _ (List.Mem.head _)))))))))))
  have n11 : 0 ≤ 3 + ((-1) * γ 18489 + 0) := hn _ (List.Mem.tail _ (List.Mem.tail _ (List.Mem.tail _ (List.Mem.tail _ (List.Mem.tail _ (List.Mem.tail _ (List.Mem.tail _ (List.Mem.tail _ (List.Mem.tail _ (List.Mem.tail _ (List.Mem.tail _ (List.Mem.head _))))))))))))
  clear hn
  have hG0 := hG
  obtain ⟨g0, g1, g2, g3, g4, g5, g6, g7, g8, g9, g10, g11, g12, g13, g14, g15, g16, g17, g18, g19, g20, g21, g22, g23, g24⟩ := hG0
  have r_D := sx_gr_D hR
  have r_cO := sx_gr_cO hR
  have r_cS := sx_gr_cS hR
  have r_cY := sx_gr_cY hR
  have r_cp := sx_gr_cp hR
  have r_lI := sx_gr_lI hR
  have r_lV := sx_gr_lV hR
  have r_lw := sx_gr_lw hR
  have r_rE := sx_gr_rE hR
  have r_rF := sx_gr_rF hR
  have r_rK := sx_gr_rK hR
  have r_rL := sx_gr_rL hR
  have r_rN := sx_gr_rN hR
  have r_rP := sx_gr_rP hR
  have r_rQ := sx_gr_rQ hR
  have r_rSq := sx_gr_rSq hR
  have r_rSs := sx_gr_rSs hR
  have r_rT0 := sx_gr_rT0 hR
  have r_rT1 := sx_gr_rT1 hR
  have r_rV := sx_gr_rV hR
  have r_sE := sx_gr_sE hR
  have r_sa := sx_gr_sa hR
  have r_sb := sx_gr_sb hR
  have r_sp := sx_gr_sp hR
  have r_tB := sx_gr_tB hR
  have r_tE := sx_gr_tE hR
  have r_w0 := sx_gr_w0 hR
  have r_w1 := sx_gr_w1 hR
  have r_wa := sx_gr_wa hR
  have r_wh := sx_gr_wh hR
  have r_wp := sx_gr_wp hR
  have r_yp := sx_gr_yp hR
  obtain ⟨d_1, d_2, d_3, d_4, d_5, d_6, d_7, d_8⟩ := g14 (by omega)
  obtain ⟨l_1, l_2, l_3, l_4, l_5, l_6, l_7, l_8⟩ := g15
  have hv := l_8 (by omega)
  have h6 := d_6 (by omega)
  have h7 := d_7 (by omega)
  have h8 := d_8 (by omega)
  refine sx_q_s_ttC_0 hG (sx_x1_c (fun p hp8 hne => ⟨by omega, rfl, fun i a b => rfl, fun q2 a b => ⟨rfl, rfl, rfl⟩, fun s2 a b => ⟨rfl, (sx_au_o (by omega)), rfl, rfl⟩⟩) g11) (sx_x2_z (by omega) (by omega) (by omega) (by omega) (by omega) (by omega)) (sx_x3_c (by omega) (by omega) (by omega) (by omega) (by omega) (fun i a b => rfl) (fun q2 a => ⟨rfl, rfl, rfl⟩) (fun s2 a => ⟨rfl, sx_au_o (by omega), rfl, rfl⟩) g13) (fun _ => ⟨d_1, d_2, d_3, d_4, fun i a => ?_, (fun e => by omega), (fun e => by omega), (fun e => by omega)⟩) (sx_x5_0 (by omega))
  by_cases e : (i : Int) = γ 18488
  · have e2 : i = (γ 18488).toNat := by omega
    rw [e2]
    refine ⟨h6, h7, h8, ?_⟩
    rw [sx_au_s (by omega), sx_au_o (by omega), show 96 + (γ 18488).toNat = (γ 18499).toNat by omega]
    omega
  · rw [sx_au_o (by omega), sx_au_o (by omega)]
    exact d_5 i (by omega)
theorem sx_p_s_sgA : sx_okr sx_GG true 117 sx_r_s_sgA := by
  intro γ A j y hG hR hj hlo hhi hl hn
  rw [show (sx_cell.get 117).2.2.1 = 2900 from by decide +kernel] at hj
  rw [show (sx_cell.get 117).2.2.2.1 = (-2147483648) from by decide +kernel] at hlo
  rw [show (sx_cell.get 117).2.2.2.2.1 = 2147483647 from by decide +kernel] at hhi
  have n0 : 0 ≤ 0 + ((-1) * γ 18475 + (1 * (j : Int) + 0)) := hn _ (List.Mem.head _)
  have n1 : 0 ≤ 0 + (1 * γ 18475 + ((-1) * (j : Int) + 0)) := hn _ (List.Mem.tail _ (List.Mem.head _))
  have n2 : 0 ≤ 1 + ((-1) * y + 0) := hn _ (List.Mem.tail _ (List.Mem.tail _ (List.Mem.head _)))
  have n3 : 0 ≤ (-1) + ((-1) * γ 18461 + 0) := hn _ (List.Mem.tail _ (List.Mem.tail _ (List.Mem.tail _ (List.Mem.head _))))
  clear hn
  have hG0 := hG
  obtain ⟨g0, g1, g2, g3, g4, g5, g6, g7, g8, g9, g10, g11, g12, g13, g14, g15, g16, g17, g18, g19, g20, g21, g22, g23, g24⟩ := hG0
  have r_D := sx_gr_D hR
  have r_cO := sx_gr_cO hR
  have r_cS := sx_gr_cS hR
  have r_cY := sx_gr_cY hR
  have r_cp := sx_gr_cp hR
  have r_lI := sx_gr_lI hR
  have r_lV := sx_gr_lV hR
  have r_lw := sx_gr_lw hR
  have r_rE := sx_gr_rE hR
  have r_rF := sx_gr_rF hR
  have r_rK := sx_gr_rK hR
  have r_rL := sx_gr_rL hR
  have r_rN := sx_gr_rN hR
  have r_rP := sx_gr_rP hR
  have r_rQ := sx_gr_rQ hR
  have r_rSq := sx_gr_rSq hR
  have r_rSs := sx_gr_rSs hR
  have r_rT0 := sx_gr_rT0 hR
  have r_rT1 := sx_gr_rT1 hR
  have r_rV := sx_gr_rV hR
  have r_sE := sx_gr_sE hR
  have r_sa := sx_gr_sa hR
  have r_sb := sx_gr_sb hR
  have r_sp := sx_gr_sp hR
  have r_tB := sx_gr_tB hR
  have r_tE := sx_gr_tE hR
  have r_w0 := sx_gr_w0 hR
  have r_w1 := sx_gr_w1 hR
  have r_wa := sx_gr_wa hR
  have r_wh := sx_gr_wh hR
  have r_wp := sx_gr_wp hR
  have r_yp := sx_gr_yp hR
  obtain ⟨w_1, w_2, w_3, w_4, w_5, w_6, w_7, w_8, w_9, w_10⟩ := g13
  have hw1 : (γ 18474).toNat + (γ 18475 - γ 18474).toNat = j := by omega
  have hst : ∀ i : Nat, (i : Int) < γ 18475 → sx_au A 117 j y 117 i = A 117 i := fun i hi => sx_au_o (by omega)
  have hk' : sx_hk (sx_au A 117 j y 117) (γ 18475 - γ 18474).toNat (γ 18474).toNat 0 := sx_hk_sh (fun i hi => hst _ (by omega)) w_2
  have hf' : sx_hf (sx_au A 117 j y 117) (γ 18475 - γ 18474).toNat (γ 18474).toNat 0 = γ 18476 := by rw [← w_3]; exact sx_hf_sh (fun i hi => hst _ (by omega))
  obtain ⟨a1, a2⟩ := sx_hk_ap hk' (by rw [hw1, sx_au_s rfl, hf']; omega)
  rw [hw1, sx_au_s rfl, hf', if_pos (by omega)] at a2
  refine sx_q_s_sgA_0 hG (sx_x1_c (fun p hp8 hne => ⟨by omega, rfl, fun i a b => (sx_au_o (by omega)), fun q2 a b => ⟨rfl, rfl, rfl⟩, fun s2 a b => ⟨rfl, rfl, rfl, rfl⟩⟩) g11) (sx_x2_z (by omega) (by omega) (by omega) (by omega) (by omega) (by omega)) ⟨by omega, sx_hk_c a1 (by omega) rfl rfl, ?_, ?_, ?_, ?_, ?_, ?_, w_9, ?_⟩ (sx_x4_n (by omega)) (sx_x5_0 (by omega))
  · rw [show (1 + (1 * γ 18475 + 0) - γ 18474).toNat = (γ 18475 - γ 18474).toNat + 1 by omega, a2]
    omega
  · exact w_4
  · exact fun e => ⟨(w_5 e).1, sx_ho_c (by omega) (fun i a b => hst i (by have := (w_4 (by omega)).2; omega)) (w_5 e).2⟩
  · exact fun q2 a b => sx_o1_c (by omega) (by omega) (fun i a1 a2 => hst i a2) rfl rfl rfl (w_6 q2 a b)
  · exact fun e => ⟨(w_7 e).1, by have := (w_7 e).2; omega⟩
  · exact fun e => ⟨(w_8 e).1, (w_8 e).2.1, by have := (w_8 e).2.2.1; omega, sx_ho_c (by omega) (fun i a b => hst i (by have := (w_8 e).2.2.1; omega)) (w_8 e).2.2.2⟩
  · exact fun s2 a b => ⟨sx_s1_c (by omega) (by omega) (fun i a1 a2 => hst i a2) rfl rfl (w_10 s2 a b).1, (w_10 s2 a b).2⟩
theorem sx_p_s_sgB : sx_okr sx_GG true 117 sx_r_s_sgB := by
  intro γ A j y hG hR hj hlo hhi hl hn
  rw [show (sx_cell.get 117).2.2.1 = 2900 from by decide +kernel] at hj
  rw [show (sx_cell.get 117).2.2.2.1 = (-2147483648) from by decide +kernel] at hlo
  rw [show (sx_cell.get 117).2.2.2.2.1 = 2147483647 from by decide +kernel] at hhi
  have n0 : 0 ≤ 0 + ((-1) * γ 18475 + (1 * (j : Int) + 0)) := hn _ (List.Mem.head _)
  have n1 : 0 ≤ 0 + (1 * γ 18475 + ((-1) * (j : Int) + 0)) := hn _ (List.Mem.tail _ (List.Mem.head _))
  have n2 : 0 ≤ (-2) + (1 * y + 0) := hn _ (List.Mem.tail _ (List.Mem.tail _ (List.Mem.head _)))
  have n3 : 0 ≤ (-2) + (1 * γ 18476 + 0) := hn _ (List.Mem.tail _ (List.Mem.tail _ (List.Mem.tail _ (List.Mem.head _))))
  have n4 : 0 ≤ (-1) + ((-1) * γ 18461 + 0) := hn _ (List.Mem.tail _ (List.Mem.tail _ (List.Mem.tail _ (List.Mem.tail _ (List.Mem.head _)))))
  clear hn
  have hG0 := hG
  obtain ⟨g0, g1, g2, g3, g4, g5, g6, g7, g8, g9, g10, g11, g12, g13, g14, g15, g16, g17, g18, g19, g20, g21, g22, g23, g24⟩ := hG0
  have r_D := sx_gr_D hR
  have r_cO := sx_gr_cO hR
  have r_cS := sx_gr_cS hR
  have r_cY := sx_gr_cY hR
  have r_cp := sx_gr_cp hR
  have r_lI := sx_gr_lI hR
  have r_lV := sx_gr_lV hR
  have r_lw := sx_gr_lw hR
  have r_rE := sx_gr_rE hR
  have r_rF := sx_gr_rF hR
  have r_rK := sx_gr_rK hR
  have r_rL := sx_gr_rL hR
  have r_rN := sx_gr_rN hR
  have r_rP := sx_gr_rP hR
  have r_rQ := sx_gr_rQ hR
  have r_rSq := sx_gr_rSq hR
  have r_rSs := sx_gr_rSs hR
  have r_rT0 := sx_gr_rT0 hR
  have r_rT1 := sx_gr_rT1 hR
  have r_rV := sx_gr_rV hR
  have r_sE := sx_gr_sE hR
  have r_sa := sx_gr_sa hR
  have r_sb := sx_gr_sb hR
  have r_sp := sx_gr_sp hR
  have r_tB := sx_gr_tB hR
  have r_tE := sx_gr_tE hR
  have r_w0 := sx_gr_w0 hR
  have r_w1 := sx_gr_w1 hR
  have r_wa := sx_gr_wa hR
  have r_wh := sx_gr_wh hR
  have r_wp := sx_gr_wp hR
  have r_yp := sx_gr_yp hR
  obtain ⟨w_1, w_2, w_3, w_4, w_5, w_6, w_7, w_8, w_9, w_10⟩ := g13
  have hw1 : (γ 18474).toNat + (γ 18475 - γ 18474).toNat = j := by omega
  have hst : ∀ i : Nat, (i : Int) < γ 18475 → sx_au A 117 j y 117 i = A 117 i := fun i hi => sx_au_o (by omega)
  have hk' : sx_hk (sx_au A 117 j y 117) (γ 18475 - γ 18474).toNat (γ 18474).toNat 0 := sx_hk_sh (fun i hi => hst _ (by omega)) w_2
  have hf' : sx_hf (sx_au A 117 j y 117) (γ 18475 - γ 18474).toNat (γ 18474).toNat 0 = γ 18476 := by rw [← w_3]; exact sx_hf_sh (fun i hi => hst _ (by omega))
  obtain ⟨a1, a2⟩ := sx_hk_ap hk' (by rw [hw1, sx_au_s rfl, hf']; omega)
  rw [hw1, sx_au_s rfl, hf', if_neg (by omega)] at a2
  refine sx_q_s_sgB_0 hG (sx_x1_c (fun p hp8 hne => ⟨by omega, rfl, fun i a b => (sx_au_o (by omega)), fun q2 a b => ⟨rfl, rfl, rfl⟩, fun s2 a b => ⟨rfl, rfl, rfl, rfl⟩⟩) g11) (sx_x2_z (by omega) (by omega) (by omega) (by omega) (by omega) (by omega)) ⟨by omega, sx_hk_c a1 (by omega) rfl rfl, ?_, ?_, ?_, ?_, ?_, ?_, w_9, ?_⟩ (sx_x4_n (by omega)) (sx_x5_0 (by omega))
  · rw [show (1 + (1 * γ 18475 + 0) - γ 18474).toNat = (γ 18475 - γ 18474).toNat + 1 by omega, a2]
    omega
  · exact w_4
  · exact fun e => ⟨(w_5 e).1, sx_ho_c (by omega) (fun i a b => hst i (by have := (w_4 (by omega)).2; omega)) (w_5 e).2⟩
  · exact fun q2 a b => sx_o1_c (by omega) (by omega) (fun i a1 a2 => hst i a2) rfl rfl rfl (w_6 q2 a b)
  · exact fun e => ⟨(w_7 e).1, by have := (w_7 e).2; omega⟩
  · exact fun e => ⟨(w_8 e).1, (w_8 e).2.1, by have := (w_8 e).2.2.1; omega, sx_ho_c (by omega) (fun i a b => hst i (by have := (w_8 e).2.2.1; omega)) (w_8 e).2.2.2⟩
  · exact fun s2 a b => ⟨sx_s1_c (by omega) (by omega) (fun i a1 a2 => hst i a2) rfl rfl (w_10 s2 a b).1, (w_10 s2 a b).2⟩
theorem sx_p_s_sgC : sx_okr sx_GG true 117 sx_r_s_sgC := by
  intro γ A j y hG hR hj hlo hhi hl hn
  rw [show (sx_cell.get 117).2.2.1 = 2900 from by decide +kernel] at hj
  rw [show (sx_cell.get 117).2.2.2.1 = (-2147483648) from by decide +kernel] at hlo
  rw [show (sx_cell.get 117).2.2.2.2.1 = 2147483647 from by decide +kernel] at hhi
  have n0 : 0 ≤ 0 + (1 * γ 18461 + 0) := hn _ (List.Mem.head _)
  have n1 : 0 ≤ 2560 + ((-320) * γ 18461 + ((-1) * γ 18485 + (1 * (j : Int) + 0))) := hn _ (List.Mem.tail _ (List.Mem.head _))
  have n2 : 0 ≤ (-2560) + (320 * γ 18461 + (1 * γ 18485 + ((-1) * (j : Int) + 0))) := hn _ (List.Mem.tail _ (List.Mem.tail _ (List.Mem.head _)))
  have n3 : 0 ≤ (-1) + (1 * γ 18498 + 0) := hn _ (List.Mem.tail _ (List.Mem.tail _ (List.Mem.tail _ (List.Mem.head _))))
  have n4 : 0 ≤ 1 + ((-1) * γ 18498 + 0) := hn _ (List.Mem.tail _ (List.Mem.tail _ (List.Mem.tail _ (List.Mem.tail _ (List.Mem.head _)))))
  have n5 : 0 ≤ 0 + ((-1) * γ 18485 + (1 * γ 18499 + 0)) := hn _ (List.Mem.tail _ (List.Mem.tail _ (List.Mem.tail _ (List.Mem.tail _ (List.Mem.tail _ (List.Mem.head _))))))
  have n6 : 0 ≤ 0 + (1 * γ 18485 + ((-1) * γ 18499 + 0)) := hn _ (List.Mem.tail _ (List.Mem.tail _ (List.Mem.tail _ (List.Mem.tail _ (List.Mem.tail _ (List.Mem.tail _ (List.Mem.head _)))))))
  have n7 : 0 ≤ 0 + ((-1) * γ 18500 + (1 * y + 0)) := hn _ (List.Mem.tail _ (List.Mem.tail _ (List.Mem.tail _ (List.Mem.tail _ (List.Mem.tail _ (List.Mem.tail _ (List.Mem.tail _ (List.Mem.head _))))))))
  have n8 : 0 ≤ 0 + (1 * γ 18500 + ((-1) * y + 0)) := hn _ (List.Mem.tail _ (List.Mem.tail _ (List.Mem.tail _ (List.Mem.tail _ (List.Mem.tail _ (List.Mem.tail _ (List.Mem.tail _ (List.Mem.tail _ (List.Mem.head _)))))))))
  have n9 : 0 ≤ (-1) + (1 * γ 18475 + ((-1) * γ 18485 + 0)) := hn _ (List.Mem.tail _ (List.Mem.tail _ (List.Mem.tail _ (List.Mem.tail _ (List.Mem.tail _ (List.Mem.tail _ (List.Mem.tail _ (List.Mem.tail _ (List.Mem.tail _ (List.Mem.head _))))))))))
  have n10 : 0 ≤ 2880 + ((-1) * γ 18475 + 0) := hn _ (List.Mem.tail _ (List.Mem.tail _ (List.Mem.tail _ (List.Mem.tail _ (List.Mem.tail _ (List.Mem.tail _ (List.Mem.tail _ (List.Mem.tail _ (List.Mem.tail _ (List.Mem.tail _ (List.Mem.head _)))))))))))
  clear hn
  have hG0 := hG
  obtain ⟨g0, g1, g2, g3, g4, g5, g6, g7, g8, g9, g10, g11, g12, g13, g14, g15, g16, g17, g18, g19, g20, g21, g22, g23, g24⟩ := hG0
  have r_D := sx_gr_D hR
  have r_cO := sx_gr_cO hR
  have r_cS := sx_gr_cS hR
  have r_cY := sx_gr_cY hR
  have r_cp := sx_gr_cp hR
  have r_lI := sx_gr_lI hR
  have r_lV := sx_gr_lV hR
  have r_lw := sx_gr_lw hR
  have r_rE := sx_gr_rE hR
  have r_rF := sx_gr_rF hR
  have r_rK := sx_gr_rK hR
  have r_rL := sx_gr_rL hR
  have r_rN := sx_gr_rN hR
  have r_rP := sx_gr_rP hR
  have r_rQ := sx_gr_rQ hR
  have r_rSq := sx_gr_rSq hR
  have r_rSs := sx_gr_rSs hR
  have r_rT0 := sx_gr_rT0 hR
  have r_rT1 := sx_gr_rT1 hR
  have r_rV := sx_gr_rV hR
  have r_sE := sx_gr_sE hR
  have r_sa := sx_gr_sa hR
  have r_sb := sx_gr_sb hR
  have r_sp := sx_gr_sp hR
  have r_tB := sx_gr_tB hR
  have r_tE := sx_gr_tE hR
  have r_w0 := sx_gr_w0 hR
  have r_w1 := sx_gr_w1 hR
  have r_wa := sx_gr_wa hR
  have r_wh := sx_gr_wh hR
  have r_wp := sx_gr_wp hR
  have r_yp := sx_gr_yp hR
  obtain ⟨d_1, d_2, d_3, d_4, d_5, d_6, d_7, d_8⟩ := g14 (by omega)
  obtain ⟨l_1, l_2, l_3, l_4, l_5, l_6, l_7, l_8⟩ := g15
  have hv := l_1 (by omega)
  refine sx_q_s_sgC_0 hG (sx_x1_c (fun p hp8 hne => ⟨by omega, rfl, fun i a b => (sx_au_o (by omega)), fun q2 a b => ⟨rfl, rfl, rfl⟩, fun s2 a b => ⟨rfl, rfl, rfl, rfl⟩⟩) g11) (sx_x2_z (by omega) (by omega) (by omega) (by omega) (by omega) (by omega)) (sx_x3_c (by omega) (by omega) (by omega) (by omega) (by omega) (fun i a b => sx_au_o (by omega)) (fun q2 a => ⟨rfl, rfl, rfl⟩) (fun s2 a => ⟨rfl, rfl, rfl, rfl⟩) g13) (fun _ => ⟨fun j2 a b => ?_, d_2, d_3, d_4, d_5, d_6, d_7, d_8⟩) (sx_x5_0 (by omega))
  by_cases e : (j2 : Int) = γ 18485
  · rw [sx_au_s (by omega), sx_au_o (by omega), show j2 = (γ 18499).toNat by omega]
    omega
  · rw [sx_au_o (by omega), sx_au_o (by omega)]
    exact d_1 j2 a (by omega)
theorem sx_p_s_lfA : sx_okr sx_GG true 119 sx_r_s_lfA := by
  intro γ A j y hG hR hj hlo hhi hl hn
  rw [show (sx_cell.get 119).2.2.1 = 2000 from by decide +kernel] at hj
  rw [show (sx_cell.get 119).2.2.2.1 = 0 from by decide +kernel] at hlo
  rw [show (sx_cell.get 119).2.2.2.2.1 = 2900 from by decide +kernel] at hhi
  have n0 : 0 ≤ 0 + ((-1) * γ 18479 + (1 * (j : Int) + 0)) := hn _ (List.Mem.head _)
  have n1 : 0 ≤ 0 + (1 * γ 18479 + ((-1) * (j : Int) + 0)) := hn _ (List.Mem.tail _ (List.Mem.head _))
  have n2 : 0 ≤ 0 + ((-1) * γ 18475 + (1 * y + 0)) := hn _ (List.Mem.tail _ (List.Mem.tail _ (List.Mem.head _)))
  have n3 : 0 ≤ 0 + (1 * γ 18475 + ((-1) * y + 0)) := hn _ (List.Mem.tail _ (List.Mem.tail _ (List.Mem.tail _ (List.Mem.head _))))
  have n4 : 0 ≤ (-1) + ((-1) * γ 18461 + 0) := hn _ (List.Mem.tail _ (List.Mem.tail _ (List.Mem.tail _ (List.Mem.tail _ (List.Mem.head _)))))
  clear hn
  have hG0 := hG
  obtain ⟨g0, g1, g2, g3, g4, g5, g6, g7, g8, g9, g10, g11, g12, g13, g14, g15, g16, g17, g18, g19, g20, g21, g22, g23, g24⟩ := hG0
  have r_D := sx_gr_D hR
  have r_cO := sx_gr_cO hR
  have r_cS := sx_gr_cS hR
  have r_cY := sx_gr_cY hR
  have r_cp := sx_gr_cp hR
  have r_lI := sx_gr_lI hR
  have r_lV := sx_gr_lV hR
  have r_lw := sx_gr_lw hR
  have r_rE := sx_gr_rE hR
  have r_rF := sx_gr_rF hR
  have r_rK := sx_gr_rK hR
  have r_rL := sx_gr_rL hR
  have r_rN := sx_gr_rN hR
  have r_rP := sx_gr_rP hR
  have r_rQ := sx_gr_rQ hR
  have r_rSq := sx_gr_rSq hR
  have r_rSs := sx_gr_rSs hR
  have r_rT0 := sx_gr_rT0 hR
  have r_rT1 := sx_gr_rT1 hR
  have r_rV := sx_gr_rV hR
  have r_sE := sx_gr_sE hR
  have r_sa := sx_gr_sa hR
  have r_sb := sx_gr_sb hR
  have r_sp := sx_gr_sp hR
  have r_tB := sx_gr_tB hR
  have r_tE := sx_gr_tE hR
  have r_w0 := sx_gr_w0 hR
  have r_w1 := sx_gr_w1 hR
  have r_wa := sx_gr_wa hR
  have r_wh := sx_gr_wh hR
  have r_wp := sx_gr_wp hR
  have r_yp := sx_gr_yp hR
  obtain ⟨w_1, w_2, w_3, w_4, w_5, w_6, w_7, w_8, w_9, w_10⟩ := g13
  exact sx_q_s_lfA_0 hG (sx_x1_c (fun p hp8 hne => ⟨by omega, rfl, fun i a b => rfl, fun q2 a b => ⟨(sx_au_o (by omega)), rfl, rfl⟩, fun s2 a b => ⟨rfl, rfl, rfl, rfl⟩⟩) g11) (sx_x2_z (by omega) (by omega) (by omega) (by omega) (by omega) (by omega)) ⟨by omega, sx_ho_0 (by omega), (by rw [show ((0 + (1 * y + 0)) - (0 + (1 * y + 0))).toNat = 0 by omega]; show (0 : Int) = _; omega), (fun _ => ⟨by rw [show (γ 18479).toNat = j by omega, sx_au_s rfl]; omega, by omega⟩), (fun e => by omega), (fun q2 a b => sx_o1_c (by omega) (by omega) (fun i a1 a2 => rfl) (sx_au_o (by omega)) rfl rfl (w_6 q2 a b)), (fun e => ⟨(w_7 e).1, by have := (w_7 e).2; omega⟩), (fun e => ⟨(w_8 e).1, (w_8 e).2.1, by have := (w_8 e).2.2.1; omega, (w_8 e).2.2.2⟩), w_9, (fun s2 a b => ⟨sx_s1_c (by omega) (by omega) (fun i a1 a2 => rfl) rfl rfl (w_10 s2 a b).1, (w_10 s2 a b).2⟩)⟩ (sx_x4_n (by omega)) (sx_x5_0 (by omega))
theorem sx_p_s_lfC : sx_okr sx_GG true 119 sx_r_s_lfC := by
  intro γ A j y hG hR hj hlo hhi hl hn
  rw [show (sx_cell.get 119).2.2.1 = 2000 from by decide +kernel] at hj
  rw [show (sx_cell.get 119).2.2.2.1 = 0 from by decide +kernel] at hlo
  rw [show (sx_cell.get 119).2.2.2.2.1 = 2900 from by decide +kernel] at hhi
  have n0 : 0 ≤ 0 + (1 * γ 18461 + 0) := hn _ (List.Mem.head _)
  have n1 : 0 ≤ 1280 + ((-160) * γ 18461 + ((-1) * γ 18486 + (1 * (j : Int) + 0))) := hn _ (List.Mem.tail _ (List.Mem.head _))
  have n2 : 0 ≤ (-1280) + (160 * γ 18461 + (1 * γ 18486 + ((-1) * (j : Int) + 0))) := hn _ (List.Mem.tail _ (List.Mem.tail _ (List.Mem.head _)))
  have n3 : 0 ≤ (-2) + (1 * γ 18498 + 0) := hn _ (List.Mem.tail _ (List.Mem.tail _ (List.Mem.tail _ (List.Mem.head _))))
  have n4 : 0 ≤ 2 + ((-1) * γ 18498 + 0) := hn _ (List.Mem.tail _ (List.Mem.tail _ (List.Mem.tail _ (List.Mem.tail _ (List.Mem.head _)))))
  have n5 : 0 ≤ 0 + ((-1) * γ 18486 + (1 * γ 18499 + 0)) := hn _ (List.Mem.tail _ (List.Mem.tail _ (List.Mem.tail _ (List.Mem.tail _ (List.Mem.tail _ (List.Mem.head _))))))
  have n6 : 0 ≤ 0 + (1 * γ 18486 + ((-1) * γ 18499 + 0)) := hn _ (List.Mem.tail _ (List.Mem.tail _ (List.Mem.tail _ (List.Mem.tail _ (List.Mem.tail _ (List.Mem.tail _ (List.Mem.head _)))))))
  have n7 : 0 ≤ 2560 + ((-320) * γ 18461 + ((-1) * γ 18500 + (1 * y + 0))) := hn _ (List.Mem.tail _ (List.Mem.tail _ (List.Mem.tail _ (List.Mem.tail _ (List.Mem.tail _ (List.Mem.tail _ (List.Mem.tail _ (List.Mem.head _))))))))
  have n8 : 0 ≤ (-2560) + (320 * γ 18461 + (1 * γ 18500 + ((-1) * y + 0))) := hn _ (List.Mem.tail _ (List.Mem.tail _ (List.Mem.tail _ (List.Mem.tail _ (List.Mem.tail _ (List.Mem.tail _ (List.Mem.tail _ (List.Mem.tail _ (List.Mem.head _)))))))))
  have n9 : 0 ≤ (-1) + (1 * γ 18479 + ((-1) * γ 18486 + 0)) := hn _ (List.Mem.tail _ (List.Mem.tail _ (List.Mem.tail _ (List.Mem.tail _ (List.Mem.tail _ (List.Mem.tail _ (List.Mem.tail _ (List.Mem.tail _ (List.Mem.tail _ (List.Mem.head _))))))))))
  have n10 : 0 ≤ 0 + (1 * γ 18487 + 0) := hn _ (List.Mem.tail _ (List.Mem.tail _ (List.Mem.tail _ (List.Mem.tail _ (List.Mem.tail _ (List.Mem.tail _ (List.Mem.tail _ (List.Mem.tail _ (List.Mem.tail _ (List.Mem.tail _ (List.Mem.head _)))))))))))
  have n11 : 0 ≤ 0 + ((-1) * γ 18487 + 0) := hn _ (List.Mem.tail _ (List.Mem.tail _ (List.Mem.tail _ (List.Mem.tail _ (List.Mem.tail _ (List.Mem.tail _ (List.Mem.tail _ (List.Mem.tail _ (List.Mem.tail _ (List.Mem.tail _ (List.Mem.tail _ (List.Mem.head _))))))))))))
  have n12 : 0 ≤ 1440 + ((-1) * γ 18479 + 0) := hn _ (List.Mem.tail _ (List.Mem.tail _ (List.Mem.tail _ (List.Mem.tail _ (List.Mem.tail _ (List.Mem.tail _ (List.Mem.tail _ (List.Mem.tail _ (List.Mem.tail _ (List.Mem.tail _ (List.Mem.tail _ (List.Mem.tail _ (List.Mem.head _)))))))))))))
  clear hn
  have hG0 := hG
  obtain ⟨g0, g1, g2, g3, g4, g5, g6, g7, g8, g9, g10, g11, g12, g13, g14, g15, g16, g17, g18, g19, g20, g21, g22, g23, g24⟩ := hG0
  have r_D := sx_gr_D hR
  have r_cO := sx_gr_cO hR
  have r_cS := sx_gr_cS hR
  have r_cY := sx_gr_cY hR
  have r_cp := sx_gr_cp hR
  have r_lI := sx_gr_lI hR
  have r_lV := sx_gr_lV hR
  have r_lw := sx_gr_lw hR
  have r_rE := sx_gr_rE hR
  have r_rF := sx_gr_rF hR
  have r_rK := sx_gr_rK hR
  have r_rL := sx_gr_rL hR
  have r_rN := sx_gr_rN hR
  have r_rP := sx_gr_rP hR
  have r_rQ := sx_gr_rQ hR
  have r_rSq := sx_gr_rSq hR
  have r_rSs := sx_gr_rSs hR
  have r_rT0 := sx_gr_rT0 hR
  have r_rT1 := sx_gr_rT1 hR
  have r_rV := sx_gr_rV hR
  have r_sE := sx_gr_sE hR
  have r_sa := sx_gr_sa hR
  have r_sb := sx_gr_sb hR
  have r_sp := sx_gr_sp hR
  have r_tB := sx_gr_tB hR
  have r_tE := sx_gr_tE hR
  have r_w0 := sx_gr_w0 hR
  have r_w1 := sx_gr_w1 hR
  have r_wa := sx_gr_wa hR
  have r_wh := sx_gr_wh hR
  have r_wp := sx_gr_wp hR
  have r_yp := sx_gr_yp hR
  obtain ⟨d_1, d_2, d_3, d_4, d_5, d_6, d_7, d_8⟩ := g14 (by omega)
  obtain ⟨l_1, l_2, l_3, l_4, l_5, l_6, l_7, l_8⟩ := g15
  have hv := l_2 (by omega)
  exact sx_q_s_lfC_0 hG (sx_x1_c (fun p hp8 hne => ⟨by omega, rfl, fun i a b => rfl, fun q2 a b => ⟨(sx_au_o (by omega)), rfl, rfl⟩, fun s2 a b => ⟨rfl, rfl, rfl, rfl⟩⟩) g11) (sx_x2_z (by omega) (by omega) (by omega) (by omega) (by omega) (by omega)) (sx_x3_c (by omega) (by omega) (by omega) (by omega) (by omega) (fun i a b => rfl) (fun q2 a => ⟨sx_au_o (by omega), rfl, rfl⟩) (fun s2 a => ⟨rfl, rfl, rfl, rfl⟩) g13) (fun _ => ⟨d_1, fun q2 a b => ⟨(by rw [sx_au_o (by omega), sx_au_o (by omega)]; exact (d_2 q2 a b).1), (d_2 q2 a b).2.1, (d_2 q2 a b).2.2⟩, (fun _ => by rw [sx_au_s (by omega), sx_au_o (by omega), show (γ 18486).toNat = (γ 18499).toNat by omega]; omega), (fun e => by omega), d_5, d_6, d_7, d_8⟩) (sx_x5_0 (by omega))
theorem sx_p_s_ltA : sx_okr sx_GG true 120 sx_r_s_ltA := by
  intro γ A j y hG hR hj hlo hhi hl hn
  rw [show (sx_cell.get 120).2.2.1 = 2000 from by decide +kernel] at hj
  rw [show (sx_cell.get 120).2.2.2.1 = 0 from by decide +kernel] at hlo
  rw [show (sx_cell.get 120).2.2.2.2.1 = 2900 from by decide +kernel] at hhi
  have n0 : 0 ≤ 0 + ((-1) * γ 18479 + (1 * (j : Int) + 0)) := hn _ (List.Mem.head _)
  have n1 : 0 ≤ 0 + (1 * γ 18479 + ((-1) * (j : Int) + 0)) := hn _ (List.Mem.tail _ (List.Mem.head _))
  have n2 : 0 ≤ (-1) + (1 * γ 18477 + 0) := hn _ (List.Mem.tail _ (List.Mem.tail _ (List.Mem.head _)))
  have n3 : 0 ≤ 1 + ((-1) * γ 18477 + 0) := hn _ (List.Mem.tail _ (List.Mem.tail _ (List.Mem.tail _ (List.Mem.head _))))
  have n4 : 0 ≤ 0 + ((-1) * γ 18475 + (1 * y + 0)) := hn _ (List.Mem.tail _ (List.Mem.tail _ (List.Mem.tail _ (List.Mem.tail _ (List.Mem.head _)))))
  have n5 : 0 ≤ 0 + (1 * γ 18475 + ((-1) * y + 0)) := hn _ (List.Mem.tail _ (List.Mem.tail _ (List.Mem.tail _ (List.Mem.tail _ (List.Mem.tail _ (List.Mem.head _))))))
  have n6 : 0 ≤ 0 + ((-1) * γ 18474 + (1 * γ 18478 + 0)) := hn _ (List.Mem.tail _ (List.Mem.tail _ (List.Mem.tail _ (List.Mem.tail _ (List.Mem.tail _ (List.Mem.tail _ (List.Mem.head _)))))))
  have n7 : 0 ≤ 0 + (1 * γ 18474 + ((-1) * γ 18478 + 0)) := hn _ (List.Mem.tail _ (List.Mem.tail _ (List.Mem.tail _ (List.Mem.tail _ (List.Mem.tail _ (List.Mem.tail _ (List.Mem.tail _ (List.Mem.head _))))))))
  have n8 : 0 ≤ (-1) + ((-1) * γ 18461 + 0) := hn _ (List.Mem.tail _ (List.Mem.tail _ (List.Mem.tail _ (List.Mem.tail _ (List.Mem.tail _ (List.Mem.tail _ (List.Mem.tail _ (List.Mem.tail _ (List.Mem.head _)))))))))
  clear hn
  have hG0 := hG
  obtain ⟨g0, g1, g2, g3, g4, g5, g6, g7, g8, g9, g10, g11, g12, g13, g14, g15, g16, g17, g18, g19, g20, g21, g22, g23, g24⟩ := hG0
  have r_D := sx_gr_D hR
  have r_cO := sx_gr_cO hR
  have r_cS := sx_gr_cS hR
  have r_cY := sx_gr_cY hR
  have r_cp := sx_gr_cp hR
  have r_lI := sx_gr_lI hR
  have r_lV := sx_gr_lV hR
  have r_lw := sx_gr_lw hR
  have r_rE := sx_gr_rE hR
  have r_rF := sx_gr_rF hR
  have r_rK := sx_gr_rK hR
  have r_rL := sx_gr_rL hR
  have r_rN := sx_gr_rN hR
  have r_rP := sx_gr_rP hR
  have r_rQ := sx_gr_rQ hR
  have r_rSq := sx_gr_rSq hR
  have r_rSs := sx_gr_rSs hR
  have r_rT0 := sx_gr_rT0 hR
  have r_rT1 := sx_gr_rT1 hR
  have r_rV := sx_gr_rV hR
  have r_sE := sx_gr_sE hR
  have r_sa := sx_gr_sa hR
  have r_sb := sx_gr_sb hR
  have r_sp := sx_gr_sp hR
  have r_tB := sx_gr_tB hR
  have r_tE := sx_gr_tE hR
  have r_w0 := sx_gr_w0 hR
  have r_w1 := sx_gr_w1 hR
  have r_wa := sx_gr_wa hR
  have r_wh := sx_gr_wh hR
  have r_wp := sx_gr_wp hR
  have r_yp := sx_gr_yp hR
  obtain ⟨w_1, w_2, w_3, w_4, w_5, w_6, w_7, w_8, w_9, w_10⟩ := g13
  have h4 := w_4 (by omega)
  exact sx_q_s_ltA_0 hG (sx_x1_c (fun p hp8 hne => ⟨by omega, rfl, fun i a b => rfl, fun q2 a b => ⟨rfl, (sx_au_o (by omega)), rfl⟩, fun s2 a b => ⟨rfl, rfl, rfl, rfl⟩⟩) g11) (sx_x2_z (by omega) (by omega) (by omega) (by omega) (by omega) (by omega)) ⟨by omega, sx_ho_0 (by omega), (by rw [show ((0 + (1 * y + 0)) - (0 + (1 * y + 0))).toNat = 0 by omega]; show (0 : Int) = _; omega), (fun _ => ⟨h4.1, by omega⟩), (fun _ => ⟨by rw [show (γ 18479).toNat = j by omega, sx_au_s rfl]; omega, sx_ho_e w_2 (by omega) (by omega)⟩), (fun q2 a b => sx_o1_c (by omega) (by omega) (fun i a1 a2 => rfl) rfl (sx_au_o (by omega)) rfl (w_6 q2 a b)), (fun e => ⟨(w_7 e).1, by have := (w_7 e).2; omega⟩), (fun e => ⟨(w_8 e).1, (w_8 e).2.1, by have := (w_8 e).2.2.1; omega, (w_8 e).2.2.2⟩), w_9, (fun s2 a b => ⟨sx_s1_c (by omega) (by omega) (fun i a1 a2 => rfl) rfl rfl (w_10 s2 a b).1, (w_10 s2 a b).2⟩)⟩ (sx_x4_n (by omega)) (sx_x5_0 (by omega))
theorem sx_p_s_ltC : sx_okr sx_GG true 120 sx_r_s_ltC := by
  intro γ A j y hG hR hj hlo hhi hl hn
  rw [show (sx_cell.get 120).2.2.1 = 2000 from by decide +kernel] at hj
  rw [show (sx_cell.get 120).2.2.2.1 = 0 from by decide +kernel] at hlo
  rw [show (sx_cell.get 120).2.2.2.2.1 = 2900 from by decide +kernel] at hhi
  have n0 : 0 ≤ 0 + (1 * γ 18461 + 0) := hn _ (List.Mem.head _)
  have n1 : 0 ≤ 1280 + ((-160) * γ 18461 + ((-1) * γ 18486 + (1 * (j : Int) + 0))) := hn _ (List.Mem.tail _ (List.Mem.head _))
  have n2 : 0 ≤ (-1280) + (160 * γ 18461 + (1 * γ 18486 + ((-1) * (j : Int) + 0))) := hn _ (List.Mem.tail _ (List.Mem.tail _ (List.Mem.head _)))
  have n3 : 0 ≤ (-3) + (1 * γ 18498 + 0) := hn _ (List.Mem.tail _ (List.Mem.tail _ (List.Mem.tail _ (List.Mem.head _))))
  have n4 : 0 ≤ 3 + ((-1) * γ 18498 + 0) := hn _ (List.Mem.tail _ (List.Mem.tail _ (List.Mem.tail _ (List.Mem.tail _ (List.Mem.head _)))))
  have n5 : 0 ≤ 0 + ((-1) * γ 18486 + (1 * γ 18499 + 0)) := hn _ (List.Mem.tail _ (List.Mem.tail _ (List.Mem.tail _ (List.Mem.tail _ (List.Mem.tail _ (List.Mem.head _))))))
  have n6 : 0 ≤ 0 + (1 * γ 18486 + ((-1) * γ 18499 + 0)) := hn _ (List.Mem.tail _ (List.Mem.tail _ (List.Mem.tail _ (List.Mem.tail _ (List.Mem.tail _ (List.Mem.tail _ (List.Mem.head _)))))))
  have n7 : 0 ≤ 2560 + ((-320) * γ 18461 + ((-1) * γ 18500 + (1 * y + 0))) := hn _ (List.Mem.tail _ (List.Mem.tail _ (List.Mem.tail _ (List.Mem.tail _ (List.Mem.tail _ (List.Mem.tail _ (List.Mem.tail _ (List.Mem.head _))))))))
  have n8 : 0 ≤ (-2560) + (320 * γ 18461 + (1 * γ 18500 + ((-1) * y + 0))) := hn _ (List.Mem.tail _ (List.Mem.tail _ (List.Mem.tail _ (List.Mem.tail _ (List.Mem.tail _ (List.Mem.tail _ (List.Mem.tail _ (List.Mem.tail _ (List.Mem.head _)))))))))
  have n9 : 0 ≤ (-1) + (1 * γ 18479 + ((-1) * γ 18486 + 0)) := hn _ (List.Mem.tail _ (List.Mem.tail _ (List.Mem.tail _ (List.Mem.tail _ (List.Mem.tail _ (List.Mem.tail _ (List.Mem.tail _ (List.Mem.tail _ (List.Mem.tail _ (List.Mem.head _))))))))))
  have n10 : 0 ≤ (-1) + (1 * γ 18487 + 0) := hn _ (List.Mem.tail _ (List.Mem.tail _ (List.Mem.tail _ (List.Mem.tail _ (List.Mem.tail _ (List.Mem.tail _ (List.Mem.tail _ (List.Mem.tail _ (List.Mem.tail _ (List.Mem.tail _ (List.Mem.head _)))))))))))
  have n11 : 0 ≤ 1 + ((-1) * γ 18487 + 0) := hn _ (List.Mem.tail _ (List.Mem.tail _ (List.Mem.tail _ (List.Mem.tail _ (List.Mem.tail _ (List.Mem.tail _ (List.Mem.tail _ (List.Mem.tail _ (List.Mem.tail _ (List.Mem.tail _ (List.Mem.tail _ (List.Mem.head _))))))))))))
  have n12 : 0 ≤ 1440 + ((-1) * γ 18479 + 0) := hn _ (List.Mem.tail _ (List.Mem.tail _ (List.Mem.tail _ (List.Mem.tail _ (List.Mem.tail _ (List.Mem.tail _ (List.Mem.tail _ (List.Mem.tail _ (List.Mem.tail _ (List.Mem.tail _ (List.Mem.tail _ (List.Mem.tail _ (List.Mem.head _)))))))))))))
  clear hn
  have hG0 := hG
  obtain ⟨g0, g1, g2, g3, g4, g5, g6, g7, g8, g9, g10, g11, g12, g13, g14, g15, g16, g17, g18, g19, g20, g21, g22, g23, g24⟩ := hG0
  have r_D := sx_gr_D hR
  have r_cO := sx_gr_cO hR
  have r_cS := sx_gr_cS hR
  have r_cY := sx_gr_cY hR
  have r_cp := sx_gr_cp hR
  have r_lI := sx_gr_lI hR
  have r_lV := sx_gr_lV hR
  have r_lw := sx_gr_lw hR
  have r_rE := sx_gr_rE hR
  have r_rF := sx_gr_rF hR
  have r_rK := sx_gr_rK hR
  have r_rL := sx_gr_rL hR
  have r_rN := sx_gr_rN hR
  have r_rP := sx_gr_rP hR
  have r_rQ := sx_gr_rQ hR
  have r_rSq := sx_gr_rSq hR
  have r_rSs := sx_gr_rSs hR
  have r_rT0 := sx_gr_rT0 hR
  have r_rT1 := sx_gr_rT1 hR
  have r_rV := sx_gr_rV hR
  have r_sE := sx_gr_sE hR
  have r_sa := sx_gr_sa hR
  have r_sb := sx_gr_sb hR
  have r_sp := sx_gr_sp hR
  have r_tB := sx_gr_tB hR
  have r_tE := sx_gr_tE hR
  have r_w0 := sx_gr_w0 hR
  have r_w1 := sx_gr_w1 hR
  have r_wa := sx_gr_wa hR
  have r_wh := sx_gr_wh hR
  have r_wp := sx_gr_wp hR
  have r_yp := sx_gr_yp hR
  obtain ⟨d_1, d_2, d_3, d_4, d_5, d_6, d_7, d_8⟩ := g14 (by omega)
  obtain ⟨l_1, l_2, l_3, l_4, l_5, l_6, l_7, l_8⟩ := g15
  have hv := l_3 (by omega)
  exact sx_q_s_ltC_0 hG (sx_x1_c (fun p hp8 hne => ⟨by omega, rfl, fun i a b => rfl, fun q2 a b => ⟨rfl, (sx_au_o (by omega)), rfl⟩, fun s2 a b => ⟨rfl, rfl, rfl, rfl⟩⟩) g11) (sx_x2_z (by omega) (by omega) (by omega) (by omega) (by omega) (by omega)) (sx_x3_c (by omega) (by omega) (by omega) (by omega) (by omega) (fun i a b => rfl) (fun q2 a => ⟨rfl, sx_au_o (by omega), rfl⟩) (fun s2 a => ⟨rfl, rfl, rfl, rfl⟩) g13) (fun _ => ⟨d_1, fun q2 a b => ⟨(d_2 q2 a b).1, (by rw [sx_au_o (by omega), sx_au_o (by omega)]; exact (d_2 q2 a b).2.1), (d_2 q2 a b).2.2⟩, (fun _ => d_3 (by omega)), (fun _ => by rw [sx_au_s (by omega), sx_au_o (by omega), show (γ 18486).toNat = (γ 18499).toNat by omega]; omega), d_5, d_6, d_7, d_8⟩) (sx_x5_0 (by omega))
theorem sx_p_s_rtA : sx_okr sx_GG true 121 sx_r_s_rtA := by
  intro γ A j y hG hR hj hlo hhi hl hn
  rw [show (sx_cell.get 121).2.2.1 = 2000 from by decide +kernel] at hj
  rw [show (sx_cell.get 121).2.2.2.1 = 0 from by decide +kernel] at hlo
  rw [show (sx_cell.get 121).2.2.2.2.1 = 2900 from by decide +kernel] at hhi
  have n0 : 0 ≤ 0 + ((-1) * γ 18479 + (1 * (j : Int) + 0)) := hn _ (List.Mem.head _)
  have n1 : 0 ≤ 0 + (1 * γ 18479 + ((-1) * (j : Int) + 0)) := hn _ (List.Mem.tail _ (List.Mem.head _))
  have n2 : 0 ≤ (-2) + (1 * γ 18477 + 0) := hn _ (List.Mem.tail _ (List.Mem.tail _ (List.Mem.head _)))
  have n3 : 0 ≤ 2 + ((-1) * γ 18477 + 0) := hn _ (List.Mem.tail _ (List.Mem.tail _ (List.Mem.tail _ (List.Mem.head _))))
  have n4 : 0 ≤ 0 + ((-1) * γ 18475 + (1 * y + 0)) := hn _ (List.Mem.tail _ (List.Mem.tail _ (List.Mem.tail _ (List.Mem.tail _ (List.Mem.head _)))))
  have n5 : 0 ≤ 0 + (1 * γ 18475 + ((-1) * y + 0)) := hn _ (List.Mem.tail _ (List.Mem.tail _ (List.Mem.tail _ (List.Mem.tail _ (List.Mem.tail _ (List.Mem.head _))))))
  have n6 : 0 ≤ (-1) + ((-1) * γ 18461 + 0) := hn _ (List.Mem.tail _ (List.Mem.tail _ (List.Mem.tail _ (List.Mem.tail _ (List.Mem.tail _ (List.Mem.tail _ (List.Mem.head _)))))))
  clear hn
  have hG0 := hG
  obtain ⟨g0, g1, g2, g3, g4, g5, g6, g7, g8, g9, g10, g11, g12, g13, g14, g15, g16, g17, g18, g19, g20, g21, g22, g23, g24⟩ := hG0
  have r_D := sx_gr_D hR
  have r_cO := sx_gr_cO hR
  have r_cS := sx_gr_cS hR
  have r_cY := sx_gr_cY hR
  have r_cp := sx_gr_cp hR
  have r_lI := sx_gr_lI hR
  have r_lV := sx_gr_lV hR
  have r_lw := sx_gr_lw hR
  have r_rE := sx_gr_rE hR
  have r_rF := sx_gr_rF hR
  have r_rK := sx_gr_rK hR
  have r_rL := sx_gr_rL hR
  have r_rN := sx_gr_rN hR
  have r_rP := sx_gr_rP hR
  have r_rQ := sx_gr_rQ hR
  have r_rSq := sx_gr_rSq hR
  have r_rSs := sx_gr_rSs hR
  have r_rT0 := sx_gr_rT0 hR
  have r_rT1 := sx_gr_rT1 hR
  have r_rV := sx_gr_rV hR
  have r_sE := sx_gr_sE hR
  have r_sa := sx_gr_sa hR
  have r_sb := sx_gr_sb hR
  have r_sp := sx_gr_sp hR
  have r_tB := sx_gr_tB hR
  have r_tE := sx_gr_tE hR
  have r_w0 := sx_gr_w0 hR
  have r_w1 := sx_gr_w1 hR
  have r_wa := sx_gr_wa hR
  have r_wh := sx_gr_wh hR
  have r_wp := sx_gr_wp hR
  have r_yp := sx_gr_yp hR
  obtain ⟨w_1, w_2, w_3, w_4, w_5, w_6, w_7, w_8, w_9, w_10⟩ := g13
  have h4 := w_4 (by omega)
  have h5 := w_5 (by omega)
  rw [show (γ 18479).toNat = j by omega] at h4 h5
  refine sx_q_s_rtA_0 hG (sx_x1_c (fun p hp8 hne => ⟨by omega, rfl, fun i a b => rfl, fun q2 a b => ⟨rfl, rfl, (sx_au_o (by omega))⟩, fun s2 a b => ⟨rfl, rfl, rfl, rfl⟩⟩) g11) (sx_x2_z (by omega) (by omega) (by omega) (by omega) (by omega) (by omega)) ⟨w_1, w_2, w_3, (fun e => by omega), (fun e => by omega), fun q2 a b => ?_, w_7, w_8, (fun e => ⟨(w_9 e).1, by have := (w_9 e).2; omega⟩), (fun s2 a b => ⟨sx_s1_c (by omega) (by omega) (fun i a1 a2 => rfl) rfl rfl (w_10 s2 a b).1, ⟨(w_10 s2 a b).2.1, (w_10 s2 a b).2.2.1, by have := (w_10 s2 a b).2.2.2; omega⟩⟩)⟩ (sx_x4_n (by omega)) (sx_x5_0 (by omega))
  by_cases e : q2 = j
  · rw [e]
    unfold sx_o1
    rw [sx_au_s rfl, h4.1, h5.1]
    exact ⟨by omega, by omega, by omega, by omega, h5.2, sx_ho_e w_2 rfl (by omega)⟩
  · exact sx_o1_c (by omega) (Int.le_refl _) (fun i a1 a2 => rfl) rfl rfl (sx_au_o e) (w_6 q2 a (by omega))
theorem sx_p_s_rtC : sx_okr sx_GG true 121 sx_r_s_rtC := by
  intro γ A j y hG hR hj hlo hhi hl hn
  rw [show (sx_cell.get 121).2.2.1 = 2000 from by decide +kernel] at hj
  rw [show (sx_cell.get 121).2.2.2.1 = 0 from by decide +kernel] at hlo
  rw [show (sx_cell.get 121).2.2.2.2.1 = 2900 from by decide +kernel] at hhi
  have n0 : 0 ≤ 0 + (1 * γ 18461 + 0) := hn _ (List.Mem.head _)
  have n1 : 0 ≤ 1280 + ((-160) * γ 18461 + ((-1) * γ 18486 + (1 * (j : Int) + 0))) := hn _ (List.Mem.tail _ (List.Mem.head _))
  have n2 : 0 ≤ (-1280) + (160 * γ 18461 + (1 * γ 18486 + ((-1) * (j : Int) + 0))) := hn _ (List.Mem.tail _ (List.Mem.tail _ (List.Mem.head _)))
  have n3 : 0 ≤ (-4) + (1 * γ 18498 + 0) := hn _ (List.Mem.tail _ (List.Mem.tail _ (List.Mem.tail _ (List.Mem.head _))))
  have n4 : 0 ≤ 4 + ((-1) * γ 18498 + 0) := hn _ (List.Mem.tail _ (List.Mem.tail _ (List.Mem.tail _ (List.Mem.tail _ (List.Mem.head _)))))
  have n5 : 0 ≤ 0 + ((-1) * γ 18486 + (1 * γ 18499 + 0)) := hn _ (List.Mem.tail _ (List.Mem.tail _ (List.Mem.tail _ (List.Mem.tail _ (List.Mem.tail _ (List.Mem.head _))))))
  have n6 : 0 ≤ 0 + (1 * γ 18486 + ((-1) * γ 18499 + 0)) := hn _ (List.Mem.tail _ (List.Mem.tail _ (List.Mem.tail _ (List.Mem.tail _ (List.Mem.tail _ (List.Mem.tail _ (List.Mem.head _)))))))
  have n7 : 0 ≤ 2560 + ((-320) * γ 18461 + ((-1) * γ 18500 + (1 * y + 0))) := hn _ (List.Mem.tail _ (List.Mem.tail _ (List.Mem.tail _ (List.Mem.tail _ (List.Mem.tail _ (List.Mem.tail _ (List.Mem.tail _ (List.Mem.head _))))))))
  have n8 : 0 ≤ (-2560) + (320 * γ 18461 + (1 * γ 18500 + ((-1) * y + 0))) := hn _ (List.Mem.tail _ (List.Mem.tail _ (List.Mem.tail _ (List.Mem.tail _ (List.Mem.tail _ (List.Mem.tail _ (List.Mem.tail _ (List.Mem.tail _ (List.Mem.head _)))))))))
  have n9 : 0 ≤ (-1) + (1 * γ 18479 + ((-1) * γ 18486 + 0)) := hn _ (List.Mem.tail _ (List.Mem.tail _ (List.Mem.tail _ (List.Mem.tail _ (List.Mem.tail _ (List.Mem.tail _ (List.Mem.tail _ (List.Mem.tail _ (List.Mem.tail _ (List.Mem.head _))))))))))
  have n10 : 0 ≤ (-2) + (1 * γ 18487 + 0) := hn _ (List.Mem.tail _ (List.Mem.tail _ (List.Mem.tail _ (List.Mem.tail _ (List.Mem.tail _ (List.Mem.tail _ (List.Mem.tail _ (List.Mem.tail _ (List.Mem.tail _ (List.Mem.tail _ (List.Mem.head _)))))))))))
  have n11 : 0 ≤ 2 + ((-1) * γ 18487 + 0) := hn _ (List.Mem.tail _ (List.Mem.tail _ (List.Mem.tail _ (List.Mem.tail _ (List.Mem.tail _ (List.Mem.tail _ (List.Mem.tail _ (List.Mem.tail _ (List.Mem.tail _ (List.Mem.tail _ (List.Mem.tail _ (List.Mem.head _))))))))))))
  have n12 : 0 ≤ 1440 + ((-1) * γ 18479 + 0) := hn _ (List.Mem.tail _ (List.Mem.tail _ (List.Mem.tail _ (List.Mem.tail _ (List.Mem.tail _ (List.Mem.tail _ (List.Mem.tail _ (List.Mem.tail _ (List.Mem.tail _ (List.Mem.tail _ (List.Mem.tail _ (List.Mem.tail _ (List.Mem.head _)))))))))))))
  clear hn
  have hG0 := hG
  obtain ⟨g0, g1, g2, g3, g4, g5, g6, g7, g8, g9, g10, g11, g12, g13, g14, g15, g16, g17, g18, g19, g20, g21, g22, g23, g24⟩ := hG0
  have r_D := sx_gr_D hR
  have r_cO := sx_gr_cO hR
  have r_cS := sx_gr_cS hR
  have r_cY := sx_gr_cY hR
  have r_cp := sx_gr_cp hR
  have r_lI := sx_gr_lI hR
  have r_lV := sx_gr_lV hR
  have r_lw := sx_gr_lw hR
  have r_rE := sx_gr_rE hR
  have r_rF := sx_gr_rF hR
  have r_rK := sx_gr_rK hR
  have r_rL := sx_gr_rL hR
  have r_rN := sx_gr_rN hR
  have r_rP := sx_gr_rP hR
  have r_rQ := sx_gr_rQ hR
  have r_rSq := sx_gr_rSq hR
  have r_rSs := sx_gr_rSs hR
  have r_rT0 := sx_gr_rT0 hR
  have r_rT1 := sx_gr_rT1 hR
  have r_rV := sx_gr_rV hR
  have r_sE := sx_gr_sE hR
  have r_sa := sx_gr_sa hR
  have r_sb := sx_gr_sb hR
  have r_sp := sx_gr_sp hR
  have r_tB := sx_gr_tB hR
  have r_tE := sx_gr_tE hR
  have r_w0 := sx_gr_w0 hR
  have r_w1 := sx_gr_w1 hR
  have r_wa := sx_gr_wa hR
  have r_wh := sx_gr_wh hR
  have r_wp := sx_gr_wp hR
  have r_yp := sx_gr_yp hR
  obtain ⟨d_1, d_2, d_3, d_4, d_5, d_6, d_7, d_8⟩ := g14 (by omega)
  obtain ⟨l_1, l_2, l_3, l_4, l_5, l_6, l_7, l_8⟩ := g15
  have hv := l_4 (by omega)
  have h3 := d_3 (by omega)
  have h4 := d_4 (by omega)
  refine sx_q_s_rtC_0 hG (sx_x1_c (fun p hp8 hne => ⟨by omega, rfl, fun i a b => rfl, fun q2 a b => ⟨rfl, rfl, (sx_au_o (by omega))⟩, fun s2 a b => ⟨rfl, rfl, rfl, rfl⟩⟩) g11) (sx_x2_z (by omega) (by omega) (by omega) (by omega) (by omega) (by omega)) (sx_x3_c (by omega) (by omega) (by omega) (by omega) (by omega) (fun i a b => rfl) (fun q2 a => ⟨rfl, rfl, sx_au_o (by omega)⟩) (fun s2 a => ⟨rfl, rfl, rfl, rfl⟩) g13) (fun _ => ⟨d_1, fun q2 a b => ?_, (fun e => absurd e (by decide)), (fun e => absurd e (by decide)), d_5, d_6, d_7, d_8⟩) (sx_x5_0 (by omega))
  by_cases e : (q2 : Int) = γ 18486
  · have e2 : q2 = (γ 18486).toNat := by omega
    rw [e2]
    refine ⟨h3, h4, ?_⟩
    rw [sx_au_s (by omega), sx_au_o (by omega), show (γ 18486).toNat = (γ 18499).toNat by omega]
    omega
  · rw [sx_au_o (by omega), sx_au_o (by omega)]
    exact d_2 q2 a (by omega)
theorem sx_p_s_zS0a : sx_okr sx_GG true 123 sx_r_s_zS0a := by
  intro γ A j y hG hR hj hlo hhi hl hn
  rw [show (sx_cell.get 123).2.2.1 = 8 from by decide +kernel] at hj
  rw [show (sx_cell.get 123).2.2.2.1 = 0 from by decide +kernel] at hlo
  rw [show (sx_cell.get 123).2.2.2.2.1 = 45 from by decide +kernel] at hhi
  have n0 : 0 ≤ 0 + (1 * (j : Int) + 0) := hn _ (List.Mem.head _)
  have n1 : 0 ≤ 0 + ((-1) * (j : Int) + 0) := hn _ (List.Mem.tail _ (List.Mem.head _))
  have n2 : 0 ≤ 0 + (1 * y + 0) := hn _ (List.Mem.tail _ (List.Mem.tail _ (List.Mem.head _)))
  have n3 : 0 ≤ 0 + ((-1) * y + 0) := hn _ (List.Mem.tail _ (List.Mem.tail _ (List.Mem.tail _ (List.Mem.head _))))
  clear hn
  have hG0 := hG
  obtain ⟨g0, g1, g2, g3, g4, g5, g6, g7, g8, g9, g10, g11, g12, g13, g14, g15, g16, g17, g18, g19, g20, g21, g22, g23, g24⟩ := hG0
  have r_zS0 := sx_gr_zS0 hR
  have r_zS1 := sx_gr_zS1 hR
  have r_zS2 := sx_gr_zS2 hR
  have r_zS3 := sx_gr_zS3 hR
  have r_zS4 := sx_gr_zS4 hR
  have r_zS5 := sx_gr_zS5 hR
  have r_zS6 := sx_gr_zS6 hR
  obtain ⟨z0, z1, z2, z3, z4, z5, z6⟩ := g4
  have e : j = 0 := by omega
  subst e
  exact sx_q_s_zS0a_0 hG ⟨(by rw [sx_au_s rfl]; exact Or.inl ⟨by omega, by omega⟩), (by rw [sx_au_o (by decide)]; exact z1), (by rw [sx_au_o (by decide)]; exact z2), (by rw [sx_au_o (by decide)]; exact z3), (by rw [sx_au_o (by decide)]; exact z4), (by rw [sx_au_o (by decide)]; exact z5), (by rw [sx_au_o (by decide)]; exact z6)⟩
theorem sx_p_s_zS0b : sx_okr sx_GG true 123 sx_r_s_zS0b := by
  intro γ A j y hG hR hj hlo hhi hl hn
  rw [show (sx_cell.get 123).2.2.1 = 8 from by decide +kernel] at hj
  rw [show (sx_cell.get 123).2.2.2.1 = 0 from by decide +kernel] at hlo
  rw [show (sx_cell.get 123).2.2.2.2.1 = 45 from by decide +kernel] at hhi
  have n0 : 0 ≤ 0 + (1 * (j : Int) + 0) := hn _ (List.Mem.head _)
  have n1 : 0 ≤ 0 + ((-1) * (j : Int) + 0) := hn _ (List.Mem.tail _ (List.Mem.head _))
  have n2 : 0 ≤ (-42) + (1 * y + 0) := hn _ (List.Mem.tail _ (List.Mem.tail _ (List.Mem.head _)))
  clear hn
  have hG0 := hG
  obtain ⟨g0, g1, g2, g3, g4, g5, g6, g7, g8, g9, g10, g11, g12, g13, g14, g15, g16, g17, g18, g19, g20, g21, g22, g23, g24⟩ := hG0
  have r_zS0 := sx_gr_zS0 hR
  have r_zS1 := sx_gr_zS1 hR
  have r_zS2 := sx_gr_zS2 hR
  have r_zS3 := sx_gr_zS3 hR
  have r_zS4 := sx_gr_zS4 hR
  have r_zS5 := sx_gr_zS5 hR
  have r_zS6 := sx_gr_zS6 hR
  obtain ⟨z0, z1, z2, z3, z4, z5, z6⟩ := g4
  have e : j = 0 := by omega
  subst e
  exact sx_q_s_zS0b_0 hG ⟨(by rw [sx_au_s rfl]; exact Or.inr ⟨by omega, by omega⟩), (by rw [sx_au_o (by decide)]; exact z1), (by rw [sx_au_o (by decide)]; exact z2), (by rw [sx_au_o (by decide)]; exact z3), (by rw [sx_au_o (by decide)]; exact z4), (by rw [sx_au_o (by decide)]; exact z5), (by rw [sx_au_o (by decide)]; exact z6)⟩
theorem sx_p_s_zS1a : sx_okr sx_GG true 123 sx_r_s_zS1a := by
  intro γ A j y hG hR hj hlo hhi hl hn
  rw [show (sx_cell.get 123).2.2.1 = 8 from by decide +kernel] at hj
  rw [show (sx_cell.get 123).2.2.2.1 = 0 from by decide +kernel] at hlo
  rw [show (sx_cell.get 123).2.2.2.2.1 = 45 from by decide +kernel] at hhi
  have n0 : 0 ≤ (-1) + (1 * (j : Int) + 0) := hn _ (List.Mem.head _)
  have n1 : 0 ≤ 1 + ((-1) * (j : Int) + 0) := hn _ (List.Mem.tail _ (List.Mem.head _))
  have n2 : 0 ≤ 0 + (1 * y + 0) := hn _ (List.Mem.tail _ (List.Mem.tail _ (List.Mem.head _)))
  have n3 : 0 ≤ 0 + ((-1) * y + 0) := hn _ (List.Mem.tail _ (List.Mem.tail _ (List.Mem.tail _ (List.Mem.head _))))
  clear hn
  have hG0 := hG
  obtain ⟨g0, g1, g2, g3, g4, g5, g6, g7, g8, g9, g10, g11, g12, g13, g14, g15, g16, g17, g18, g19, g20, g21, g22, g23, g24⟩ := hG0
  have r_zS0 := sx_gr_zS0 hR
  have r_zS1 := sx_gr_zS1 hR
  have r_zS2 := sx_gr_zS2 hR
  have r_zS3 := sx_gr_zS3 hR
  have r_zS4 := sx_gr_zS4 hR
  have r_zS5 := sx_gr_zS5 hR
  have r_zS6 := sx_gr_zS6 hR
  obtain ⟨z0, z1, z2, z3, z4, z5, z6⟩ := g4
  have e : j = 1 := by omega
  subst e
  exact sx_q_s_zS1a_0 hG ⟨(by rw [sx_au_o (by decide)]; exact z0), (by rw [sx_au_s rfl]; exact Or.inl ⟨by omega, by omega⟩), (by rw [sx_au_o (by decide)]; exact z2), (by rw [sx_au_o (by decide)]; exact z3), (by rw [sx_au_o (by decide)]; exact z4), (by rw [sx_au_o (by decide)]; exact z5), (by rw [sx_au_o (by decide)]; exact z6)⟩
theorem sx_p_s_zS1b : sx_okr sx_GG true 123 sx_r_s_zS1b := by
  intro γ A j y hG hR hj hlo hhi hl hn
  rw [show (sx_cell.get 123).2.2.1 = 8 from by decide +kernel] at hj
  rw [show (sx_cell.get 123).2.2.2.1 = 0 from by decide +kernel] at hlo
  rw [show (sx_cell.get 123).2.2.2.2.1 = 45 from by decide +kernel] at hhi
  have n0 : 0 ≤ (-1) + (1 * (j : Int) + 0) := hn _ (List.Mem.head _)
  have n1 : 0 ≤ 1 + ((-1) * (j : Int) + 0) := hn _ (List.Mem.tail _ (List.Mem.head _))
  have n2 : 0 ≤ (-42) + (1 * y + 0) := hn _ (List.Mem.tail _ (List.Mem.tail _ (List.Mem.head _)))
  clear hn
  have hG0 := hG
  obtain ⟨g0, g1, g2, g3, g4, g5, g6, g7, g8, g9, g10, g11, g12, g13, g14, g15, g16, g17, g18, g19, g20, g21, g22, g23, g24⟩ := hG0
  have r_zS0 := sx_gr_zS0 hR
  have r_zS1 := sx_gr_zS1 hR
  have r_zS2 := sx_gr_zS2 hR
  have r_zS3 := sx_gr_zS3 hR
  have r_zS4 := sx_gr_zS4 hR
  have r_zS5 := sx_gr_zS5 hR
  have r_zS6 := sx_gr_zS6 hR
  obtain ⟨z0, z1, z2, z3, z4, z5, z6⟩ := g4
  have e : j = 1 := by omega
  subst e
  exact sx_q_s_zS1b_0 hG ⟨(by rw [sx_au_o (by decide)]; exact z0), (by rw [sx_au_s rfl]; exact Or.inr ⟨by omega, by omega⟩), (by rw [sx_au_o (by decide)]; exact z2), (by rw [sx_au_o (by decide)]; exact z3), (by rw [sx_au_o (by decide)]; exact z4), (by rw [sx_au_o (by decide)]; exact z5), (by rw [sx_au_o (by decide)]; exact z6)⟩
theorem sx_p_s_zS2a : sx_okr sx_GG true 123 sx_r_s_zS2a := by
  intro γ A j y hG hR hj hlo hhi hl hn
  rw [show (sx_cell.get 123).2.2.1 = 8 from by decide +kernel] at hj
  rw [show (sx_cell.get 123).2.2.2.1 = 0 from by decide +kernel] at hlo
  rw [show (sx_cell.get 123).2.2.2.2.1 = 45 from by decide +kernel] at hhi
  have n0 : 0 ≤ (-2) + (1 * (j : Int) + 0) := hn _ (List.Mem.head _)
  have n1 : 0 ≤ 2 + ((-1) * (j : Int) + 0) := hn _ (List.Mem.tail _ (List.Mem.head _))
  have n2 : 0 ≤ 0 + (1 * y + 0) := hn _ (List.Mem.tail _ (List.Mem.tail _ (List.Mem.head _)))
  have n3 : 0 ≤ 0 + ((-1) * y + 0) := hn _ (List.Mem.tail _ (List.Mem.tail _ (List.Mem.tail _ (List.Mem.head _))))
  clear hn
  have hG0 := hG
  obtain ⟨g0, g1, g2, g3, g4, g5, g6, g7, g8, g9, g10, g11, g12, g13, g14, g15, g16, g17, g18, g19, g20, g21, g22, g23, g24⟩ := hG0
  have r_zS0 := sx_gr_zS0 hR
  have r_zS1 := sx_gr_zS1 hR
  have r_zS2 := sx_gr_zS2 hR
  have r_zS3 := sx_gr_zS3 hR
  have r_zS4 := sx_gr_zS4 hR
  have r_zS5 := sx_gr_zS5 hR
  have r_zS6 := sx_gr_zS6 hR
  obtain ⟨z0, z1, z2, z3, z4, z5, z6⟩ := g4
  have e : j = 2 := by omega
  subst e
  exact sx_q_s_zS2a_0 hG ⟨(by rw [sx_au_o (by decide)]; exact z0), (by rw [sx_au_o (by decide)]; exact z1), (by rw [sx_au_s rfl]; exact Or.inl ⟨by omega, by omega⟩), (by rw [sx_au_o (by decide)]; exact z3), (by rw [sx_au_o (by decide)]; exact z4), (by rw [sx_au_o (by decide)]; exact z5), (by rw [sx_au_o (by decide)]; exact z6)⟩
theorem sx_p_s_zS2b : sx_okr sx_GG true 123 sx_r_s_zS2b := by
  intro γ A j y hG hR hj hlo hhi hl hn
  rw [show (sx_cell.get 123).2.2.1 = 8 from by decide +kernel] at hj
  rw [show (sx_cell.get 123).2.2.2.1 = 0 from by decide +kernel] at hlo
  rw [show (sx_cell.get 123).2.2.2.2.1 = 45 from by decide +kernel] at hhi
  have n0 : 0 ≤ (-2) + (1 * (j : Int) + 0) := hn _ (List.Mem.head _)
  have n1 : 0 ≤ 2 + ((-1) * (j : Int) + 0) := hn _ (List.Mem.tail _ (List.Mem.head _))
  have n2 : 0 ≤ (-42) + (1 * y + 0) := hn _ (List.Mem.tail _ (List.Mem.tail _ (List.Mem.head _)))
  clear hn
  have hG0 := hG
  obtain ⟨g0, g1, g2, g3, g4, g5, g6, g7, g8, g9, g10, g11, g12, g13, g14, g15, g16, g17, g18, g19, g20, g21, g22, g23, g24⟩ := hG0
  have r_zS0 := sx_gr_zS0 hR
  have r_zS1 := sx_gr_zS1 hR
  have r_zS2 := sx_gr_zS2 hR
  have r_zS3 := sx_gr_zS3 hR
  have r_zS4 := sx_gr_zS4 hR
  have r_zS5 := sx_gr_zS5 hR
  have r_zS6 := sx_gr_zS6 hR
  obtain ⟨z0, z1, z2, z3, z4, z5, z6⟩ := g4
  have e : j = 2 := by omega
  subst e
  exact sx_q_s_zS2b_0 hG ⟨(by rw [sx_au_o (by decide)]; exact z0), (by rw [sx_au_o (by decide)]; exact z1), (by rw [sx_au_s rfl]; exact Or.inr ⟨by omega, by omega⟩), (by rw [sx_au_o (by decide)]; exact z3), (by rw [sx_au_o (by decide)]; exact z4), (by rw [sx_au_o (by decide)]; exact z5), (by rw [sx_au_o (by decide)]; exact z6)⟩
theorem sx_p_s_zS3a : sx_okr sx_GG true 123 sx_r_s_zS3a := by
  intro γ A j y hG hR hj hlo hhi hl hn
  rw [show (sx_cell.get 123).2.2.1 = 8 from by decide +kernel] at hj
  rw [show (sx_cell.get 123).2.2.2.1 = 0 from by decide +kernel] at hlo
  rw [show (sx_cell.get 123).2.2.2.2.1 = 45 from by decide +kernel] at hhi
  have n0 : 0 ≤ (-3) + (1 * (j : Int) + 0) := hn _ (List.Mem.head _)
  have n1 : 0 ≤ 3 + ((-1) * (j : Int) + 0) := hn _ (List.Mem.tail _ (List.Mem.head _))
  have n2 : 0 ≤ 0 + (1 * y + 0) := hn _ (List.Mem.tail _ (List.Mem.tail _ (List.Mem.head _)))
  have n3 : 0 ≤ 0 + ((-1) * y + 0) := hn _ (List.Mem.tail _ (List.Mem.tail _ (List.Mem.tail _ (List.Mem.head _))))
  clear hn
  have hG0 := hG
  obtain ⟨g0, g1, g2, g3, g4, g5, g6, g7, g8, g9, g10, g11, g12, g13, g14, g15, g16, g17, g18, g19, g20, g21, g22, g23, g24⟩ := hG0
  have r_zS0 := sx_gr_zS0 hR
  have r_zS1 := sx_gr_zS1 hR
  have r_zS2 := sx_gr_zS2 hR
  have r_zS3 := sx_gr_zS3 hR
  have r_zS4 := sx_gr_zS4 hR
  have r_zS5 := sx_gr_zS5 hR
  have r_zS6 := sx_gr_zS6 hR
  obtain ⟨z0, z1, z2, z3, z4, z5, z6⟩ := g4
  have e : j = 3 := by omega
  subst e
  exact sx_q_s_zS3a_0 hG ⟨(by rw [sx_au_o (by decide)]; exact z0), (by rw [sx_au_o (by decide)]; exact z1), (by rw [sx_au_o (by decide)]; exact z2), (by rw [sx_au_s rfl]; exact Or.inl ⟨by omega, by omega⟩), (by rw [sx_au_o (by decide)]; exact z4), (by rw [sx_au_o (by decide)]; exact z5), (by rw [sx_au_o (by decide)]; exact z6)⟩
theorem sx_p_s_zS3b : sx_okr sx_GG true 123 sx_r_s_zS3b := by
  intro γ A j y hG hR hj hlo hhi hl hn
  rw [show (sx_cell.get 123).2.2.1 = 8 from by decide +kernel] at hj
  rw [show (sx_cell.get 123).2.2.2.1 = 0 from by decide +kernel] at hlo
  rw [show (sx_cell.get 123).2.2.2.2.1 = 45 from by decide +kernel] at hhi
  have n0 : 0 ≤ (-3) + (1 * (j : Int) + 0) := hn _ (List.Mem.head _)
  have n1 : 0 ≤ 3 + ((-1) * (j : Int) + 0) := hn _ (List.Mem.tail _ (List.Mem.head _))
  have n2 : 0 ≤ (-42) + (1 * y + 0) := hn _ (List.Mem.tail _ (List.Mem.tail _ (List.Mem.head _)))
  clear hn
  have hG0 := hG
  obtain ⟨g0, g1, g2, g3, g4, g5, g6, g7, g8, g9, g10, g11, g12, g13, g14, g15, g16, g17, g18, g19, g20, g21, g22, g23, g24⟩ := hG0
  have r_zS0 := sx_gr_zS0 hR
  have r_zS1 := sx_gr_zS1 hR
  have r_zS2 := sx_gr_zS2 hR
  have r_zS3 := sx_gr_zS3 hR
  have r_zS4 := sx_gr_zS4 hR
  have r_zS5 := sx_gr_zS5 hR
  have r_zS6 := sx_gr_zS6 hR
  obtain ⟨z0, z1, z2, z3, z4, z5, z6⟩ := g4
  have e : j = 3 := by omega
  subst e
  exact sx_q_s_zS3b_0 hG ⟨(by rw [sx_au_o (by decide)]; exact z0), (by rw [sx_au_o (by decide)]; exact z1), (by rw [sx_au_o (by decide)]; exact z2), (by rw [sx_au_s rfl]; exact Or.inr ⟨by omega, by omega⟩), (by rw [sx_au_o (by decide)]; exact z4), (by rw [sx_au_o (by decide)]; exact z5), (by rw [sx_au_o (by decide)]; exact z6)⟩
theorem sx_p_s_zS4a : sx_okr sx_GG true 123 sx_r_s_zS4a := by
  intro γ A j y hG hR hj hlo hhi hl hn
  rw [show (sx_cell.get 123).2.2.1 = 8 from by decide +kernel] at hj
  rw [show (sx_cell.get 123).2.2.2.1 = 0 from by decide +kernel] at hlo
  rw [show (sx_cell.get 123).2.2.2.2.1 = 45 from by decide +kernel] at hhi
  have n0 : 0 ≤ (-4) + (1 * (j : Int) + 0) := hn _ (List.Mem.head _)
  have n1 : 0 ≤ 4 + ((-1) * (j : Int) + 0) := hn _ (List.Mem.tail _ (List.Mem.head _))
  have n2 : 0 ≤ 0 + (1 * y + 0) := hn _ (List.Mem.tail _ (List.Mem.tail _ (List.Mem.head _)))
  have n3 : 0 ≤ 0 + ((-1) * y + 0) := hn _ (List.Mem.tail _ (List.Mem.tail _ (List.Mem.tail _ (List.Mem.head _))))
  clear hn
  have hG0 := hG
  obtain ⟨g0, g1, g2, g3, g4, g5, g6, g7, g8, g9, g10, g11, g12, g13, g14, g15, g16, g17, g18, g19, g20, g21, g22, g23, g24⟩ := hG0
  have r_zS0 := sx_gr_zS0 hR
  have r_zS1 := sx_gr_zS1 hR
  have r_zS2 := sx_gr_zS2 hR
  have r_zS3 := sx_gr_zS3 hR
  have r_zS4 := sx_gr_zS4 hR
  have r_zS5 := sx_gr_zS5 hR
  have r_zS6 := sx_gr_zS6 hR
  obtain ⟨z0, z1, z2, z3, z4, z5, z6⟩ := g4
  have e : j = 4 := by omega
  subst e
  exact sx_q_s_zS4a_0 hG ⟨(by rw [sx_au_o (by decide)]; exact z0), (by rw [sx_au_o (by decide)]; exact z1), (by rw [sx_au_o (by decide)]; exact z2), (by rw [sx_au_o (by decide)]; exact z3), (by rw [sx_au_s rfl]; exact Or.inl ⟨by omega, by omega⟩), (by rw [sx_au_o (by decide)]; exact z5), (by rw [sx_au_o (by decide)]; exact z6)⟩
theorem sx_p_s_zS4b : sx_okr sx_GG true 123 sx_r_s_zS4b := by
  intro γ A j y hG hR hj hlo hhi hl hn
  rw [show (sx_cell.get 123).2.2.1 = 8 from by decide +kernel] at hj
  rw [show (sx_cell.get 123).2.2.2.1 = 0 from by decide +kernel] at hlo
  rw [show (sx_cell.get 123).2.2.2.2.1 = 45 from by decide +kernel] at hhi
  have n0 : 0 ≤ (-4) + (1 * (j : Int) + 0) := hn _ (List.Mem.head _)
  have n1 : 0 ≤ 4 + ((-1) * (j : Int) + 0) := hn _ (List.Mem.tail _ (List.Mem.head _))
  have n2 : 0 ≤ (-42) + (1 * y + 0) := hn _ (List.Mem.tail _ (List.Mem.tail _ (List.Mem.head _)))
  clear hn
  have hG0 := hG
  obtain ⟨g0, g1, g2, g3, g4, g5, g6, g7, g8, g9, g10, g11, g12, g13, g14, g15, g16, g17, g18, g19, g20, g21, g22, g23, g24⟩ := hG0
  have r_zS0 := sx_gr_zS0 hR
  have r_zS1 := sx_gr_zS1 hR
  have r_zS2 := sx_gr_zS2 hR
  have r_zS3 := sx_gr_zS3 hR
  have r_zS4 := sx_gr_zS4 hR
  have r_zS5 := sx_gr_zS5 hR
  have r_zS6 := sx_gr_zS6 hR
  obtain ⟨z0, z1, z2, z3, z4, z5, z6⟩ := g4
  have e : j = 4 := by omega
  subst e
  exact sx_q_s_zS4b_0 hG ⟨(by rw [sx_au_o (by decide)]; exact z0), (by rw [sx_au_o (by decide)]; exact z1), (by rw [sx_au_o (by decide)]; exact z2), (by rw [sx_au_o (by decide)]; exact z3), (by rw [sx_au_s rfl]; exact Or.inr ⟨by omega, by omega⟩), (by rw [sx_au_o (by decide)]; exact z5), (by rw [sx_au_o (by decide)]; exact z6)⟩
theorem sx_p_s_zS5a : sx_okr sx_GG true 123 sx_r_s_zS5a := by
  intro γ A j y hG hR hj hlo hhi hl hn
  rw [show (sx_cell.get 123).2.2.1 = 8 from by decide +kernel] at hj
  rw [show (sx_cell.get 123).2.2.2.1 = 0 from by decide +kernel] at hlo
  rw [show (sx_cell.get 123).2.2.2.2.1 = 45 from by decide +kernel] at hhi
  have n0 : 0 ≤ (-5) + (1 * (j : Int) + 0) := hn _ (List.Mem.head _)
  have n1 : 0 ≤ 5 + ((-1) * (j : Int) + 0) := hn _ (List.Mem.tail _ (List.Mem.head _))
  have n2 : 0 ≤ 0 + (1 * y + 0) := hn _ (List.Mem.tail _ (List.Mem.tail _ (List.Mem.head _)))
  have n3 : 0 ≤ 0 + ((-1) * y + 0) := hn _ (List.Mem.tail _ (List.Mem.tail _ (List.Mem.tail _ (List.Mem.head _))))
  clear hn
  have hG0 := hG
  obtain ⟨g0, g1, g2, g3, g4, g5, g6, g7, g8, g9, g10, g11, g12, g13, g14, g15, g16, g17, g18, g19, g20, g21, g22, g23, g24⟩ := hG0
  have r_zS0 := sx_gr_zS0 hR
  have r_zS1 := sx_gr_zS1 hR
  have r_zS2 := sx_gr_zS2 hR
  have r_zS3 := sx_gr_zS3 hR
  have r_zS4 := sx_gr_zS4 hR
  have r_zS5 := sx_gr_zS5 hR
  have r_zS6 := sx_gr_zS6 hR
  obtain ⟨z0, z1, z2, z3, z4, z5, z6⟩ := g4
  have e : j = 5 := by omega
  subst e
  exact sx_q_s_zS5a_0 hG ⟨(by rw [sx_au_o (by decide)]; exact z0), (by rw [sx_au_o (by decide)]; exact z1), (by rw [sx_au_o (by decide)]; exact z2), (by rw [sx_au_o (by decide)]; exact z3), (by rw [sx_au_o (by decide)]; exact z4), (by rw [sx_au_s rfl]; exact Or.inl ⟨by omega, by omega⟩), (by rw [sx_au_o (by decide)]; exact z6)⟩
theorem sx_p_s_zS5b : sx_okr sx_GG true 123 sx_r_s_zS5b := by
  intro γ A j y hG hR hj hlo hhi hl hn
  rw [show (sx_cell.get 123).2.2.1 = 8 from by decide +kernel] at hj
  rw [show (sx_cell.get 123).2.2.2.1 = 0 from by decide +kernel] at hlo
  rw [show (sx_cell.get 123).2.2.2.2.1 = 45 from by decide +kernel] at hhi
  have n0 : 0 ≤ (-5) + (1 * (j : Int) + 0) := hn _ (List.Mem.head _)
  have n1 : 0 ≤ 5 + ((-1) * (j : Int) + 0) := hn _ (List.Mem.tail _ (List.Mem.head _))
  have n2 : 0 ≤ (-42) + (1 * y + 0) := hn _ (List.Mem.tail _ (List.Mem.tail _ (List.Mem.head _)))
  clear hn
  have hG0 := hG
  obtain ⟨g0, g1, g2, g3, g4, g5, g6, g7, g8, g9, g10, g11, g12, g13, g14, g15, g16, g17, g18, g19, g20, g21, g22, g23, g24⟩ := hG0
  have r_zS0 := sx_gr_zS0 hR
  have r_zS1 := sx_gr_zS1 hR
  have r_zS2 := sx_gr_zS2 hR
  have r_zS3 := sx_gr_zS3 hR
  have r_zS4 := sx_gr_zS4 hR
  have r_zS5 := sx_gr_zS5 hR
  have r_zS6 := sx_gr_zS6 hR
  obtain ⟨z0, z1, z2, z3, z4, z5, z6⟩ := g4
  have e : j = 5 := by omega
  subst e
  exact sx_q_s_zS5b_0 hG ⟨(by rw [sx_au_o (by decide)]; exact z0), (by rw [sx_au_o (by decide)]; exact z1), (by rw [sx_au_o (by decide)]; exact z2), (by rw [sx_au_o (by decide)]; exact z3), (by rw [sx_au_o (by decide)]; exact z4), (by rw [sx_au_s rfl]; exact Or.inr ⟨by omega, by omega⟩), (by rw [sx_au_o (by decide)]; exact z6)⟩
theorem sx_p_s_zS6a : sx_okr sx_GG true 123 sx_r_s_zS6a := by
  intro γ A j y hG hR hj hlo hhi hl hn
  rw [show (sx_cell.get 123).2.2.1 = 8 from by decide +kernel] at hj
  rw [show (sx_cell.get 123).2.2.2.1 = 0 from by decide +kernel] at hlo
  rw [show (sx_cell.get 123).2.2.2.2.1 = 45 from by decide +kernel] at hhi
  have n0 : 0 ≤ (-6) + (1 * (j : Int) + 0) := hn _ (List.Mem.head _)
  have n1 : 0 ≤ 6 + ((-1) * (j : Int) + 0) := hn _ (List.Mem.tail _ (List.Mem.head _))
  have n2 : 0 ≤ 0 + (1 * y + 0) := hn _ (List.Mem.tail _ (List.Mem.tail _ (List.Mem.head _)))
  have n3 : 0 ≤ 0 + ((-1) * y + 0) := hn _ (List.Mem.tail _ (List.Mem.tail _ (List.Mem.tail _ (List.Mem.head _))))
  clear hn
  have hG0 := hG
  obtain ⟨g0, g1, g2, g3, g4, g5, g6, g7, g8, g9, g10, g11, g12, g13, g14, g15, g16, g17, g18, g19, g20, g21, g22, g23, g24⟩ := hG0
  have r_zS0 := sx_gr_zS0 hR
  have r_zS1 := sx_gr_zS1 hR
  have r_zS2 := sx_gr_zS2 hR
  have r_zS3 := sx_gr_zS3 hR
  have r_zS4 := sx_gr_zS4 hR
  have r_zS5 := sx_gr_zS5 hR
  have r_zS6 := sx_gr_zS6 hR
  obtain ⟨z0, z1, z2, z3, z4, z5, z6⟩ := g4
  have e : j = 6 := by omega
  subst e
  exact sx_q_s_zS6a_0 hG ⟨(by rw [sx_au_o (by decide)]; exact z0), (by rw [sx_au_o (by decide)]; exact z1), (by rw [sx_au_o (by decide)]; exact z2), (by rw [sx_au_o (by decide)]; exact z3), (by rw [sx_au_o (by decide)]; exact z4), (by rw [sx_au_o (by decide)]; exact z5), (by rw [sx_au_s rfl]; exact Or.inl ⟨by omega, by omega⟩)⟩
theorem sx_p_s_zS6b : sx_okr sx_GG true 123 sx_r_s_zS6b := by
  intro γ A j y hG hR hj hlo hhi hl hn
  rw [show (sx_cell.get 123).2.2.1 = 8 from by decide +kernel] at hj
  rw [show (sx_cell.get 123).2.2.2.1 = 0 from by decide +kernel] at hlo
  rw [show (sx_cell.get 123).2.2.2.2.1 = 45 from by decide +kernel] at hhi
  have n0 : 0 ≤ (-6) + (1 * (j : Int) + 0) := hn _ (List.Mem.head _)
  have n1 : 0 ≤ 6 + ((-1) * (j : Int) + 0) := hn _ (List.Mem.tail _ (List.Mem.head _))
  have n2 : 0 ≤ (-42) + (1 * y + 0) := hn _ (List.Mem.tail _ (List.Mem.tail _ (List.Mem.head _)))
  clear hn
  have hG0 := hG
  obtain ⟨g0, g1, g2, g3, g4, g5, g6, g7, g8, g9, g10, g11, g12, g13, g14, g15, g16, g17, g18, g19, g20, g21, g22, g23, g24⟩ := hG0
  have r_zS0 := sx_gr_zS0 hR
  have r_zS1 := sx_gr_zS1 hR
  have r_zS2 := sx_gr_zS2 hR
  have r_zS3 := sx_gr_zS3 hR
  have r_zS4 := sx_gr_zS4 hR
  have r_zS5 := sx_gr_zS5 hR
  have r_zS6 := sx_gr_zS6 hR
  obtain ⟨z0, z1, z2, z3, z4, z5, z6⟩ := g4
  have e : j = 6 := by omega
  subst e
  exact sx_q_s_zS6b_0 hG ⟨(by rw [sx_au_o (by decide)]; exact z0), (by rw [sx_au_o (by decide)]; exact z1), (by rw [sx_au_o (by decide)]; exact z2), (by rw [sx_au_o (by decide)]; exact z3), (by rw [sx_au_o (by decide)]; exact z4), (by rw [sx_au_o (by decide)]; exact z5), (by rw [sx_au_s rfl]; exact Or.inr ⟨by omega, by omega⟩)⟩
theorem sx_p_s_zI0a : sx_okr sx_GG true 124 sx_r_s_zI0a := by
  intro γ A j y hG hR hj hlo hhi hl hn
  rw [show (sx_cell.get 124).2.2.1 = 8 from by decide +kernel] at hj
  rw [show (sx_cell.get 124).2.2.2.1 = 0 from by decide +kernel] at hlo
  rw [show (sx_cell.get 124).2.2.2.2.1 = 42 from by decide +kernel] at hhi
  have n0 : 0 ≤ 0 + (1 * (j : Int) + 0) := hn _ (List.Mem.head _)
  have n1 : 0 ≤ 0 + ((-1) * (j : Int) + 0) := hn _ (List.Mem.tail _ (List.Mem.head _))
  have n2 : 0 ≤ 0 + (1 * y + 0) := hn _ (List.Mem.tail _ (List.Mem.tail _ (List.Mem.head _)))
  have n3 : 0 ≤ 0 + ((-1) * y + 0) := hn _ (List.Mem.tail _ (List.Mem.tail _ (List.Mem.tail _ (List.Mem.head _))))
  clear hn
  have hG0 := hG
  obtain ⟨g0, g1, g2, g3, g4, g5, g6, g7, g8, g9, g10, g11, g12, g13, g14, g15, g16, g17, g18, g19, g20, g21, g22, g23, g24⟩ := hG0
  have r_zI0 := sx_gr_zI0 hR
  have r_zI1 := sx_gr_zI1 hR
  have r_zI2 := sx_gr_zI2 hR
  have r_zI3 := sx_gr_zI3 hR
  have r_zI4 := sx_gr_zI4 hR
  have r_zI5 := sx_gr_zI5 hR
  have r_zI6 := sx_gr_zI6 hR
  obtain ⟨z0, z1, z2, z3, z4, z5, z6⟩ := g3
  have e : j = 0 := by omega
  subst e
  exact sx_q_s_zI0a_0 hG ⟨(by rw [sx_au_s rfl]; exact Or.inl ⟨by omega, by omega⟩), (by rw [sx_au_o (by decide)]; exact z1), (by rw [sx_au_o (by decide)]; exact z2), (by rw [sx_au_o (by decide)]; exact z3), (by rw [sx_au_o (by decide)]; exact z4), (by rw [sx_au_o (by decide)]; exact z5), (by rw [sx_au_o (by decide)]; exact z6)⟩
theorem sx_p_s_zI0b : sx_okr sx_GG true 124 sx_r_s_zI0b := by
  intro γ A j y hG hR hj hlo hhi hl hn
  rw [show (sx_cell.get 124).2.2.1 = 8 from by decide +kernel] at hj
  rw [show (sx_cell.get 124).2.2.2.1 = 0 from by decide +kernel] at hlo
  rw [show (sx_cell.get 124).2.2.2.2.1 = 42 from by decide +kernel] at hhi
  have n0 : 0 ≤ 0 + (1 * (j : Int) + 0) := hn _ (List.Mem.head _)
  have n1 : 0 ≤ 0 + ((-1) * (j : Int) + 0) := hn _ (List.Mem.tail _ (List.Mem.head _))
  have n2 : 0 ≤ (-42) + (1 * y + 0) := hn _ (List.Mem.tail _ (List.Mem.tail _ (List.Mem.head _)))
  clear hn
  have hG0 := hG
  obtain ⟨g0, g1, g2, g3, g4, g5, g6, g7, g8, g9, g10, g11, g12, g13, g14, g15, g16, g17, g18, g19, g20, g21, g22, g23, g24⟩ := hG0
  have r_zI0 := sx_gr_zI0 hR
  have r_zI1 := sx_gr_zI1 hR
  have r_zI2 := sx_gr_zI2 hR
  have r_zI3 := sx_gr_zI3 hR
  have r_zI4 := sx_gr_zI4 hR
  have r_zI5 := sx_gr_zI5 hR
  have r_zI6 := sx_gr_zI6 hR
  obtain ⟨z0, z1, z2, z3, z4, z5, z6⟩ := g3
  have e : j = 0 := by omega
  subst e
  exact sx_q_s_zI0b_0 hG ⟨(by rw [sx_au_s rfl]; exact Or.inr ⟨by omega, by omega⟩), (by rw [sx_au_o (by decide)]; exact z1), (by rw [sx_au_o (by decide)]; exact z2), (by rw [sx_au_o (by decide)]; exact z3), (by rw [sx_au_o (by decide)]; exact z4), (by rw [sx_au_o (by decide)]; exact z5), (by rw [sx_au_o (by decide)]; exact z6)⟩
theorem sx_p_s_zI1a : sx_okr sx_GG true 124 sx_r_s_zI1a := by
  intro γ A j y hG hR hj hlo hhi hl hn
  rw [show (sx_cell.get 124).2.2.1 = 8 from by decide +kernel] at hj
  rw [show (sx_cell.get 124).2.2.2.1 = 0 from by decide +kernel] at hlo
  rw [show (sx_cell.get 124).2.2.2.2.1 = 42 from by decide +kernel] at hhi
  have n0 : 0 ≤ (-1) + (1 * (j : Int) + 0) := hn _ (List.Mem.head _)
  have n1 : 0 ≤ 1 + ((-1) * (j : Int) + 0) := hn _ (List.Mem.tail _ (List.Mem.head _))
  have n2 : 0 ≤ 0 + (1 * y + 0) := hn _ (List.Mem.tail _ (List.Mem.tail _ (List.Mem.head _)))
  have n3 : 0 ≤ 0 + ((-1) * y + 0) := hn _ (List.Mem.tail _ (List.Mem.tail _ (List.Mem.tail _ (List.Mem.head _))))
  clear hn
  have hG0 := hG
  obtain ⟨g0, g1, g2, g3, g4, g5, g6, g7, g8, g9, g10, g11, g12, g13, g14, g15, g16, g17, g18, g19, g20, g21, g22, g23, g24⟩ := hG0
  have r_zI0 := sx_gr_zI0 hR
  have r_zI1 := sx_gr_zI1 hR
  have r_zI2 := sx_gr_zI2 hR
  have r_zI3 := sx_gr_zI3 hR
  have r_zI4 := sx_gr_zI4 hR
  have r_zI5 := sx_gr_zI5 hR
  have r_zI6 := sx_gr_zI6 hR
  obtain ⟨z0, z1, z2, z3, z4, z5, z6⟩ := g3
  have e : j = 1 := by omega
  subst e
  exact sx_q_s_zI1a_0 hG ⟨(by rw [sx_au_o (by decide)]; exact z0), (by rw [sx_au_s rfl]; exact Or.inl ⟨by omega, by omega⟩), (by rw [sx_au_o (by decide)]; exact z2), (by rw [sx_au_o (by decide)]; exact z3), (by rw [sx_au_o (by decide)]; exact z4), (by rw [sx_au_o (by decide)]; exact z5), (by rw [sx_au_o (by decide)]; exact z6)⟩
theorem sx_p_s_zI1b : sx_okr sx_GG true 124 sx_r_s_zI1b := by
  intro γ A j y hG hR hj hlo hhi hl hn
  rw [show (sx_cell.get 124).2.2.1 = 8 from by decide +kernel] at hj
  rw [show (sx_cell.get 124).2.2.2.1 = 0 from by decide +kernel] at hlo
  rw [show (sx_cell.get 124).2.2.2.2.1 = 42 from by decide +kernel] at hhi
  have n0 : 0 ≤ (-1) + (1 * (j : Int) + 0) := hn _ (List.Mem.head _)
  have n1 : 0 ≤ 1 + ((-1) * (j : Int) + 0) := hn _ (List.Mem.tail _ (List.Mem.head _))
  have n2 : 0 ≤ (-42) + (1 * y + 0) := hn _ (List.Mem.tail _ (List.Mem.tail _ (List.Mem.head _)))
  clear hn
  have hG0 := hG
  obtain ⟨g0, g1, g2, g3, g4, g5, g6, g7, g8, g9, g10, g11, g12, g13, g14, g15, g16, g17, g18, g19, g20, g21, g22, g23, g24⟩ := hG0
  have r_zI0 := sx_gr_zI0 hR
  have r_zI1 := sx_gr_zI1 hR
  have r_zI2 := sx_gr_zI2 hR
  have r_zI3 := sx_gr_zI3 hR
  have r_zI4 := sx_gr_zI4 hR
  have r_zI5 := sx_gr_zI5 hR
  have r_zI6 := sx_gr_zI6 hR
  obtain ⟨z0, z1, z2, z3, z4, z5, z6⟩ := g3
  have e : j = 1 := by omega
  subst e
  exact sx_q_s_zI1b_0 hG ⟨(by rw [sx_au_o (by decide)]; exact z0), (by rw [sx_au_s rfl]; exact Or.inr ⟨by omega, by omega⟩), (by rw [sx_au_o (by decide)]; exact z2), (by rw [sx_au_o (by decide)]; exact z3), (by rw [sx_au_o (by decide)]; exact z4), (by rw [sx_au_o (by decide)]; exact z5), (by rw [sx_au_o (by decide)]; exact z6)⟩
theorem sx_p_s_zI2a : sx_okr sx_GG true 124 sx_r_s_zI2a := by
  intro γ A j y hG hR hj hlo hhi hl hn
  rw [show (sx_cell.get 124).2.2.1 = 8 from by decide +kernel] at hj
  rw [show (sx_cell.get 124).2.2.2.1 = 0 from by decide +kernel] at hlo
  rw [show (sx_cell.get 124).2.2.2.2.1 = 42 from by decide +kernel] at hhi
  have n0 : 0 ≤ (-2) + (1 * (j : Int) + 0) := hn _ (List.Mem.head _)
  have n1 : 0 ≤ 2 + ((-1) * (j : Int) + 0) := hn _ (List.Mem.tail _ (List.Mem.head _))
  have n2 : 0 ≤ 0 + (1 * y + 0) := hn _ (List.Mem.tail _ (List.Mem.tail _ (List.Mem.head _)))
  have n3 : 0 ≤ 0 + ((-1) * y + 0) := hn _ (List.Mem.tail _ (List.Mem.tail _ (List.Mem.tail _ (List.Mem.head _))))
  clear hn
  have hG0 := hG
  obtain ⟨g0, g1, g2, g3, g4, g5, g6, g7, g8, g9, g10, g11, g12, g13, g14, g15, g16, g17, g18, g19, g20, g21, g22, g23, g24⟩ := hG0
  have r_zI0 := sx_gr_zI0 hR
  have r_zI1 := sx_gr_zI1 hR
  have r_zI2 := sx_gr_zI2 hR
  have r_zI3 := sx_gr_zI3 hR
  have r_zI4 := sx_gr_zI4 hR
  have r_zI5 := sx_gr_zI5 hR
  have r_zI6 := sx_gr_zI6 hR
  obtain ⟨z0, z1, z2, z3, z4, z5, z6⟩ := g3
  have e : j = 2 := by omega
  subst e
  exact sx_q_s_zI2a_0 hG ⟨(by rw [sx_au_o (by decide)]; exact z0), (by rw [sx_au_o (by decide)]; exact z1), (by rw [sx_au_s rfl]; exact Or.inl ⟨by omega, by omega⟩), (by rw [sx_au_o (by decide)]; exact z3), (by rw [sx_au_o (by decide)]; exact z4), (by rw [sx_au_o (by decide)]; exact z5), (by rw [sx_au_o (by decide)]; exact z6)⟩
theorem sx_p_s_zI2b : sx_okr sx_GG true 124 sx_r_s_zI2b := by
  intro γ A j y hG hR hj hlo hhi hl hn
  rw [show (sx_cell.get 124).2.2.1 = 8 from by decide +kernel] at hj
  rw [show (sx_cell.get 124).2.2.2.1 = 0 from by decide +kernel] at hlo
  rw [show (sx_cell.get 124).2.2.2.2.1 = 42 from by decide +kernel] at hhi
  have n0 : 0 ≤ (-2) + (1 * (j : Int) + 0) := hn _ (List.Mem.head _)
  have n1 : 0 ≤ 2 + ((-1) * (j : Int) + 0) := hn _ (List.Mem.tail _ (List.Mem.head _))
  have n2 : 0 ≤ (-42) + (1 * y + 0) := hn _ (List.Mem.tail _ (List.Mem.tail _ (List.Mem.head _)))
  clear hn
  have hG0 := hG
  obtain ⟨g0, g1, g2, g3, g4, g5, g6, g7, g8, g9, g10, g11, g12, g13, g14, g15, g16, g17, g18, g19, g20, g21, g22, g23, g24⟩ := hG0
  have r_zI0 := sx_gr_zI0 hR
  have r_zI1 := sx_gr_zI1 hR
  have r_zI2 := sx_gr_zI2 hR
  have r_zI3 := sx_gr_zI3 hR
  have r_zI4 := sx_gr_zI4 hR
  have r_zI5 := sx_gr_zI5 hR
  have r_zI6 := sx_gr_zI6 hR
  obtain ⟨z0, z1, z2, z3, z4, z5, z6⟩ := g3
  have e : j = 2 := by omega
  subst e
  exact sx_q_s_zI2b_0 hG ⟨(by rw [sx_au_o (by decide)]; exact z0), (by rw [sx_au_o (by decide)]; exact z1), (by rw [sx_au_s rfl]; exact Or.inr ⟨by omega, by omega⟩), (by rw [sx_au_o (by decide)]; exact z3), (by rw [sx_au_o (by decide)]; exact z4), (by rw [sx_au_o (by decide)]; exact z5), (by rw [sx_au_o (by decide)]; exact z6)⟩
theorem sx_p_s_zI3a : sx_okr sx_GG true 124 sx_r_s_zI3a := by
  intro γ A j y hG hR hj hlo hhi hl hn
  rw [show (sx_cell.get 124).2.2.1 = 8 from by decide +kernel] at hj
  rw [show (sx_cell.get 124).2.2.2.1 = 0 from by decide +kernel] at hlo
  rw [show (sx_cell.get 124).2.2.2.2.1 = 42 from by decide +kernel] at hhi
  have n0 : 0 ≤ (-3) + (1 * (j : Int) + 0) := hn _ (List.Mem.head _)
  have n1 : 0 ≤ 3 + ((-1) * (j : Int) + 0) := hn _ (List.Mem.tail _ (List.Mem.head _))
  have n2 : 0 ≤ 0 + (1 * y + 0) := hn _ (List.Mem.tail _ (List.Mem.tail _ (List.Mem.head _)))
  have n3 : 0 ≤ 0 + ((-1) * y + 0) := hn _ (List.Mem.tail _ (List.Mem.tail _ (List.Mem.tail _ (List.Mem.head _))))
  clear hn
  have hG0 := hG
  obtain ⟨g0, g1, g2, g3, g4, g5, g6, g7, g8, g9, g10, g11, g12, g13, g14, g15, g16, g17, g18, g19, g20, g21, g22, g23, g24⟩ := hG0
  have r_zI0 := sx_gr_zI0 hR
  have r_zI1 := sx_gr_zI1 hR
  have r_zI2 := sx_gr_zI2 hR
  have r_zI3 := sx_gr_zI3 hR
  have r_zI4 := sx_gr_zI4 hR
  have r_zI5 := sx_gr_zI5 hR
  have r_zI6 := sx_gr_zI6 hR
  obtain ⟨z0, z1, z2, z3, z4, z5, z6⟩ := g3
  have e : j = 3 := by omega
  subst e
  exact sx_q_s_zI3a_0 hG ⟨(by rw [sx_au_o (by decide)]; exact z0), (by rw [sx_au_o (by decide)]; exact z1), (by rw [sx_au_o (by decide)]; exact z2), (by rw [sx_au_s rfl]; exact Or.inl ⟨by omega, by omega⟩), (by rw [sx_au_o (by decide)]; exact z4), (by rw [sx_au_o (by decide)]; exact z5), (by rw [sx_au_o (by decide)]; exact z6)⟩
theorem sx_p_s_zI3b : sx_okr sx_GG true 124 sx_r_s_zI3b := by
  intro γ A j y hG hR hj hlo hhi hl hn
  rw [show (sx_cell.get 124).2.2.1 = 8 from by decide +kernel] at hj
  rw [show (sx_cell.get 124).2.2.2.1 = 0 from by decide +kernel] at hlo
  rw [show (sx_cell.get 124).2.2.2.2.1 = 42 from by decide +kernel] at hhi
  have n0 : 0 ≤ (-3) + (1 * (j : Int) + 0) := hn _ (List.Mem.head _)
  have n1 : 0 ≤ 3 + ((-1) * (j : Int) + 0) := hn _ (List.Mem.tail _ (List.Mem.head _))
  have n2 : 0 ≤ (-42) + (1 * y + 0) := hn _ (List.Mem.tail _ (List.Mem.tail _ (List.Mem.head _)))
  clear hn
  have hG0 := hG
  obtain ⟨g0, g1, g2, g3, g4, g5, g6, g7, g8, g9, g10, g11, g12, g13, g14, g15, g16, g17, g18, g19, g20, g21, g22, g23, g24⟩ := hG0
  have r_zI0 := sx_gr_zI0 hR
  have r_zI1 := sx_gr_zI1 hR
  have r_zI2 := sx_gr_zI2 hR
  have r_zI3 := sx_gr_zI3 hR
  have r_zI4 := sx_gr_zI4 hR
  have r_zI5 := sx_gr_zI5 hR
  have r_zI6 := sx_gr_zI6 hR
  obtain ⟨z0, z1, z2, z3, z4, z5, z6⟩ := g3
  have e : j = 3 := by omega
  subst e
  exact sx_q_s_zI3b_0 hG ⟨(by rw [sx_au_o (by decide)]; exact z0), (by rw [sx_au_o (by decide)]; exact z1), (by rw [sx_au_o (by decide)]; exact z2), (by rw [sx_au_s rfl]; exact Or.inr ⟨by omega, by omega⟩), (by rw [sx_au_o (by decide)]; exact z4), (by rw [sx_au_o (by decide)]; exact z5), (by rw [sx_au_o (by decide)]; exact z6)⟩
theorem sx_p_s_zI4a : sx_okr sx_GG true 124 sx_r_s_zI4a := by
  intro γ A j y hG hR hj hlo hhi hl hn
  rw [show (sx_cell.get 124).2.2.1 = 8 from by decide +kernel] at hj
  rw [show (sx_cell.get 124).2.2.2.1 = 0 from by decide +kernel] at hlo
  rw [show (sx_cell.get 124).2.2.2.2.1 = 42 from by decide +kernel] at hhi
  have n0 : 0 ≤ (-4) + (1 * (j : Int) + 0) := hn _ (List.Mem.head _)
  have n1 : 0 ≤ 4 + ((-1) * (j : Int) + 0) := hn _ (List.Mem.tail _ (List.Mem.head _))
  have n2 : 0 ≤ 0 + (1 * y + 0) := hn _ (List.Mem.tail _ (List.Mem.tail _ (List.Mem.head _)))
  have n3 : 0 ≤ 0 + ((-1) * y + 0) := hn _ (List.Mem.tail _ (List.Mem.tail _ (List.Mem.tail _ (List.Mem.head _))))
  clear hn
  have hG0 := hG
  obtain ⟨g0, g1, g2, g3, g4, g5, g6, g7, g8, g9, g10, g11, g12, g13, g14, g15, g16, g17, g18, g19, g20, g21, g22, g23, g24⟩ := hG0
  have r_zI0 := sx_gr_zI0 hR
  have r_zI1 := sx_gr_zI1 hR
  have r_zI2 := sx_gr_zI2 hR
  have r_zI3 := sx_gr_zI3 hR
  have r_zI4 := sx_gr_zI4 hR
  have r_zI5 := sx_gr_zI5 hR
  have r_zI6 := sx_gr_zI6 hR
  obtain ⟨z0, z1, z2, z3, z4, z5, z6⟩ := g3
  have e : j = 4 := by omega
  subst e
  exact sx_q_s_zI4a_0 hG ⟨(by rw [sx_au_o (by decide)]; exact z0), (by rw [sx_au_o (by decide)]; exact z1), (by rw [sx_au_o (by decide)]; exact z2), (by rw [sx_au_o (by decide)]; exact z3), (by rw [sx_au_s rfl]; exact Or.inl ⟨by omega, by omega⟩), (by rw [sx_au_o (by decide)]; exact z5), (by rw [sx_au_o (by decide)]; exact z6)⟩
theorem sx_p_s_zI4b : sx_okr sx_GG true 124 sx_r_s_zI4b := by
  intro γ A j y hG hR hj hlo hhi hl hn
  rw [show (sx_cell.get 124).2.2.1 = 8 from by decide +kernel] at hj
  rw [show (sx_cell.get 124).2.2.2.1 = 0 from by decide +kernel] at hlo
  rw [show (sx_cell.get 124).2.2.2.2.1 = 42 from by decide +kernel] at hhi
  have n0 : 0 ≤ (-4) + (1 * (j : Int) + 0) := hn _ (List.Mem.head _)
  have n1 : 0 ≤ 4 + ((-1) * (j : Int) + 0) := hn _ (List.Mem.tail _ (List.Mem.head _))
  have n2 : 0 ≤ (-42) + (1 * y + 0) := hn _ (List.Mem.tail _ (List.Mem.tail _ (List.Mem.head _)))
  clear hn
  have hG0 := hG
  obtain ⟨g0, g1, g2, g3, g4, g5, g6, g7, g8, g9, g10, g11, g12, g13, g14, g15, g16, g17, g18, g19, g20, g21, g22, g23, g24⟩ := hG0
  have r_zI0 := sx_gr_zI0 hR
  have r_zI1 := sx_gr_zI1 hR
  have r_zI2 := sx_gr_zI2 hR
  have r_zI3 := sx_gr_zI3 hR
  have r_zI4 := sx_gr_zI4 hR
  have r_zI5 := sx_gr_zI5 hR
  have r_zI6 := sx_gr_zI6 hR
  obtain ⟨z0, z1, z2, z3, z4, z5, z6⟩ := g3
  have e : j = 4 := by omega
  subst e
  exact sx_q_s_zI4b_0 hG ⟨(by rw [sx_au_o (by decide)]; exact z0), (by rw [sx_au_o (by decide)]; exact z1), (by rw [sx_au_o (by decide)]; exact z2), (by rw [sx_au_o (by decide)]; exact z3), (by rw [sx_au_s rfl]; exact Or.inr ⟨by omega, by omega⟩), (by rw [sx_au_o (by decide)]; exact z5), (by rw [sx_au_o (by decide)]; exact z6)⟩
theorem sx_p_s_zI5a : sx_okr sx_GG true 124 sx_r_s_zI5a := by
  intro γ A j y hG hR hj hlo hhi hl hn
  rw [show (sx_cell.get 124).2.2.1 = 8 from by decide +kernel] at hj
  rw [show (sx_cell.get 124).2.2.2.1 = 0 from by decide +kernel] at hlo
  rw [show (sx_cell.get 124).2.2.2.2.1 = 42 from by decide +kernel] at hhi
  have n0 : 0 ≤ (-5) + (1 * (j : Int) + 0) := hn _ (List.Mem.head _)
  have n1 : 0 ≤ 5 + ((-1) * (j : Int) + 0) := hn _ (List.Mem.tail _ (List.Mem.head _))
  have n2 : 0 ≤ 0 + (1 * y + 0) := hn _ (List.Mem.tail _ (List.Mem.tail _ (List.Mem.head _)))
  have n3 : 0 ≤ 0 + ((-1) * y + 0) := hn _ (List.Mem.tail _ (List.Mem.tail _ (List.Mem.tail _ (List.Mem.head _))))
  clear hn
  have hG0 := hG
  obtain ⟨g0, g1, g2, g3, g4, g5, g6, g7, g8, g9, g10, g11, g12, g13, g14, g15, g16, g17, g18, g19, g20, g21, g22, g23, g24⟩ := hG0
  have r_zI0 := sx_gr_zI0 hR
  have r_zI1 := sx_gr_zI1 hR
  have r_zI2 := sx_gr_zI2 hR
  have r_zI3 := sx_gr_zI3 hR
  have r_zI4 := sx_gr_zI4 hR
  have r_zI5 := sx_gr_zI5 hR
  have r_zI6 := sx_gr_zI6 hR
  obtain ⟨z0, z1, z2, z3, z4, z5, z6⟩ := g3
  have e : j = 5 := by omega
  subst e
  exact sx_q_s_zI5a_0 hG ⟨(by rw [sx_au_o (by decide)]; exact z0), (by rw [sx_au_o (by decide)]; exact z1), (by rw [sx_au_o (by decide)]; exact z2), (by rw [sx_au_o (by decide)]; exact z3), (by rw [sx_au_o (by decide)]; exact z4), (by rw [sx_au_s rfl]; exact Or.inl ⟨by omega, by omega⟩), (by rw [sx_au_o (by decide)]; exact z6)⟩
theorem sx_p_s_zI5b : sx_okr sx_GG true 124 sx_r_s_zI5b := by
  intro γ A j y hG hR hj hlo hhi hl hn
  rw [show (sx_cell.get 124).2.2.1 = 8 from by decide +kernel] at hj
  rw [show (sx_cell.get 124).2.2.2.1 = 0 from by decide +kernel] at hlo
  rw [show (sx_cell.get 124).2.2.2.2.1 = 42 from by decide +kernel] at hhi
  have n0 : 0 ≤ (-5) + (1 * (j : Int) + 0) := hn _ (List.Mem.head _)
  have n1 : 0 ≤ 5 + ((-1) * (j : Int) + 0) := hn _ (List.Mem.tail _ (List.Mem.head _))
  have n2 : 0 ≤ (-42) + (1 * y + 0) := hn _ (List.Mem.tail _ (List.Mem.tail _ (List.Mem.head _)))
  clear hn
  have hG0 := hG
  obtain ⟨g0, g1, g2, g3, g4, g5, g6, g7, g8, g9, g10, g11, g12, g13, g14, g15, g16, g17, g18, g19, g20, g21, g22, g23, g24⟩ := hG0
  have r_zI0 := sx_gr_zI0 hR
  have r_zI1 := sx_gr_zI1 hR
  have r_zI2 := sx_gr_zI2 hR
  have r_zI3 := sx_gr_zI3 hR
  have r_zI4 := sx_gr_zI4 hR
  have r_zI5 := sx_gr_zI5 hR
  have r_zI6 := sx_gr_zI6 hR
  obtain ⟨z0, z1, z2, z3, z4, z5, z6⟩ := g3
  have e : j = 5 := by omega
  subst e
  exact sx_q_s_zI5b_0 hG ⟨(by rw [sx_au_o (by decide)]; exact z0), (by rw [sx_au_o (by decide)]; exact z1), (by rw [sx_au_o (by decide)]; exact z2), (by rw [sx_au_o (by decide)]; exact z3), (by rw [sx_au_o (by decide)]; exact z4), (by rw [sx_au_s rfl]; exact Or.inr ⟨by omega, by omega⟩), (by rw [sx_au_o (by decide)]; exact z6)⟩
theorem sx_p_s_zI6a : sx_okr sx_GG true 124 sx_r_s_zI6a := by
  intro γ A j y hG hR hj hlo hhi hl hn
  rw [show (sx_cell.get 124).2.2.1 = 8 from by decide +kernel] at hj
  rw [show (sx_cell.get 124).2.2.2.1 = 0 from by decide +kernel] at hlo
  rw [show (sx_cell.get 124).2.2.2.2.1 = 42 from by decide +kernel] at hhi
  have n0 : 0 ≤ (-6) + (1 * (j : Int) + 0) := hn _ (List.Mem.head _)
  have n1 : 0 ≤ 6 + ((-1) * (j : Int) + 0) := hn _ (List.Mem.tail _ (List.Mem.head _))
  have n2 : 0 ≤ 0 + (1 * y + 0) := hn _ (List.Mem.tail _ (List.Mem.tail _ (List.Mem.head _)))
  have n3 : 0 ≤ 0 + ((-1) * y + 0) := hn _ (List.Mem.tail _ (List.Mem.tail _ (List.Mem.tail _ (List.Mem.head _))))
  clear hn
  have hG0 := hG
  obtain ⟨g0, g1, g2, g3, g4, g5, g6, g7, g8, g9, g10, g11, g12, g13, g14, g15, g16, g17, g18, g19, g20, g21, g22, g23, g24⟩ := hG0
  have r_zI0 := sx_gr_zI0 hR
  have r_zI1 := sx_gr_zI1 hR
  have r_zI2 := sx_gr_zI2 hR
  have r_zI3 := sx_gr_zI3 hR
  have r_zI4 := sx_gr_zI4 hR
  have r_zI5 := sx_gr_zI5 hR
  have r_zI6 := sx_gr_zI6 hR
  obtain ⟨z0, z1, z2, z3, z4, z5, z6⟩ := g3
  have e : j = 6 := by omega
  subst e
  exact sx_q_s_zI6a_0 hG ⟨(by rw [sx_au_o (by decide)]; exact z0), (by rw [sx_au_o (by decide)]; exact z1), (by rw [sx_au_o (by decide)]; exact z2), (by rw [sx_au_o (by decide)]; exact z3), (by rw [sx_au_o (by decide)]; exact z4), (by rw [sx_au_o (by decide)]; exact z5), (by rw [sx_au_s rfl]; exact Or.inl ⟨by omega, by omega⟩)⟩
theorem sx_p_s_zI6b : sx_okr sx_GG true 124 sx_r_s_zI6b := by
  intro γ A j y hG hR hj hlo hhi hl hn
  rw [show (sx_cell.get 124).2.2.1 = 8 from by decide +kernel] at hj
  rw [show (sx_cell.get 124).2.2.2.1 = 0 from by decide +kernel] at hlo
  rw [show (sx_cell.get 124).2.2.2.2.1 = 42 from by decide +kernel] at hhi
  have n0 : 0 ≤ (-6) + (1 * (j : Int) + 0) := hn _ (List.Mem.head _)
  have n1 : 0 ≤ 6 + ((-1) * (j : Int) + 0) := hn _ (List.Mem.tail _ (List.Mem.head _))
  have n2 : 0 ≤ (-42) + (1 * y + 0) := hn _ (List.Mem.tail _ (List.Mem.tail _ (List.Mem.head _)))
  clear hn
  have hG0 := hG
  obtain ⟨g0, g1, g2, g3, g4, g5, g6, g7, g8, g9, g10, g11, g12, g13, g14, g15, g16, g17, g18, g19, g20, g21, g22, g23, g24⟩ := hG0
  have r_zI0 := sx_gr_zI0 hR
  have r_zI1 := sx_gr_zI1 hR
  have r_zI2 := sx_gr_zI2 hR
  have r_zI3 := sx_gr_zI3 hR
  have r_zI4 := sx_gr_zI4 hR
  have r_zI5 := sx_gr_zI5 hR
  have r_zI6 := sx_gr_zI6 hR
  obtain ⟨z0, z1, z2, z3, z4, z5, z6⟩ := g3
  have e : j = 6 := by omega
  subst e
  exact sx_q_s_zI6b_0 hG ⟨(by rw [sx_au_o (by decide)]; exact z0), (by rw [sx_au_o (by decide)]; exact z1), (by rw [sx_au_o (by decide)]; exact z2), (by rw [sx_au_o (by decide)]; exact z3), (by rw [sx_au_o (by decide)]; exact z4), (by rw [sx_au_o (by decide)]; exact z5), (by rw [sx_au_s rfl]; exact Or.inr ⟨by omega, by omega⟩)⟩
theorem sx_p_s_roomA : sx_okr sx_GG true 131 sx_r_s_roomA := by
  intro γ A j y hG hR hj hlo hhi hl hn
  rw [show (sx_cell.get 131).2.2.1 = 8 from by decide +kernel] at hj
  rw [show (sx_cell.get 131).2.2.2.1 = 0 from by decide +kernel] at hlo
  rw [show (sx_cell.get 131).2.2.2.2.1 = 9 from by decide +kernel] at hhi
  have n0 : 0 ≤ 0 + (1 * (j : Int) + 0) := hn _ (List.Mem.head _)
  have n1 : 0 ≤ 0 + ((-1) * (j : Int) + 0) := hn _ (List.Mem.tail _ (List.Mem.head _))
  have n2 : 0 ≤ 0 + (1 * y + 0) := hn _ (List.Mem.tail _ (List.Mem.tail _ (List.Mem.head _)))
  have n3 : 0 ≤ 0 + ((-1) * y + 0) := hn _ (List.Mem.tail _ (List.Mem.tail _ (List.Mem.tail _ (List.Mem.head _))))
  clear hn
  have hG0 := hG
  obtain ⟨g0, g1, g2, g3, g4, g5, g6, g7, g8, g9, g10, g11, g12, g13, g14, g15, g16, g17, g18, g19, g20, g21, g22, g23, g24⟩ := hG0
  have r_K := sx_gr_K hR
  have r_LI := sx_gr_LI hR
  have r_LV := sx_gr_LV hR
  have r_MI := sx_gr_MI hR
  have r_MX := sx_gr_MX hR
  have r_VU := sx_gr_VU hR
  have e0 : j = 0 := by omega
  subst e0
  refine sx_q_s_roomA_0 hG ⟨fun j2 hj2 => ?_, ?_, Or.inl (by omega), Or.inl (by omega)⟩
  · have e : j2 = 0 := by omega
    subst e
    rw [sx_au_s rfl]
    exact ⟨by omega, by omega, Or.inl (by omega)⟩
  · have := sx_cnt_0 (sx_c8 (sx_t8 (1 + 0) (sx_au A 131 0 y 131)))
    omega
theorem sx_p_s_roomB : sx_okr sx_GG true 131 sx_r_s_roomB := by
  intro γ A j y hG hR hj hlo hhi hl hn
  rw [show (sx_cell.get 131).2.2.1 = 8 from by decide +kernel] at hj
  rw [show (sx_cell.get 131).2.2.2.1 = 0 from by decide +kernel] at hlo
  rw [show (sx_cell.get 131).2.2.2.2.1 = 9 from by decide +kernel] at hhi
  have n0 : 0 ≤ 0 + ((-1) * γ 18455 + (1 * (j : Int) + 0)) := hn _ (List.Mem.head _)
  have n1 : 0 ≤ 0 + (1 * γ 18455 + ((-1) * (j : Int) + 0)) := hn _ (List.Mem.tail _ (List.Mem.head _))
  have n2 : 0 ≤ 0 + (1 * y + 0) := hn _ (List.Mem.tail _ (List.Mem.tail _ (List.Mem.head _)))
  have n3 : 0 ≤ 0 + ((-1) * y + 0) := hn _ (List.Mem.tail _ (List.Mem.tail _ (List.Mem.tail _ (List.Mem.head _))))
  clear hn
  have hG0 := hG
  obtain ⟨g0, g1, g2, g3, g4, g5, g6, g7, g8, g9, g10, g11, g12, g13, g14, g15, g16, g17, g18, g19, g20, g21, g22, g23, g24⟩ := hG0
  have r_K := sx_gr_K hR
  have r_LI := sx_gr_LI hR
  have r_LV := sx_gr_LV hR
  have r_MI := sx_gr_MI hR
  have r_MX := sx_gr_MX hR
  have r_VU := sx_gr_VU hR
  obtain ⟨q1, q2, q3, q4⟩ := g7
  refine sx_q_s_roomB_0 hG ⟨fun j2 hj2 => ?_, ?_, Or.inl (by omega), Or.inl (by omega)⟩
  · by_cases e : j2 = j
    · rw [sx_au_s e]
      exact ⟨by omega, by omega, Or.inl (by omega)⟩
    · rw [sx_au_o e]
      obtain ⟨a1, a2, a3⟩ := q1 j2 (by omega)
      refine ⟨a1, a2, ?_⟩
      rcases a3 with a3 | ⟨i, a3, a4⟩
      · exact Or.inl a3
      · exact Or.inr ⟨i, a3, by rw [sx_au_o (by omega)]; exact a4⟩
  · have ht : ∀ i, sx_tr (1 + (1 * γ 18455 + 0)) (sx_au A 131 j y 131) i = sx_tr (γ 18455) (A 131) i := fun i => by
      unfold sx_tr
      by_cases e : i = j
      · rw [if_pos (by omega), if_neg (by omega), sx_au_s e]; omega
      · rw [sx_au_o e]
        by_cases e2 : (i : Int) < γ 18455
        · rw [if_pos (by omega), if_pos e2]
        · rw [if_neg (by omega), if_neg e2]
    have h8 : sx_t8 (1 + (1 * γ 18455 + 0)) (sx_au A 131 j y 131) = sx_t8 (γ 18455) (A 131) := by
      unfold sx_t8
      simp only [ht]
    rw [h8]
    exact q2
theorem sx_p_s_roomC : sx_okr sx_GG true 131 sx_r_s_roomC := by
  intro γ A j y hG hR hj hlo hhi hl hn
  rw [show (sx_cell.get 131).2.2.1 = 8 from by decide +kernel] at hj
  rw [show (sx_cell.get 131).2.2.2.1 = 0 from by decide +kernel] at hlo
  rw [show (sx_cell.get 131).2.2.2.2.1 = 9 from by decide +kernel] at hhi
  have n0 : 0 ≤ (-1) + (1 * γ 18455 + ((-1) * (j : Int) + 0)) := hn _ (List.Mem.head _)
  have n1 : 0 ≤ 0 + ((-1) * γ 18457 + (1 * (j : Int) + 0)) := hn _ (List.Mem.tail _ (List.Mem.head _))
  have n2 : 0 ≤ 0 + (1 * γ 18457 + ((-1) * (j : Int) + 0)) := hn _ (List.Mem.tail _ (List.Mem.tail _ (List.Mem.head _)))
  have n3 : 0 ≤ (-1) + ((-1) * γ 18458 + (1 * y + 0)) := hn _ (List.Mem.tail _ (List.Mem.tail _ (List.Mem.tail _ (List.Mem.head _))))
  have n4 : 0 ≤ 1 + (1 * γ 18458 + ((-1) * y + 0)) := hn _ (List.Mem.tail _ (List.Mem.tail _ (List.Mem.tail _ (List.Mem.tail _ (List.Mem.head _)))))
  have n5 : 0 ≤ 1 + (1 * γ 18459 + ((-1) * y + 0)) := hn _ (List.Mem.tail _ (List.Mem.tail _ (List.Mem.tail _ (List.Mem.tail _ (List.Mem.tail _ (List.Mem.head _))))))
  have n6 : 0 ≤ 0 + ((-1) * γ 18460 + (1 * (j : Int) + 0)) := hn _ (List.Mem.tail _ (List.Mem.tail _ (List.Mem.tail _ (List.Mem.tail _ (List.Mem.tail _ (List.Mem.tail _ (List.Mem.head _)))))))
  clear hn
  have hG0 := hG
  obtain ⟨g0, g1, g2, g3, g4, g5, g6, g7, g8, g9, g10, g11, g12, g13, g14, g15, g16, g17, g18, g19, g20, g21, g22, g23, g24⟩ := hG0
  have r_K := sx_gr_K hR
  have r_LI := sx_gr_LI hR
  have r_LV := sx_gr_LV hR
  have r_MI := sx_gr_MI hR
  have r_MX := sx_gr_MX hR
  have r_VU := sx_gr_VU hR
  obtain ⟨q1, q2, q3, q4⟩ := g7
  have hfj : A 131 j = γ 18458 := by
    rcases q3 with q3 | q3
    · omega
    · rw [show (γ 18457).toNat = j by omega] at q3
      exact q3
  have hval : ∀ j2 : Nat, (j2 : Int) < 1 + (1 * (j : Int) + 0) → 0 ≤ sx_au A 131 j y 131 j2 ∧ sx_au A 131 j y 131 j2 ≤ j2 ∧ (sx_au A 131 j y 131 j2 = 0 ∨ ∃ i, i < j2 ∧ sx_au A 131 j y 131 j2 ≤ sx_au A 131 j y 131 i + 1) := by
    intro j2 hj2
    by_cases e : j2 = j
    · rw [sx_au_s e]
      have h1 := q1 j (by omega)
      rcases q4 with q4 | ⟨i, q4, q5⟩
      · omega
      · have h2 := q1 i (by omega)
        have h3 : sx_au A 131 j y 131 i = A 131 i := sx_au_o (by omega)
        exact ⟨by omega, by omega, Or.inr ⟨i, by omega, by omega⟩⟩
    · rw [sx_au_o e]
      obtain ⟨a1, a2, a3⟩ := q1 j2 (by omega)
      refine ⟨a1, a2, ?_⟩
      rcases a3 with a3 | ⟨i, a3, a4⟩
      · exact Or.inl a3
      · exact Or.inr ⟨i, a3, by rw [sx_au_o (by omega)]; exact a4⟩
  have hlt := sx_c8_lt (u' := 1 + (1 * (j : Int) + 0)) (f' := sx_au A 131 j y 131) (fun j2 h2 => ⟨(q1 j2 h2).1, (q1 j2 h2).2.1⟩) hj (show (j : Int) < γ 18455 by omega) (by omega) (by omega) (fun i hi => sx_au_o hi) (by rw [sx_au_s rfl, hfj]; omega)
  have h3 := sx_cnt_lt (sx_t8_i q1) hlt
  have h4 := sx_cnt_b (sx_t8_i hval)
  exact sx_q_s_roomC_0 hG (by omega) ⟨hval, by omega, Or.inl (by omega), Or.inl (by omega)⟩
theorem sx_p_s_roomD : sx_okr sx_GG true 131 sx_r_s_roomD := by
  intro γ A j y hG hR hj hlo hhi hl hn
  rw [show (sx_cell.get 131).2.2.1 = 8 from by decide +kernel] at hj
  rw [show (sx_cell.get 131).2.2.2.1 = 0 from by decide +kernel] at hlo
  rw [show (sx_cell.get 131).2.2.2.2.1 = 9 from by decide +kernel] at hhi
  clear hn
  have hG0 := hG
  obtain ⟨g0, g1, g2, g3, g4, g5, g6, g7, g8, g9, g10, g11, g12, g13, g14, g15, g16, g17, g18, g19, g20, g21, g22, g23, g24⟩ := hG0
  have r_K := sx_gr_K hR
  have r_LI := sx_gr_LI hR
  have r_LV := sx_gr_LV hR
  have r_MI := sx_gr_MI hR
  have r_MX := sx_gr_MX hR
  have r_VU := sx_gr_VU hR
  refine sx_q_s_roomD_0 hG ⟨fun j2 hj2 => (by omega), ?_, Or.inl (by omega), Or.inl (by omega)⟩
  have := sx_cnt_0 (sx_c8 (sx_t8 (0 + 0) (sx_au A 131 j y 131)))
  omega
theorem sx_p_s_who : sx_okr sx_GG true 135 sx_r_s_who := by
  intro γ A j y hG hR hj hlo hhi hl hn
  rw [show (sx_cell.get 135).2.2.1 = 300 from by decide +kernel] at hj
  rw [show (sx_cell.get 135).2.2.2.1 = 0 from by decide +kernel] at hlo
  rw [show (sx_cell.get 135).2.2.2.2.1 = 255 from by decide +kernel] at hhi
  clear hn
  have hG0 := hG
  obtain ⟨g0, g1, g2, g3, g4, g5, g6, g7, g8, g9, g10, g11, g12, g13, g14, g15, g16, g17, g18, g19, g20, g21, g22, g23, g24⟩ := hG0
  have r_W0 := sx_gr_W0 hR
  have h1 : A 135 0 = γ 18432 := g0
  by_cases e : j = 0
  · subst e
    exact sx_q_s_who_0 hG (by omega) (by
      show sx_au A 135 0 y 135 0 = _
      rw [sx_au_s rfl]; omega)
  · exact sx_q_s_who_1 hG (by omega) (by
      show sx_au A 135 j y 135 0 = _
      rw [sx_au_o (fun z => e z.symm)]; omega)
theorem sx_p_s_goal : sx_okr sx_GG true 136 sx_r_s_goal := by
  intro γ A j y hG hR hj hlo hhi hl hn
  rw [show (sx_cell.get 136).2.2.1 = 300 from by decide +kernel] at hj
  rw [show (sx_cell.get 136).2.2.2.1 = 0 from by decide +kernel] at hlo
  rw [show (sx_cell.get 136).2.2.2.2.1 = 255 from by decide +kernel] at hhi
  clear hn
  have hG0 := hG
  obtain ⟨g0, g1, g2, g3, g4, g5, g6, g7, g8, g9, g10, g11, g12, g13, g14, g15, g16, g17, g18, g19, g20, g21, g22, g23, g24⟩ := hG0
  have r_G0 := sx_gr_G0 hR
  have h1 : A 136 0 = γ 18433 := g1
  by_cases e : j = 0
  · subst e
    exact sx_q_s_goal_0 hG (by omega) (by
      show sx_au A 136 0 y 136 0 = _
      rw [sx_au_s rfl]; omega)
  · exact sx_q_s_goal_1 hG (by omega) (by
      show sx_au A 136 j y 136 0 = _
      rw [sx_au_o (fun z => e z.symm)]; omega)
theorem sx_p_s_week0 : sx_okr sx_GG true 140 sx_r_s_week0 := by
  intro γ A j y hG hR hj hlo hhi hl hn
  rw [show (sx_cell.get 140).2.2.1 = 5 from by decide +kernel] at hj
  rw [show (sx_cell.get 140).2.2.2.1 = (-1) from by decide +kernel] at hlo
  rw [show (sx_cell.get 140).2.2.2.2.1 = 4140 from by decide +kernel] at hhi
  have n0 : 0 ≤ 0 + (1 * (j : Int) + 0) := hn _ (List.Mem.head _)
  have n1 : 0 ≤ 0 + ((-1) * (j : Int) + 0) := hn _ (List.Mem.tail _ (List.Mem.head _))
  clear hn
  have hG0 := hG
  obtain ⟨g0, g1, g2, g3, g4, g5, g6, g7, g8, g9, g10, g11, g12, g13, g14, g15, g16, g17, g18, g19, g20, g21, g22, g23, g24⟩ := hG0
  have r_T0 := sx_gr_T0 hR
  have r_T1 := sx_gr_T1 hR
  have r_T2 := sx_gr_T2 hR
  have r_T3 := sx_gr_T3 hR
  have r_T4 := sx_gr_T4 hR
  obtain ⟨t0, t1, t2, t3, t4⟩ := g2
  have e : j = 0 := by omega
  subst e
  exact sx_q_s_week0_0 hG ⟨(by rw [sx_au_s rfl]; omega), (by rw [sx_au_o (by decide)]; omega), (by rw [sx_au_o (by decide)]; omega), (by rw [sx_au_o (by decide)]; omega), (by rw [sx_au_o (by decide)]; omega)⟩
theorem sx_p_s_week1 : sx_okr sx_GG true 140 sx_r_s_week1 := by
  intro γ A j y hG hR hj hlo hhi hl hn
  rw [show (sx_cell.get 140).2.2.1 = 5 from by decide +kernel] at hj
  rw [show (sx_cell.get 140).2.2.2.1 = (-1) from by decide +kernel] at hlo
  rw [show (sx_cell.get 140).2.2.2.2.1 = 4140 from by decide +kernel] at hhi
  have n0 : 0 ≤ (-1) + (1 * (j : Int) + 0) := hn _ (List.Mem.head _)
  have n1 : 0 ≤ 1 + ((-1) * (j : Int) + 0) := hn _ (List.Mem.tail _ (List.Mem.head _))
  clear hn
  have hG0 := hG
  obtain ⟨g0, g1, g2, g3, g4, g5, g6, g7, g8, g9, g10, g11, g12, g13, g14, g15, g16, g17, g18, g19, g20, g21, g22, g23, g24⟩ := hG0
  have r_T0 := sx_gr_T0 hR
  have r_T1 := sx_gr_T1 hR
  have r_T2 := sx_gr_T2 hR
  have r_T3 := sx_gr_T3 hR
  have r_T4 := sx_gr_T4 hR
  obtain ⟨t0, t1, t2, t3, t4⟩ := g2
  have e : j = 1 := by omega
  subst e
  exact sx_q_s_week1_0 hG ⟨(by rw [sx_au_o (by decide)]; omega), (by rw [sx_au_s rfl]; omega), (by rw [sx_au_o (by decide)]; omega), (by rw [sx_au_o (by decide)]; omega), (by rw [sx_au_o (by decide)]; omega)⟩
theorem sx_p_s_week2 : sx_okr sx_GG true 140 sx_r_s_week2 := by
  intro γ A j y hG hR hj hlo hhi hl hn
  rw [show (sx_cell.get 140).2.2.1 = 5 from by decide +kernel] at hj
  rw [show (sx_cell.get 140).2.2.2.1 = (-1) from by decide +kernel] at hlo
  rw [show (sx_cell.get 140).2.2.2.2.1 = 4140 from by decide +kernel] at hhi
  have n0 : 0 ≤ (-2) + (1 * (j : Int) + 0) := hn _ (List.Mem.head _)
  have n1 : 0 ≤ 2 + ((-1) * (j : Int) + 0) := hn _ (List.Mem.tail _ (List.Mem.head _))
  clear hn
  have hG0 := hG
  obtain ⟨g0, g1, g2, g3, g4, g5, g6, g7, g8, g9, g10, g11, g12, g13, g14, g15, g16, g17, g18, g19, g20, g21, g22, g23, g24⟩ := hG0
  have r_T0 := sx_gr_T0 hR
  have r_T1 := sx_gr_T1 hR
  have r_T2 := sx_gr_T2 hR
  have r_T3 := sx_gr_T3 hR
  have r_T4 := sx_gr_T4 hR
  obtain ⟨t0, t1, t2, t3, t4⟩ := g2
  have e : j = 2 := by omega
  subst e
  exact sx_q_s_week2_0 hG ⟨(by rw [sx_au_o (by decide)]; omega), (by rw [sx_au_o (by decide)]; omega), (by rw [sx_au_s rfl]; omega), (by rw [sx_au_o (by decide)]; omega), (by rw [sx_au_o (by decide)]; omega)⟩
theorem sx_p_s_week3 : sx_okr sx_GG true 140 sx_r_s_week3 := by
  intro γ A j y hG hR hj hlo hhi hl hn
  rw [show (sx_cell.get 140).2.2.1 = 5 from by decide +kernel] at hj
  rw [show (sx_cell.get 140).2.2.2.1 = (-1) from by decide +kernel] at hlo
  rw [show (sx_cell.get 140).2.2.2.2.1 = 4140 from by decide +kernel] at hhi
  have n0 : 0 ≤ (-3) + (1 * (j : Int) + 0) := hn _ (List.Mem.head _)
  have n1 : 0 ≤ 3 + ((-1) * (j : Int) + 0) := hn _ (List.Mem.tail _ (List.Mem.head _))
  clear hn
  have hG0 := hG
  obtain ⟨g0, g1, g2, g3, g4, g5, g6, g7, g8, g9, g10, g11, g12, g13, g14, g15, g16, g17, g18, g19, g20, g21, g22, g23, g24⟩ := hG0
  have r_T0 := sx_gr_T0 hR
  have r_T1 := sx_gr_T1 hR
  have r_T2 := sx_gr_T2 hR
  have r_T3 := sx_gr_T3 hR
  have r_T4 := sx_gr_T4 hR
  obtain ⟨t0, t1, t2, t3, t4⟩ := g2
  have e : j = 3 := by omega
  subst e
  exact sx_q_s_week3_0 hG ⟨(by rw [sx_au_o (by decide)]; omega), (by rw [sx_au_o (by decide)]; omega), (by rw [sx_au_o (by decide)]; omega), (by rw [sx_au_s rfl]; omega), (by rw [sx_au_o (by decide)]; omega)⟩
theorem sx_p_s_week4 : sx_okr sx_GG true 140 sx_r_s_week4 := by
  intro γ A j y hG hR hj hlo hhi hl hn
  rw [show (sx_cell.get 140).2.2.1 = 5 from by decide +kernel] at hj
  rw [show (sx_cell.get 140).2.2.2.1 = (-1) from by decide +kernel] at hlo
  rw [show (sx_cell.get 140).2.2.2.2.1 = 4140 from by decide +kernel] at hhi
  have n0 : 0 ≤ (-4) + (1 * (j : Int) + 0) := hn _ (List.Mem.head _)
  have n1 : 0 ≤ 4 + ((-1) * (j : Int) + 0) := hn _ (List.Mem.tail _ (List.Mem.head _))
  clear hn
  have hG0 := hG
  obtain ⟨g0, g1, g2, g3, g4, g5, g6, g7, g8, g9, g10, g11, g12, g13, g14, g15, g16, g17, g18, g19, g20, g21, g22, g23, g24⟩ := hG0
  have r_T0 := sx_gr_T0 hR
  have r_T1 := sx_gr_T1 hR
  have r_T2 := sx_gr_T2 hR
  have r_T3 := sx_gr_T3 hR
  have r_T4 := sx_gr_T4 hR
  obtain ⟨t0, t1, t2, t3, t4⟩ := g2
  have e : j = 4 := by omega
  subst e
  exact sx_q_s_week4_0 hG ⟨(by rw [sx_au_o (by decide)]; omega), (by rw [sx_au_o (by decide)]; omega), (by rw [sx_au_o (by decide)]; omega), (by rw [sx_au_o (by decide)]; omega), (by rw [sx_au_s rfl]; omega)⟩
theorem sx_p_s_week : sx_okr sx_GG true 140 sx_r_s_week := by
  intro γ A j y hG hR hj hlo hhi hl hn
  rw [show (sx_cell.get 140).2.2.1 = 5 from by decide +kernel] at hj
  rw [show (sx_cell.get 140).2.2.2.1 = (-1) from by decide +kernel] at hlo
  rw [show (sx_cell.get 140).2.2.2.2.1 = 4140 from by decide +kernel] at hhi
  clear hn
  have hG0 := hG
  obtain ⟨g0, g1, g2, g3, g4, g5, g6, g7, g8, g9, g10, g11, g12, g13, g14, g15, g16, g17, g18, g19, g20, g21, g22, g23, g24⟩ := hG0
  have r_T0 := sx_gr_T0 hR
  have r_T1 := sx_gr_T1 hR
  have r_T2 := sx_gr_T2 hR
  have r_T3 := sx_gr_T3 hR
  have r_T4 := sx_gr_T4 hR
  obtain ⟨t0, t1, t2, t3, t4⟩ := g2
  match j, hj with
  | 0, _ => exact sx_q_s_week_0 hG (by omega) (by omega) ⟨(by rw [sx_au_s rfl]; omega), (by rw [sx_au_o (by decide)]; omega), (by rw [sx_au_o (by decide)]; omega), (by rw [sx_au_o (by decide)]; omega), (by rw [sx_au_o (by decide)]; omega)⟩
  | 1, _ => exact sx_q_s_week_1 hG (by omega) (by omega) ⟨(by rw [sx_au_o (by decide)]; omega), (by rw [sx_au_s rfl]; omega), (by rw [sx_au_o (by decide)]; omega), (by rw [sx_au_o (by decide)]; omega), (by rw [sx_au_o (by decide)]; omega)⟩
  | 2, _ => exact sx_q_s_week_2 hG (by omega) (by omega) ⟨(by rw [sx_au_o (by decide)]; omega), (by rw [sx_au_o (by decide)]; omega), (by rw [sx_au_s rfl]; omega), (by rw [sx_au_o (by decide)]; omega), (by rw [sx_au_o (by decide)]; omega)⟩
  | 3, _ => exact sx_q_s_week_3 hG (by omega) (by omega) ⟨(by rw [sx_au_o (by decide)]; omega), (by rw [sx_au_o (by decide)]; omega), (by rw [sx_au_o (by decide)]; omega), (by rw [sx_au_s rfl]; omega), (by rw [sx_au_o (by decide)]; omega)⟩
  | 4, _ => exact sx_q_s_week_4 hG (by omega) (by omega) ⟨(by rw [sx_au_o (by decide)]; omega), (by rw [sx_au_o (by decide)]; omega), (by rw [sx_au_o (by decide)]; omega), (by rw [sx_au_o (by decide)]; omega), (by rw [sx_au_s rfl]; omega)⟩
  | j + 5, hj => omega
theorem sx_p_m_room : sx_okm sx_GG sx_r_m_room := by
  intro γ A x hG hR hn
  clear hn
  have hG0 := hG
  obtain ⟨g0, g1, g2, g3, g4, g5, g6, g7, g8, g9, g10, g11, g12, g13, g14, g15, g16, g17, g18, g19, g20, g21, g22, g23, g24⟩ := hG0
  have r_K := sx_gr_K hR
  have r_LI := sx_gr_LI hR
  have r_LV := sx_gr_LV hR
  have r_MI := sx_gr_MI hR
  have r_MX := sx_gr_MX hR
  have r_VU := sx_gr_VU hR
  obtain ⟨q1, q2, q3, q4⟩ := g7
  exact sx_q_m_room_0 hG ⟨q1, q2, Or.inl (by omega), Or.inl (by omega)⟩
theorem sx_p_m_text : sx_okm sx_GG sx_r_m_text := by
  intro γ A x hG hR hn
  have n0 : 0 ≤ (-1) + ((-1) * γ 18461 + 0) := hn _ (List.Mem.head _)
  clear hn
  have hG0 := hG
  obtain ⟨g0, g1, g2, g3, g4, g5, g6, g7, g8, g9, g10, g11, g12, g13, g14, g15, g16, g17, g18, g19, g20, g21, g22, g23, g24⟩ := hG0
  have r_D := sx_gr_D hR
  have r_cO := sx_gr_cO hR
  have r_cS := sx_gr_cS hR
  have r_cY := sx_gr_cY hR
  have r_cp := sx_gr_cp hR
  have r_lI := sx_gr_lI hR
  have r_lV := sx_gr_lV hR
  have r_lw := sx_gr_lw hR
  have r_rE := sx_gr_rE hR
  have r_rF := sx_gr_rF hR
  have r_rK := sx_gr_rK hR
  have r_rL := sx_gr_rL hR
  have r_rN := sx_gr_rN hR
  have r_rP := sx_gr_rP hR
  have r_rQ := sx_gr_rQ hR
  have r_rSq := sx_gr_rSq hR
  have r_rSs := sx_gr_rSs hR
  have r_rT0 := sx_gr_rT0 hR
  have r_rT1 := sx_gr_rT1 hR
  have r_rV := sx_gr_rV hR
  have r_sE := sx_gr_sE hR
  have r_sa := sx_gr_sa hR
  have r_sb := sx_gr_sb hR
  have r_sp := sx_gr_sp hR
  have r_tB := sx_gr_tB hR
  have r_tE := sx_gr_tE hR
  have r_w0 := sx_gr_w0 hR
  have r_w1 := sx_gr_w1 hR
  have r_wa := sx_gr_wa hR
  have r_wh := sx_gr_wh hR
  have r_wp := sx_gr_wp hR
  have r_yp := sx_gr_yp hR
  refine sx_q_m_text_0 hG ⟨by omega, sx_ho_0 (by omega), ?_, (fun e => by omega), (fun e => by omega), (fun q2 a b => by omega), (fun e => by omega), (fun e => by omega), (fun e => by omega), (fun s2 a b => by omega)⟩ (sx_x4_n (by omega)) (sx_x5_0 (by omega))
  rw [show (2560 + 0 - (2560 + 0) : Int).toNat = 0 from rfl]
  rfl
theorem sx_p_m_copy : sx_okm sx_GG sx_r_m_copy := by
  intro γ A x hG hR hn
  have n0 : 0 ≤ (-1) + ((-1) * γ 18461 + 0) := hn _ (List.Mem.head _)
  have n1 : 0 ≤ 0 + (1 * x + 0) := hn _ (List.Mem.tail _ (List.Mem.head _))
  have n2 : 0 ≤ 7 + ((-1) * x + 0) := hn _ (List.Mem.tail _ (List.Mem.tail _ (List.Mem.head _)))
  clear hn
  have hG0 := hG
  obtain ⟨g0, g1, g2, g3, g4, g5, g6, g7, g8, g9, g10, g11, g12, g13, g14, g15, g16, g17, g18, g19, g20, g21, g22, g23, g24⟩ := hG0
  have r_D := sx_gr_D hR
  have r_cO := sx_gr_cO hR
  have r_cS := sx_gr_cS hR
  have r_cY := sx_gr_cY hR
  have r_cp := sx_gr_cp hR
  have r_lI := sx_gr_lI hR
  have r_lV := sx_gr_lV hR
  have r_lw := sx_gr_lw hR
  have r_rE := sx_gr_rE hR
  have r_rF := sx_gr_rF hR
  have r_rK := sx_gr_rK hR
  have r_rL := sx_gr_rL hR
  have r_rN := sx_gr_rN hR
  have r_rP := sx_gr_rP hR
  have r_rQ := sx_gr_rQ hR
  have r_rSq := sx_gr_rSq hR
  have r_rSs := sx_gr_rSs hR
  have r_rT0 := sx_gr_rT0 hR
  have r_rT1 := sx_gr_rT1 hR
  have r_rV := sx_gr_rV hR
  have r_yp := sx_gr_yp hR
  refine sx_q_m_copy_0 hG (fun p hp8 hne => g11 p hp8 (by omega)) (sx_x2_z (by omega) (by omega) (by omega) (by omega) (by omega) (by omega)) (fun _ => ⟨fun j2 a b => by omega, fun q2 a b => by omega, (fun e => by omega), (fun e => by omega), (fun i a => by omega), (fun e => by omega), (fun e => by omega), (fun e => by omega)⟩) (sx_x5_0 (by omega))
theorem sx_p_m_keep : sx_okm sx_GG sx_r_m_keep := by
  intro γ A x hG hR hn
  have n0 : 0 ≤ 0 + ((-1) * γ 18490 + (1 * x + 0)) := hn _ (List.Mem.head _)
  have n1 : 0 ≤ 0 + (1 * γ 18490 + ((-1) * x + 0)) := hn _ (List.Mem.tail _ (List.Mem.head _))
  clear hn
  have hG0 := hG
  obtain ⟨g0, g1, g2, g3, g4, g5, g6, g7, g8, g9, g10, g11, g12, g13, g14, g15, g16, g17, g18, g19, g20, g21, g22, g23, g24⟩ := hG0
  have r_KA := sx_gr_KA hR
  have r_KB := sx_gr_KB hR
  have r_KU := sx_gr_KU hR
  have r_UA := sx_gr_UA hR
  have r_UB := sx_gr_UB hR
  have r_UU := sx_gr_UU hR
  exact sx_q_m_keep_0 hG (by
    unfold sx_g8 at g9 ⊢
    rw [show (0 + (1 * γ 18490 + 0)) = γ 18490 by omega, show (0 + (1 * γ 18491 + 0)) = γ 18491 by omega, show (0 + (1 * γ 18492 + 0)) = γ 18492 by omega]
    exact g9)
theorem sx_p_m_fw : sx_okm sx_GG sx_r_m_fw := by
  intro γ A x hG hR hn
  clear hn
  have hG0 := hG
  obtain ⟨g0, g1, g2, g3, g4, g5, g6, g7, g8, g9, g10, g11, g12, g13, g14, g15, g16, g17, g18, g19, g20, g21, g22, g23, g24⟩ := hG0
  have r_fI := sx_gr_fI hR
  have r_fM := sx_gr_fM hR
  have r_fX := sx_gr_fX hR
  by_cases h1 : x = γ 18514
  · exact sx_q_m_fw_0 hG (by omega) (by omega) ⟨(fun j2 hj2 => (by have := g21.1 j2 hj2; omega)), (fun h => (by have := g21.2 h; omega))⟩
  · by_cases h2 : γ 18514 < x
    · exact sx_q_m_fw_1 hG (by omega) ⟨(fun j2 hj2 => (by omega)), (fun h => (by omega))⟩
    · exact sx_q_m_fw_2 hG (by omega) ⟨(fun j2 hj2 => (by omega)), (fun h => (by omega))⟩
theorem sx_p_m_fp : sx_okm sx_GG sx_r_m_fp := by
  intro γ A x hG hR hn
  have n0 : 0 ≤ 0 + ((-1) * x + 0) := hn _ (List.Mem.head _)
  clear hn
  have hG0 := hG
  obtain ⟨g0, g1, g2, g3, g4, g5, g6, g7, g8, g9, g10, g11, g12, g13, g14, g15, g16, g17, g18, g19, g20, g21, g22, g23, g24⟩ := hG0
  have r_fI := sx_gr_fI hR
  have r_fM := sx_gr_fM hR
  have r_fX := sx_gr_fX hR
  exact sx_q_m_fp_0 hG ⟨(fun j2 hj2 => (by omega)), (fun h => (by omega))⟩
theorem sx_p_m_gw : sx_okm sx_GG sx_r_m_gw := by
  intro γ A x hG hR hn
  clear hn
  have hG0 := hG
  obtain ⟨g0, g1, g2, g3, g4, g5, g6, g7, g8, g9, g10, g11, g12, g13, g14, g15, g16, g17, g18, g19, g20, g21, g22, g23, g24⟩ := hG0
  have r_gI := sx_gr_gI hR
  have r_gM := sx_gr_gM hR
  have r_gX := sx_gr_gX hR
  by_cases h1 : x = γ 18517
  · exact sx_q_m_gw_0 hG (by omega) (by omega) ⟨(fun j2 hj2 => (by have := g22.1 j2 hj2; omega)), (fun h => (by have := g22.2 h; omega))⟩
  · by_cases h2 : γ 18517 < x
    · exact sx_q_m_gw_1 hG (by omega) ⟨(fun j2 hj2 => (by omega)), (fun h => (by omega))⟩
    · exact sx_q_m_gw_2 hG (by omega) ⟨(fun j2 hj2 => (by omega)), (fun h => (by omega))⟩
theorem sx_p_m_gp : sx_okm sx_GG sx_r_m_gp := by
  intro γ A x hG hR hn
  have n0 : 0 ≤ 0 + ((-1) * x + 0) := hn _ (List.Mem.head _)
  clear hn
  have hG0 := hG
  obtain ⟨g0, g1, g2, g3, g4, g5, g6, g7, g8, g9, g10, g11, g12, g13, g14, g15, g16, g17, g18, g19, g20, g21, g22, g23, g24⟩ := hG0
  have r_gI := sx_gr_gI hR
  have r_gM := sx_gr_gM hR
  have r_gX := sx_gr_gX hR
  exact sx_q_m_gp_0 hG ⟨(fun j2 hj2 => (by omega)), (fun h => (by omega))⟩
theorem sx_p_m_tk : sx_okm sx_GG sx_r_m_tk := by
  intro γ A x hG hR hn
  have n0 : 0 ≤ 0 + ((-1) * x + 0) := hn _ (List.Mem.head _)
  clear hn
  have hG0 := hG
  obtain ⟨g0, g1, g2, g3, g4, g5, g6, g7, g8, g9, g10, g11, g12, g13, g14, g15, g16, g17, g18, g19, g20, g21, g22, g23, g24⟩ := hG0
  by_cases h1 : γ 12816 ≤ 3
  · exact sx_q_m_tk_0 hG (by omega)
  by_cases h2 : γ 12819 = 42
  · exact sx_q_m_tk_1 hG (by omega) (by omega) (by omega)
  by_cases h3 : γ 12819 = 43
  · exact sx_q_m_tk_2 hG (by omega) (by omega) (by omega)
  by_cases h4 : γ 12819 = 45
  · exact sx_q_m_tk_3 hG (by omega) (by omega) (by omega)
  by_cases h5 : γ 12819 = 41
  · exact sx_q_m_tk_4 hG (by omega) (by omega) (by omega)
  by_cases h7 : γ 12819 = 44
  · exact sx_q_m_tk_6 hG (by omega) (by omega) (by omega)
  by_cases h9 : γ 12819 ≤ 40
  · exact sx_q_m_tk_5 hG (by omega) (by omega)
  · exact sx_q_m_tk_7 hG (by omega) (by omega)
theorem sx_p_m_zf0 : sx_okm sx_GG sx_r_m_zf0 := by
  intro γ A x hG hR hn
  have n0 : 0 ≤ 0 + (1 * x + 0) := hn _ (List.Mem.head _)
  have n1 : 0 ≤ 0 + ((-1) * x + 0) := hn _ (List.Mem.tail _ (List.Mem.head _))
  have n2 : 0 ≤ (-41) + (1 * γ 12819 + 0) := hn _ (List.Mem.tail _ (List.Mem.tail _ (List.Mem.head _)))
  have n3 : 0 ≤ 41 + ((-1) * γ 12819 + 0) := hn _ (List.Mem.tail _ (List.Mem.tail _ (List.Mem.tail _ (List.Mem.head _))))
  have n4 : 0 ≤ (-4) + (1 * γ 12816 + 0) := hn _ (List.Mem.tail _ (List.Mem.tail _ (List.Mem.tail _ (List.Mem.tail _ (List.Mem.head _)))))
  clear hn
  have hG0 := hG
  obtain ⟨g0, g1, g2, g3, g4, g5, g6, g7, g8, g9, g10, g11, g12, g13, g14, g15, g16, g17, g18, g19, g20, g21, g22, g23, g24⟩ := hG0
  by_cases h1 : γ 18439 ≤ 0
  · by_cases h2 : γ 18446 ≤ 0
    · exact sx_q_m_zf0_0 hG (by omega) (by omega)
    · exact sx_q_m_zf0_1 hG (by omega) (by omega)
  · by_cases h2 : γ 18446 ≤ 0
    · exact sx_q_m_zf0_2 hG (by omega) (by omega)
    · exact sx_q_m_zf0_3 hG (by omega) (by omega)
theorem sx_p_m_zf1 : sx_okm sx_GG sx_r_m_zf1 := by
  intro γ A x hG hR hn
  have n0 : 0 ≤ (-1) + (1 * x + 0) := hn _ (List.Mem.head _)
  have n1 : 0 ≤ 1 + ((-1) * x + 0) := hn _ (List.Mem.tail _ (List.Mem.head _))
  have n2 : 0 ≤ (-41) + (1 * γ 12819 + 0) := hn _ (List.Mem.tail _ (List.Mem.tail _ (List.Mem.head _)))
  have n3 : 0 ≤ 41 + ((-1) * γ 12819 + 0) := hn _ (List.Mem.tail _ (List.Mem.tail _ (List.Mem.tail _ (List.Mem.head _))))
  have n4 : 0 ≤ (-4) + (1 * γ 12816 + 0) := hn _ (List.Mem.tail _ (List.Mem.tail _ (List.Mem.tail _ (List.Mem.tail _ (List.Mem.head _)))))
  clear hn
  have hG0 := hG
  obtain ⟨g0, g1, g2, g3, g4, g5, g6, g7, g8, g9, g10, g11, g12, g13, g14, g15, g16, g17, g18, g19, g20, g21, g22, g23, g24⟩ := hG0
  by_cases h1 : γ 18440 ≤ 0
  · by_cases h2 : γ 18447 ≤ 0
    · exact sx_q_m_zf1_0 hG (by omega) (by omega)
    · exact sx_q_m_zf1_1 hG (by omega) (by omega)
  · by_cases h2 : γ 18447 ≤ 0
    · exact sx_q_m_zf1_2 hG (by omega) (by omega)
    · exact sx_q_m_zf1_3 hG (by omega) (by omega)
theorem sx_p_m_zf2 : sx_okm sx_GG sx_r_m_zf2 := by
  intro γ A x hG hR hn
  have n0 : 0 ≤ (-2) + (1 * x + 0) := hn _ (List.Mem.head _)
  have n1 : 0 ≤ 2 + ((-1) * x + 0) := hn _ (List.Mem.tail _ (List.Mem.head _))
  have n2 : 0 ≤ (-41) + (1 * γ 12819 + 0) := hn _ (List.Mem.tail _ (List.Mem.tail _ (List.Mem.head _)))
  have n3 : 0 ≤ 41 + ((-1) * γ 12819 + 0) := hn _ (List.Mem.tail _ (List.Mem.tail _ (List.Mem.tail _ (List.Mem.head _))))
  have n4 : 0 ≤ (-4) + (1 * γ 12816 + 0) := hn _ (List.Mem.tail _ (List.Mem.tail _ (List.Mem.tail _ (List.Mem.tail _ (List.Mem.head _)))))
  clear hn
  have hG0 := hG
  obtain ⟨g0, g1, g2, g3, g4, g5, g6, g7, g8, g9, g10, g11, g12, g13, g14, g15, g16, g17, g18, g19, g20, g21, g22, g23, g24⟩ := hG0
  by_cases h1 : γ 18441 ≤ 0
  · by_cases h2 : γ 18448 ≤ 0
    · exact sx_q_m_zf2_0 hG (by omega) (by omega)
    · exact sx_q_m_zf2_1 hG (by omega) (by omega)
  · by_cases h2 : γ 18448 ≤ 0
    · exact sx_q_m_zf2_2 hG (by omega) (by omega)
    · exact sx_q_m_zf2_3 hG (by omega) (by omega)
theorem sx_p_m_zf3 : sx_okm sx_GG sx_r_m_zf3 := by
  intro γ A x hG hR hn
  have n0 : 0 ≤ (-3) + (1 * x + 0) := hn _ (List.Mem.head _)
  have n1 : 0 ≤ 3 + ((-1) * x + 0) := hn _ (List.Mem.tail _ (List.Mem.head _))
  have n2 : 0 ≤ (-41) + (1 * γ 12819 + 0) := hn _ (List.Mem.tail _ (List.Mem.tail _ (List.Mem.head _)))
  have n3 : 0 ≤ 41 + ((-1) * γ 12819 + 0) := hn _ (List.Mem.tail _ (List.Mem.tail _ (List.Mem.tail _ (List.Mem.head _))))
  have n4 : 0 ≤ (-4) + (1 * γ 12816 + 0) := hn _ (List.Mem.tail _ (List.Mem.tail _ (List.Mem.tail _ (List.Mem.tail _ (List.Mem.head _)))))
  clear hn
  have hG0 := hG
  obtain ⟨g0, g1, g2, g3, g4, g5, g6, g7, g8, g9, g10, g11, g12, g13, g14, g15, g16, g17, g18, g19, g20, g21, g22, g23, g24⟩ := hG0
  by_cases h1 : γ 18442 ≤ 0
  · by_cases h2 : γ 18449 ≤ 0
    · exact sx_q_m_zf3_0 hG (by omega) (by omega)
    · exact sx_q_m_zf3_1 hG (by omega) (by omega)
  · by_cases h2 : γ 18449 ≤ 0
    · exact sx_q_m_zf3_2 hG (by omega) (by omega)
    · exact sx_q_m_zf3_3 hG (by omega) (by omega)
theorem sx_p_m_zf4 : sx_okm sx_GG sx_r_m_zf4 := by
  intro γ A x hG hR hn
  have n0 : 0 ≤ (-4) + (1 * x + 0) := hn _ (List.Mem.head _)
  have n1 : 0 ≤ 4 + ((-1) * x + 0) := hn _ (List.Mem.tail _ (List.Mem.head _))
  have n2 : 0 ≤ (-41) + (1 * γ 12819 + 0) := hn _ (List.Mem.tail _ (List.Mem.tail _ (List.Mem.head _)))
  have n3 : 0 ≤ 41 + ((-1) * γ 12819 + 0) := hn _ (List.Mem.tail _ (List.Mem.tail _ (List.Mem.tail _ (List.Mem.head _))))
  have n4 : 0 ≤ (-4) + (1 * γ 12816 + 0) := hn _ (List.Mem.tail _ (List.Mem.tail _ (List.Mem.tail _ (List.Mem.tail _ (List.Mem.head _)))))
  clear hn
  have hG0 := hG
  obtain ⟨g0, g1, g2, g3, g4, g5, g6, g7, g8, g9, g10, g11, g12, g13, g14, g15, g16, g17, g18, g19, g20, g21, g22, g23, g24⟩ := hG0
  by_cases h1 : γ 18443 ≤ 0
  · by_cases h2 : γ 18450 ≤ 0
    · exact sx_q_m_zf4_0 hG (by omega) (by omega)
    · exact sx_q_m_zf4_1 hG (by omega) (by omega)
  · by_cases h2 : γ 18450 ≤ 0
    · exact sx_q_m_zf4_2 hG (by omega) (by omega)
    · exact sx_q_m_zf4_3 hG (by omega) (by omega)
theorem sx_p_m_zf5 : sx_okm sx_GG sx_r_m_zf5 := by
  intro γ A x hG hR hn
  have n0 : 0 ≤ (-5) + (1 * x + 0) := hn _ (List.Mem.head _)
  have n1 : 0 ≤ 5 + ((-1) * x + 0) := hn _ (List.Mem.tail _ (List.Mem.head _))
  have n2 : 0 ≤ (-41) + (1 * γ 12819 + 0) := hn _ (List.Mem.tail _ (List.Mem.tail _ (List.Mem.head _)))
  have n3 : 0 ≤ 41 + ((-1) * γ 12819 + 0) := hn _ (List.Mem.tail _ (List.Mem.tail _ (List.Mem.tail _ (List.Mem.head _))))
  have n4 : 0 ≤ (-4) + (1 * γ 12816 + 0) := hn _ (List.Mem.tail _ (List.Mem.tail _ (List.Mem.tail _ (List.Mem.tail _ (List.Mem.head _)))))
  clear hn
  have hG0 := hG
  obtain ⟨g0, g1, g2, g3, g4, g5, g6, g7, g8, g9, g10, g11, g12, g13, g14, g15, g16, g17, g18, g19, g20, g21, g22, g23, g24⟩ := hG0
  by_cases h1 : γ 18444 ≤ 0
  · by_cases h2 : γ 18451 ≤ 0
    · exact sx_q_m_zf5_0 hG (by omega) (by omega)
    · exact sx_q_m_zf5_1 hG (by omega) (by omega)
  · by_cases h2 : γ 18451 ≤ 0
    · exact sx_q_m_zf5_2 hG (by omega) (by omega)
    · exact sx_q_m_zf5_3 hG (by omega) (by omega)
theorem sx_p_m_zf6 : sx_okm sx_GG sx_r_m_zf6 := by
  intro γ A x hG hR hn
  have n0 : 0 ≤ (-6) + (1 * x + 0) := hn _ (List.Mem.head _)
  have n1 : 0 ≤ 6 + ((-1) * x + 0) := hn _ (List.Mem.tail _ (List.Mem.head _))
  have n2 : 0 ≤ (-41) + (1 * γ 12819 + 0) := hn _ (List.Mem.tail _ (List.Mem.tail _ (List.Mem.head _)))
  have n3 : 0 ≤ 41 + ((-1) * γ 12819 + 0) := hn _ (List.Mem.tail _ (List.Mem.tail _ (List.Mem.tail _ (List.Mem.head _))))
  have n4 : 0 ≤ (-4) + (1 * γ 12816 + 0) := hn _ (List.Mem.tail _ (List.Mem.tail _ (List.Mem.tail _ (List.Mem.tail _ (List.Mem.head _)))))
  clear hn
  have hG0 := hG
  obtain ⟨g0, g1, g2, g3, g4, g5, g6, g7, g8, g9, g10, g11, g12, g13, g14, g15, g16, g17, g18, g19, g20, g21, g22, g23, g24⟩ := hG0
  by_cases h1 : γ 18445 ≤ 0
  · by_cases h2 : γ 18452 ≤ 0
    · exact sx_q_m_zf6_0 hG (by omega) (by omega)
    · exact sx_q_m_zf6_1 hG (by omega) (by omega)
  · by_cases h2 : γ 18452 ≤ 0
    · exact sx_q_m_zf6_2 hG (by omega) (by omega)
    · exact sx_q_m_zf6_3 hG (by omega) (by omega)
theorem sx_p_a_kept : sx_okn sx_GG sx_r_a_kept := by
  intro γ A x y hG hR hx0 hx1 hy0 hy1 hn
  have n0 : 0 ≤ 0 + ((-1) * γ 18494 + (1 * x + 0)) := hn _ (List.Mem.head _)
  have n1 : 0 ≤ 0 + (1 * γ 18494 + ((-1) * x + 0)) := hn _ (List.Mem.tail _ (List.Mem.head _))
  have n2 : 0 ≤ 0 + ((-1) * γ 18493 + (1 * y + 0)) := hn _ (List.Mem.tail _ (List.Mem.tail _ (List.Mem.head _)))
  have n3 : 0 ≤ 0 + (1 * γ 18493 + ((-1) * y + 0)) := hn _ (List.Mem.tail _ (List.Mem.tail _ (List.Mem.tail _ (List.Mem.head _))))
  clear hn
  have hG0 := hG
  obtain ⟨g0, g1, g2, g3, g4, g5, g6, g7, g8, g9, g10, g11, g12, g13, g14, g15, g16, g17, g18, g19, g20, g21, g22, g23, g24⟩ := hG0
  have r_KA := sx_gr_KA hR
  have r_KB := sx_gr_KB hR
  have r_KU := sx_gr_KU hR
  have e1 : x = γ 18494 := by omega
  have e2 : y = γ 18493 := by omega
  have h1 : γ 18495 = (((γ 18493).toNat &&& (γ 18494).toNat : Nat) : Int) := g10
  have h2 : (γ 18493).toNat &&& (γ 18494).toNat ≤ (γ 18493).toNat := Nat.and_le_left
  have h3 : (γ 18493).toNat &&& (γ 18494).toNat ≤ (γ 18494).toNat := Nat.and_le_right
  refine sx_q_a_kept_0 hG (by omega) (by omega) ?_
  rw [e1, e2, Nat.and_comm]
  omega
theorem sx_p_a_new : sx_okn sx_GG sx_r_a_new := by
  intro γ A x y hG hR hx0 hx1 hy0 hy1 hn
  clear hn
  have hG0 := hG
  obtain ⟨g0, g1, g2, g3, g4, g5, g6, g7, g8, g9, g10, g11, g12, g13, g14, g15, g16, g17, g18, g19, g20, g21, g22, g23, g24⟩ := hG0
  have r_UA := sx_gr_UA hR
  have r_UB := sx_gr_UB hR
  have r_UU := sx_gr_UU hR
  have h2 : x.toNat &&& y.toNat ≤ x.toNat := Nat.and_le_left
  have h3 : x.toNat &&& y.toNat ≤ y.toNat := Nat.and_le_right
  refine sx_q_a_new_0 hG (fun _ => ((x.toNat &&& y.toNat : Nat) : Int)) ⟨by omega, by omega⟩ (by show 0 ≤ 0 + (1 * x + (-1 * ((x.toNat &&& y.toNat : Nat) : Int) + 0)); omega) (by show 0 ≤ 0 + (1 * y + (-1 * ((x.toNat &&& y.toNat : Nat) : Int) + 0)); omega) (by show 0 + (1 * ((x.toNat &&& y.toNat : Nat) : Int) + 0) = _; omega) ?_
  show 0 + (1 * ((x.toNat &&& y.toNat : Nat) : Int) + 0) = (((0 + (1 * x + 0)).toNat &&& (0 + (1 * y + 0)).toNat : Nat) : Int)
  rw [show 0 + (1 * x + 0) = x by omega, show 0 + (1 * y + 0) = y by omega]
  omega
theorem sx_p_b_kept : sx_okq (fun z => z % 32) sx_GG sx_r_b_kept := by
  intro γ A x hG hR hx0 hx1 hn
  have n0 : 0 ≤ 0 + ((-1) * γ 18509 + (1 * x + 0)) := hn _ (List.Mem.head _)
  have n1 : 0 ≤ 0 + (1 * γ 18509 + ((-1) * x + 0)) := hn _ (List.Mem.tail _ (List.Mem.head _))
  have n2 : 0 ≤ 0 + ((-1) * γ 18512 + (1 * x + 0)) := hn _ (List.Mem.tail _ (List.Mem.tail _ (List.Mem.head _)))
  have n3 : 0 ≤ 0 + (1 * γ 18512 + ((-1) * x + 0)) := hn _ (List.Mem.tail _ (List.Mem.tail _ (List.Mem.tail _ (List.Mem.head _))))
  clear hn
  have hG0 := hG
  obtain ⟨g0, g1, g2, g3, g4, g5, g6, g7, g8, g9, g10, g11, g12, g13, g14, g15, g16, g17, g18, g19, g20, g21, g22, g23, g24⟩ := hG0
  have r_hQ := sx_gr_hQ hR
  have r_hX := sx_gr_hX hR
  have r_qB := sx_gr_qB hR
  have r_qL := sx_gr_qL hR
  have r_qN := sx_gr_qN hR
  have gq : γ 18510 = γ 18509 / 32 := g19
  exact sx_q_b_kept_0 hG (by omega)
theorem sx_p_b_next : sx_okq (fun z => z % 32) sx_GG sx_r_b_next := by
  intro γ A x hG hR hx0 hx1 hn
  have n0 : 0 ≤ 0 + ((-1) * γ 18512 + (1 * x + 0)) := hn _ (List.Mem.head _)
  have n1 : 0 ≤ 0 + (1 * γ 18512 + ((-1) * x + 0)) := hn _ (List.Mem.tail _ (List.Mem.head _))
  clear hn
  have hG0 := hG
  obtain ⟨g0, g1, g2, g3, g4, g5, g6, g7, g8, g9, g10, g11, g12, g13, g14, g15, g16, g17, g18, g19, g20, g21, g22, g23, g24⟩ := hG0
  have r_hQ := sx_gr_hQ hR
  have r_hX := sx_gr_hX hR
  have r_qB := sx_gr_qB hR
  have r_qL := sx_gr_qL hR
  have r_qN := sx_gr_qN hR
  exact sx_q_b_next_0 hG (fun _ => x / 32) ⟨by omega, by omega⟩ (by show 0 ≤ 0 + (1 * x + (-32 * (x / 32) + 0)); omega) (by show 0 ≤ 31 + (-1 * x + (32 * (x / 32) + 0)); omega) (by show 0 + (1 * x + (-32 * (x / 32) + 0)) = x % 32; omega) (by show 0 + (1 * (x / 32) + 0) = (0 + (1 * x + 0)) / 32; omega)
theorem sx_p_b_new : sx_okq (fun z => z % 32) sx_GG sx_r_b_new := by
  intro γ A x hG hR hx0 hx1 hn
  clear hn
  have hG0 := hG
  obtain ⟨g0, g1, g2, g3, g4, g5, g6, g7, g8, g9, g10, g11, g12, g13, g14, g15, g16, g17, g18, g19, g20, g21, g22, g23, g24⟩ := hG0
  have r_hQ := sx_gr_hQ hR
  have r_hX := sx_gr_hX hR
  have r_qB := sx_gr_qB hR
  have r_qL := sx_gr_qL hR
  have r_qN := sx_gr_qN hR
  exact sx_q_b_new_0 hG (fun _ => x / 32) ⟨by omega, by omega⟩ (by show 0 ≤ 0 + (1 * x + (-32 * (x / 32) + 0)); omega) (by show 0 ≤ 31 + (-1 * x + (32 * (x / 32) + 0)); omega) (by show 0 + (1 * x + (-32 * (x / 32) + 0)) = x % 32; omega) (by show 0 + (1 * (x / 32) + 0) = (0 + (1 * x + 0)) / 32; omega) ⟨(fun _ => Iff.rfl), (fun h => absurd h (by omega))⟩
theorem sx_p_d_good : sx_okq (fun z => z / 32) sx_GG sx_r_d_good := by
  intro γ A x hG hR hx0 hx1 hn
  have n0 : 0 ≤ 0 + ((-1) * γ 18509 + (1 * x + 0)) := hn _ (List.Mem.head _)
  have n1 : 0 ≤ 0 + (1 * γ 18509 + ((-1) * x + 0)) := hn _ (List.Mem.tail _ (List.Mem.head _))
  have n2 : 0 ≤ 0 + ((-1) * γ 18512 + (1 * x + 0)) := hn _ (List.Mem.tail _ (List.Mem.tail _ (List.Mem.head _)))
  have n3 : 0 ≤ 0 + (1 * γ 18512 + ((-1) * x + 0)) := hn _ (List.Mem.tail _ (List.Mem.tail _ (List.Mem.tail _ (List.Mem.head _))))
  have n4 : 0 ≤ (-1) + ((-32) * γ 18510 + (1 * x + 0)) := hn _ (List.Mem.tail _ (List.Mem.tail _ (List.Mem.tail _ (List.Mem.tail _ (List.Mem.head _)))))
  have n5 : 0 ≤ 26 + (32 * γ 18510 + ((-1) * x + 0)) := hn _ (List.Mem.tail _ (List.Mem.tail _ (List.Mem.tail _ (List.Mem.tail _ (List.Mem.tail _ (List.Mem.head _))))))
  have n6 : 0 ≤ (-1) + (1 * γ 18513 + 0) := hn _ (List.Mem.tail _ (List.Mem.tail _ (List.Mem.tail _ (List.Mem.tail _ (List.Mem.tail _ (List.Mem.tail _ (List.Mem.head _)))))))
  have n7 : 0 ≤ (-1) + (1 * x + 0) := hn _ (List.Mem.tail _ (List.Mem.tail _ (List.Mem.tail _ (List.Mem.tail _ (List.Mem.tail _ (List.Mem.tail _ (List.Mem.tail _ (List.Mem.head _))))))))
  clear hn
  have hG0 := hG
  obtain ⟨g0, g1, g2, g3, g4, g5, g6, g7, g8, g9, g10, g11, g12, g13, g14, g15, g16, g17, g18, g19, g20, g21, g22, g23, g24⟩ := hG0
  have r_hQ := sx_gr_hQ hR
  have r_hX := sx_gr_hX hR
  have r_qB := sx_gr_qB hR
  have r_qL := sx_gr_qL hR
  have r_qN := sx_gr_qN hR
  have gq : γ 18510 = γ 18509 / 32 := g19
  exact sx_q_d_good_0 hG (by omega) (by omega) ⟨(fun _ => (g20.1 (by omega)).trans (sx_gdn_s (q := γ 18510) (by omega) (by omega) (by omega))), g20.2⟩
theorem sx_p_d_bad1 : sx_okq (fun z => z / 32) sx_GG sx_r_d_bad1 := by
  intro γ A x hG hR hx0 hx1 hn
  have n0 : 0 ≤ 0 + ((-1) * γ 18509 + (1 * x + 0)) := hn _ (List.Mem.head _)
  have n1 : 0 ≤ 0 + (1 * γ 18509 + ((-1) * x + 0)) := hn _ (List.Mem.tail _ (List.Mem.head _))
  have n2 : 0 ≤ 0 + ((-1) * γ 18512 + (1 * x + 0)) := hn _ (List.Mem.tail _ (List.Mem.tail _ (List.Mem.head _)))
  have n3 : 0 ≤ 0 + (1 * γ 18512 + ((-1) * x + 0)) := hn _ (List.Mem.tail _ (List.Mem.tail _ (List.Mem.tail _ (List.Mem.head _))))
  have n4 : 0 ≤ 0 + (32 * γ 18510 + ((-1) * x + 0)) := hn _ (List.Mem.tail _ (List.Mem.tail _ (List.Mem.tail _ (List.Mem.tail _ (List.Mem.head _)))))
  have n5 : 0 ≤ (-1) + (1 * γ 18513 + 0) := hn _ (List.Mem.tail _ (List.Mem.tail _ (List.Mem.tail _ (List.Mem.tail _ (List.Mem.tail _ (List.Mem.head _))))))
  have n6 : 0 ≤ (-1) + (1 * x + 0) := hn _ (List.Mem.tail _ (List.Mem.tail _ (List.Mem.tail _ (List.Mem.tail _ (List.Mem.tail _ (List.Mem.tail _ (List.Mem.head _)))))))
  clear hn
  have hG0 := hG
  obtain ⟨g0, g1, g2, g3, g4, g5, g6, g7, g8, g9, g10, g11, g12, g13, g14, g15, g16, g17, g18, g19, g20, g21, g22, g23, g24⟩ := hG0
  have r_hQ := sx_gr_hQ hR
  have r_hX := sx_gr_hX hR
  have r_qB := sx_gr_qB hR
  have r_qL := sx_gr_qL hR
  have r_qN := sx_gr_qN hR
  have gq : γ 18510 = γ 18509 / 32 := g19
  exact sx_q_d_bad1_0 hG (by omega) (by omega) ⟨(fun h => absurd h (by omega)), (fun _ h => sx_gdn_b (l := γ 18512) (by omega) (by omega) ((g20.1 (by omega)).mp h))⟩
theorem sx_p_d_bad2 : sx_okq (fun z => z / 32) sx_GG sx_r_d_bad2 := by
  intro γ A x hG hR hx0 hx1 hn
  have n0 : 0 ≤ 0 + ((-1) * γ 18509 + (1 * x + 0)) := hn _ (List.Mem.head _)
  have n1 : 0 ≤ 0 + (1 * γ 18509 + ((-1) * x + 0)) := hn _ (List.Mem.tail _ (List.Mem.head _))
  have n2 : 0 ≤ 0 + ((-1) * γ 18512 + (1 * x + 0)) := hn _ (List.Mem.tail _ (List.Mem.tail _ (List.Mem.head _)))
  have n3 : 0 ≤ 0 + (1 * γ 18512 + ((-1) * x + 0)) := hn _ (List.Mem.tail _ (List.Mem.tail _ (List.Mem.tail _ (List.Mem.head _))))
  have n4 : 0 ≤ (-27) + ((-32) * γ 18510 + (1 * x + 0)) := hn _ (List.Mem.tail _ (List.Mem.tail _ (List.Mem.tail _ (List.Mem.tail _ (List.Mem.head _)))))
  have n5 : 0 ≤ (-1) + (1 * γ 18513 + 0) := hn _ (List.Mem.tail _ (List.Mem.tail _ (List.Mem.tail _ (List.Mem.tail _ (List.Mem.tail _ (List.Mem.head _))))))
  have n6 : 0 ≤ (-1) + (1 * x + 0) := hn _ (List.Mem.tail _ (List.Mem.tail _ (List.Mem.tail _ (List.Mem.tail _ (List.Mem.tail _ (List.Mem.tail _ (List.Mem.head _)))))))
  clear hn
  have hG0 := hG
  obtain ⟨g0, g1, g2, g3, g4, g5, g6, g7, g8, g9, g10, g11, g12, g13, g14, g15, g16, g17, g18, g19, g20, g21, g22, g23, g24⟩ := hG0
  have r_hQ := sx_gr_hQ hR
  have r_hX := sx_gr_hX hR
  have r_qB := sx_gr_qB hR
  have r_qL := sx_gr_qL hR
  have r_qN := sx_gr_qN hR
  have gq : γ 18510 = γ 18509 / 32 := g19
  exact sx_q_d_bad2_0 hG (by omega) (by omega) ⟨(fun h => absurd h (by omega)), (fun _ h => sx_gdn_b (l := γ 18512) (by omega) (by omega) ((g20.1 (by omega)).mp h))⟩
theorem sx_p_d_new1 : sx_okq (fun z => z / 32) sx_GG sx_r_d_new1 := by
  intro γ A x hG hR hx0 hx1 hn
  have n0 : 0 ≤ (-1) + (1 * x + 0) := hn _ (List.Mem.head _)
  clear hn
  have hG0 := hG
  obtain ⟨g0, g1, g2, g3, g4, g5, g6, g7, g8, g9, g10, g11, g12, g13, g14, g15, g16, g17, g18, g19, g20, g21, g22, g23, g24⟩ := hG0
  have r_hQ := sx_gr_hQ hR
  have r_hX := sx_gr_hX hR
  exact sx_q_d_new1_0 hG (fun _ => x / 32) ⟨by omega, by omega⟩ (by show 0 ≤ 0 + (1 * x + (-32 * (x / 32) + 0)); omega) (by show 0 ≤ 31 + (-1 * x + (32 * (x / 32) + 0)); omega) (by show 0 ≤ -1 + (1 * x + (-1 * (x / 32) + 0)); omega) (by show 0 + (1 * (x / 32) + 0) = x / 32; omega) (by show 0 + (1 * (x / 32) + 0) = (0 + (1 * x + 0)) / 32; omega)
theorem sx_p_d_new : sx_okq (fun z => z / 32) sx_GG sx_r_d_new := by
  intro γ A x hG hR hx0 hx1 hn
  clear hn
  have hG0 := hG
  obtain ⟨g0, g1, g2, g3, g4, g5, g6, g7, g8, g9, g10, g11, g12, g13, g14, g15, g16, g17, g18, g19, g20, g21, g22, g23, g24⟩ := hG0
  have r_hQ := sx_gr_hQ hR
  have r_hX := sx_gr_hX hR
  exact sx_q_d_new_0 hG (fun _ => x / 32) ⟨by omega, by omega⟩ (by show 0 ≤ 0 + (1 * x + (-32 * (x / 32) + 0)); omega) (by show 0 ≤ 31 + (-1 * x + (32 * (x / 32) + 0)); omega) (by show 0 + (1 * (x / 32) + 0) = x / 32; omega) (by show 0 + (1 * (x / 32) + 0) = (0 + (1 * x + 0)) / 32; omega)
theorem sx_rl_e : ∀ q, q < 143 → q ∉ [2, 41, 76, 77, 101, 102, 104, 110, 111, 113, 114, 115, 116, 117, 119, 120, 121, 123, 124, 131, 135, 136, 140] → (sx_rl.get q).length = 0 := by decide +kernel
theorem sx_rl_ok (q : Nat) (hq : q < 143) (r : sx_Ru) (hr : r ∈ sx_rl.get q) : sx_okr sx_GG false q r := by
  by_cases hm : q ∈ [2, 41, 76, 77, 101, 102, 104, 110, 111, 113, 114, 115, 116, 117, 119, 120, 121, 123, 124, 131, 135, 136, 140]
  · simp only [List.mem_cons, List.not_mem_nil, or_false] at hm
    rcases hm with rfl | rfl | rfl | rfl | rfl | rfl | rfl | rfl | rfl | rfl | rfl | rfl | rfl | rfl | rfl | rfl | rfl | rfl | rfl | rfl | rfl | rfl | rfl
    · replace hr : r ∈ [sx_r_l_fnd] := hr
      simp only [List.mem_cons, List.not_mem_nil, or_false] at hr
      rcases hr with rfl
      exact sx_p_l_fnd
    · replace hr : r ∈ [sx_r_l_tr] := hr
      simp only [List.mem_cons, List.not_mem_nil, or_false] at hr
      rcases hr with rfl
      exact sx_p_l_tr
    · replace hr : r ∈ [sx_r_l_choice] := hr
      simp only [List.mem_cons, List.not_mem_nil, or_false] at hr
      rcases hr with rfl
      exact sx_p_l_choice
    · replace hr : r ∈ [sx_r_l_opened] := hr
      simp only [List.mem_cons, List.not_mem_nil, or_false] at hr
      rcases hr with rfl
      exact sx_p_l_opened
    · replace hr : r ∈ [sx_r_l_sort] := hr
      simp only [List.mem_cons, List.not_mem_nil, or_false] at hr
      rcases hr with rfl
      exact sx_p_l_sort
    · replace hr : r ∈ [sx_r_l_trayMany] := hr
      simp only [List.mem_cons, List.not_mem_nil, or_false] at hr
      rcases hr with rfl
      exact sx_p_l_trayMany
    · replace hr : r ∈ [sx_r_l_gnd] := hr
      simp only [List.mem_cons, List.not_mem_nil, or_false] at hr
      rcases hr with rfl
      exact sx_p_l_gnd
    · replace hr : r ∈ [sx_r_l_tx0, sx_r_l_tx] := hr
      simp only [List.mem_cons, List.not_mem_nil, or_false] at hr
      rcases hr with rfl | rfl
      · exact sx_p_l_tx0
      · exact sx_p_l_tx
    · replace hr : r ∈ [sx_r_l_say] := hr
      simp only [List.mem_cons, List.not_mem_nil, or_false] at hr
      rcases hr with rfl
      exact sx_p_l_say
    · replace hr : r ∈ [sx_r_l_sf, sx_r_l_cp5] := hr
      simp only [List.mem_cons, List.not_mem_nil, or_false] at hr
      rcases hr with rfl | rfl
      · exact sx_p_l_sf
      · exact sx_p_l_cp5
    · replace hr : r ∈ [sx_r_l_st, sx_r_l_cp6] := hr
      simp only [List.mem_cons, List.not_mem_nil, or_false] at hr
      rcases hr with rfl | rfl
      · exact sx_p_l_st
      · exact sx_p_l_cp6
    · replace hr : r ∈ [sx_r_l_tf, sx_r_l_cp7] := hr
      simp only [List.mem_cons, List.not_mem_nil, or_false] at hr
      rcases hr with rfl | rfl
      · exact sx_p_l_tf
      · exact sx_p_l_cp7
    · replace hr : r ∈ [sx_r_l_tt, sx_r_l_cp8] := hr
      simp only [List.mem_cons, List.not_mem_nil, or_false] at hr
      rcases hr with rfl | rfl
      · exact sx_p_l_tt
      · exact sx_p_l_cp8
    · replace hr : r ∈ [sx_r_l_sg, sx_r_l_cp1] := hr
      simp only [List.mem_cons, List.not_mem_nil, or_false] at hr
      rcases hr with rfl | rfl
      · exact sx_p_l_sg
      · exact sx_p_l_cp1
    · replace hr : r ∈ [sx_r_l_lf, sx_r_l_cp2] := hr
      simp only [List.mem_cons, List.not_mem_nil, or_false] at hr
      rcases hr with rfl | rfl
      · exact sx_p_l_lf
      · exact sx_p_l_cp2
    · replace hr : r ∈ [sx_r_l_lt, sx_r_l_cp3] := hr
      simp only [List.mem_cons, List.not_mem_nil, or_false] at hr
      rcases hr with rfl | rfl
      · exact sx_p_l_lt
      · exact sx_p_l_cp3
    · replace hr : r ∈ [sx_r_l_rt, sx_r_l_cp4] := hr
      simp only [List.mem_cons, List.not_mem_nil, or_false] at hr
      rcases hr with rfl | rfl
      · exact sx_p_l_rt
      · exact sx_p_l_cp4
    · replace hr : r ∈ [sx_r_l_zS0, sx_r_l_zS1, sx_r_l_zS2, sx_r_l_zS3, sx_r_l_zS4, sx_r_l_zS5, sx_r_l_zS6] := hr
      simp only [List.mem_cons, List.not_mem_nil, or_false] at hr
      rcases hr with rfl | rfl | rfl | rfl | rfl | rfl | rfl
      · exact sx_p_l_zS0
      · exact sx_p_l_zS1
      · exact sx_p_l_zS2
      · exact sx_p_l_zS3
      · exact sx_p_l_zS4
      · exact sx_p_l_zS5
      · exact sx_p_l_zS6
    · replace hr : r ∈ [sx_r_l_zI0, sx_r_l_zI1, sx_r_l_zI2, sx_r_l_zI3, sx_r_l_zI4, sx_r_l_zI5, sx_r_l_zI6] := hr
      simp only [List.mem_cons, List.not_mem_nil, or_false] at hr
      rcases hr with rfl | rfl | rfl | rfl | rfl | rfl | rfl
      · exact sx_p_l_zI0
      · exact sx_p_l_zI1
      · exact sx_p_l_zI2
      · exact sx_p_l_zI3
      · exact sx_p_l_zI4
      · exact sx_p_l_zI5
      · exact sx_p_l_zI6
    · replace hr : r ∈ [sx_r_l_room0, sx_r_l_room] := hr
      simp only [List.mem_cons, List.not_mem_nil, or_false] at hr
      rcases hr with rfl | rfl
      · exact sx_p_l_room0
      · exact sx_p_l_room
    · replace hr : r ∈ [sx_r_l_who] := hr
      simp only [List.mem_cons, List.not_mem_nil, or_false] at hr
      rcases hr with rfl
      exact sx_p_l_who
    · replace hr : r ∈ [sx_r_l_goal] := hr
      simp only [List.mem_cons, List.not_mem_nil, or_false] at hr
      rcases hr with rfl
      exact sx_p_l_goal
    · replace hr : r ∈ [sx_r_l_week0, sx_r_l_week1, sx_r_l_week2, sx_r_l_week3, sx_r_l_week4] := hr
      simp only [List.mem_cons, List.not_mem_nil, or_false] at hr
      rcases hr with rfl | rfl | rfl | rfl | rfl
      · exact sx_p_l_week0
      · exact sx_p_l_week1
      · exact sx_p_l_week2
      · exact sx_p_l_week3
      · exact sx_p_l_week4
  · have h0 := sx_rl_e q hq hm
    rw [List.length_eq_zero_iff.mp h0] at hr
    cases hr
theorem sx_rs_e : ∀ q, q < 143 → q ∉ [2, 41, 76, 77, 101, 102, 104, 110, 111, 113, 114, 115, 116, 117, 119, 120, 121, 123, 124, 131, 135, 136, 140] → (sx_rs.get q).length = 0 := by decide +kernel
theorem sx_rs_ok (q : Nat) (hq : q < 143) (r : sx_Ru) (hr : r ∈ sx_rs.get q) : sx_okr sx_GG true q r := by
  by_cases hm : q ∈ [2, 41, 76, 77, 101, 102, 104, 110, 111, 113, 114, 115, 116, 117, 119, 120, 121, 123, 124, 131, 135, 136, 140]
  · simp only [List.mem_cons, List.not_mem_nil, or_false] at hm
    rcases hm with rfl | rfl | rfl | rfl | rfl | rfl | rfl | rfl | rfl | rfl | rfl | rfl | rfl | rfl | rfl | rfl | rfl | rfl | rfl | rfl | rfl | rfl | rfl
    · replace hr : r ∈ [sx_r_s_fndA, sx_r_s_fndB] := hr
      simp only [List.mem_cons, List.not_mem_nil, or_false] at hr
      rcases hr with rfl | rfl
      · exact sx_p_s_fndA
      · exact sx_p_s_fndB
    · replace hr : r ∈ [sx_r_s_tr] := hr
      simp only [List.mem_cons, List.not_mem_nil, or_false] at hr
      rcases hr with rfl
      exact sx_p_s_tr
    · replace hr : r ∈ [sx_r_s_choicea, sx_r_s_choiceb, sx_r_s_choicec, sx_r_s_choiced] := hr
      simp only [List.mem_cons, List.not_mem_nil, or_false] at hr
      rcases hr with rfl | rfl | rfl | rfl
      · exact sx_p_s_choicea
      · exact sx_p_s_choiceb
      · exact sx_p_s_choicec
      · exact sx_p_s_choiced
    · replace hr : r ∈ [sx_r_s_openeda, sx_r_s_openedb, sx_r_s_openedc, sx_r_s_openedd] := hr
      simp only [List.mem_cons, List.not_mem_nil, or_false] at hr
      rcases hr with rfl | rfl | rfl | rfl
      · exact sx_p_s_openeda
      · exact sx_p_s_openedb
      · exact sx_p_s_openedc
      · exact sx_p_s_openedd
    · replace hr : r ∈ [sx_r_s_sort] := hr
      simp only [List.mem_cons, List.not_mem_nil, or_false] at hr
      rcases hr with rfl
      exact sx_p_s_sort
    · replace hr : r ∈ [sx_r_s_trayMany] := hr
      simp only [List.mem_cons, List.not_mem_nil, or_false] at hr
      rcases hr with rfl
      exact sx_p_s_trayMany
    · replace hr : r ∈ [sx_r_s_gndA, sx_r_s_gndB] := hr
      simp only [List.mem_cons, List.not_mem_nil, or_false] at hr
      rcases hr with rfl | rfl
      · exact sx_p_s_gndA
      · exact sx_p_s_gndB
    · replace hr : r ∈ [sx_r_s_tx] := hr
      simp only [List.mem_cons, List.not_mem_nil, or_false] at hr
      rcases hr with rfl
      exact sx_p_s_tx
    · replace hr : r ∈ [sx_r_s_sayA, sx_r_s_sayB] := hr
      simp only [List.mem_cons, List.not_mem_nil, or_false] at hr
      rcases hr with rfl | rfl
      · exact sx_p_s_sayA
      · exact sx_p_s_sayB
    · replace hr : r ∈ [sx_r_s_sfA, sx_r_s_sfC] := hr
      simp only [List.mem_cons, List.not_mem_nil, or_false] at hr
      rcases hr with rfl | rfl
      · exact sx_p_s_sfA
      · exact sx_p_s_sfC
    · replace hr : r ∈ [sx_r_s_stA, sx_r_s_stC] := hr
      simp only [List.mem_cons, List.not_mem_nil, or_false] at hr
      rcases hr with rfl | rfl
      · exact sx_p_s_stA
      · exact sx_p_s_stC
    · replace hr : r ∈ [sx_r_s_tfA, sx_r_s_tfC] := hr
      simp only [List.mem_cons, List.not_mem_nil, or_false] at hr
      rcases hr with rfl | rfl
      · exact sx_p_s_tfA
      · exact sx_p_s_tfC
    · replace hr : r ∈ [sx_r_s_ttA, sx_r_s_ttC] := hr
      simp only [List.mem_cons, List.not_mem_nil, or_false] at hr
      rcases hr with rfl | rfl
      · exact sx_p_s_ttA
      · exact sx_p_s_ttC
    · replace hr : r ∈ [sx_r_s_sgA, sx_r_s_sgB, sx_r_s_sgC] := hr
      simp only [List.mem_cons, List.not_mem_nil, or_false] at hr
      rcases hr with rfl | rfl | rfl
      · exact sx_p_s_sgA
      · exact sx_p_s_sgB
      · exact sx_p_s_sgC
    · replace hr : r ∈ [sx_r_s_lfA, sx_r_s_lfC] := hr
      simp only [List.mem_cons, List.not_mem_nil, or_false] at hr
      rcases hr with rfl | rfl
      · exact sx_p_s_lfA
      · exact sx_p_s_lfC
    · replace hr : r ∈ [sx_r_s_ltA, sx_r_s_ltC] := hr
      simp only [List.mem_cons, List.not_mem_nil, or_false] at hr
      rcases hr with rfl | rfl
      · exact sx_p_s_ltA
      · exact sx_p_s_ltC
    · replace hr : r ∈ [sx_r_s_rtA, sx_r_s_rtC] := hr
      simp only [List.mem_cons, List.not_mem_nil, or_false] at hr
      rcases hr with rfl | rfl
      · exact sx_p_s_rtA
      · exact sx_p_s_rtC
    · replace hr : r ∈ [sx_r_s_zS0a, sx_r_s_zS0b, sx_r_s_zS1a, sx_r_s_zS1b, sx_r_s_zS2a, sx_r_s_zS2b, sx_r_s_zS3a, sx_r_s_zS3b, sx_r_s_zS4a, sx_r_s_zS4b, sx_r_s_zS5a, sx_r_s_zS5b, sx_r_s_zS6a, sx_r_s_zS6b] := hr
      simp only [List.mem_cons, List.not_mem_nil, or_false] at hr
      rcases hr with rfl | rfl | rfl | rfl | rfl | rfl | rfl | rfl | rfl | rfl | rfl | rfl | rfl | rfl
      · exact sx_p_s_zS0a
      · exact sx_p_s_zS0b
      · exact sx_p_s_zS1a
      · exact sx_p_s_zS1b
      · exact sx_p_s_zS2a
      · exact sx_p_s_zS2b
      · exact sx_p_s_zS3a
      · exact sx_p_s_zS3b
      · exact sx_p_s_zS4a
      · exact sx_p_s_zS4b
      · exact sx_p_s_zS5a
      · exact sx_p_s_zS5b
      · exact sx_p_s_zS6a
      · exact sx_p_s_zS6b
    · replace hr : r ∈ [sx_r_s_zI0a, sx_r_s_zI0b, sx_r_s_zI1a, sx_r_s_zI1b, sx_r_s_zI2a, sx_r_s_zI2b, sx_r_s_zI3a, sx_r_s_zI3b, sx_r_s_zI4a, sx_r_s_zI4b, sx_r_s_zI5a, sx_r_s_zI5b, sx_r_s_zI6a, sx_r_s_zI6b] := hr
      simp only [List.mem_cons, List.not_mem_nil, or_false] at hr
      rcases hr with rfl | rfl | rfl | rfl | rfl | rfl | rfl | rfl | rfl | rfl | rfl | rfl | rfl | rfl
      · exact sx_p_s_zI0a
      · exact sx_p_s_zI0b
      · exact sx_p_s_zI1a
      · exact sx_p_s_zI1b
      · exact sx_p_s_zI2a
      · exact sx_p_s_zI2b
      · exact sx_p_s_zI3a
      · exact sx_p_s_zI3b
      · exact sx_p_s_zI4a
      · exact sx_p_s_zI4b
      · exact sx_p_s_zI5a
      · exact sx_p_s_zI5b
      · exact sx_p_s_zI6a
      · exact sx_p_s_zI6b
    · replace hr : r ∈ [sx_r_s_roomA, sx_r_s_roomB, sx_r_s_roomC, sx_r_s_roomD] := hr
      simp only [List.mem_cons, List.not_mem_nil, or_false] at hr
      rcases hr with rfl | rfl | rfl | rfl
      · exact sx_p_s_roomA
      · exact sx_p_s_roomB
      · exact sx_p_s_roomC
      · exact sx_p_s_roomD
    · replace hr : r ∈ [sx_r_s_who] := hr
      simp only [List.mem_cons, List.not_mem_nil, or_false] at hr
      rcases hr with rfl
      exact sx_p_s_who
    · replace hr : r ∈ [sx_r_s_goal] := hr
      simp only [List.mem_cons, List.not_mem_nil, or_false] at hr
      rcases hr with rfl
      exact sx_p_s_goal
    · replace hr : r ∈ [sx_r_s_week0, sx_r_s_week1, sx_r_s_week2, sx_r_s_week3, sx_r_s_week4, sx_r_s_week] := hr
      simp only [List.mem_cons, List.not_mem_nil, or_false] at hr
      rcases hr with rfl | rfl | rfl | rfl | rfl | rfl
      · exact sx_p_s_week0
      · exact sx_p_s_week1
      · exact sx_p_s_week2
      · exact sx_p_s_week3
      · exact sx_p_s_week4
      · exact sx_p_s_week
  · have h0 := sx_rs_e q hq hm
    rw [List.length_eq_zero_iff.mp h0] at hr
    cases hr
theorem sx_mv_ok (r : sx_Ru) (hr : r ∈ sx_mv) : sx_okm sx_GG r := by
  replace hr : r ∈ [sx_r_m_room, sx_r_m_text, sx_r_m_copy, sx_r_m_keep, sx_r_m_fw, sx_r_m_fp, sx_r_m_gw, sx_r_m_gp, sx_r_m_tk, sx_r_m_zf0, sx_r_m_zf1, sx_r_m_zf2, sx_r_m_zf3, sx_r_m_zf4, sx_r_m_zf5, sx_r_m_zf6] := hr
  simp only [List.mem_cons, List.not_mem_nil, or_false] at hr
  rcases hr with rfl | rfl | rfl | rfl | rfl | rfl | rfl | rfl | rfl | rfl | rfl | rfl | rfl | rfl | rfl | rfl
  · exact sx_p_m_room
  · exact sx_p_m_text
  · exact sx_p_m_copy
  · exact sx_p_m_keep
  · exact sx_p_m_fw
  · exact sx_p_m_fp
  · exact sx_p_m_gw
  · exact sx_p_m_gp
  · exact sx_p_m_tk
  · exact sx_p_m_zf0
  · exact sx_p_m_zf1
  · exact sx_p_m_zf2
  · exact sx_p_m_zf3
  · exact sx_p_m_zf4
  · exact sx_p_m_zf5
  · exact sx_p_m_zf6
theorem sx_rn_ok (r : sx_Ru) (hr : r ∈ sx_ran) : sx_okn sx_GG r := by
  replace hr : r ∈ [sx_r_a_kept, sx_r_a_new] := hr
  simp only [List.mem_cons, List.not_mem_nil, or_false] at hr
  rcases hr with rfl | rfl
  · exact sx_p_a_kept
  · exact sx_p_a_new
theorem sx_rmo_ok (r : sx_Ru) (hr : r ∈ sx_rmo) : sx_okq (fun z => z % 32) sx_GG r := by
  replace hr : r ∈ [sx_r_b_kept, sx_r_b_next, sx_r_b_new] := hr
  simp only [List.mem_cons, List.not_mem_nil, or_false] at hr
  rcases hr with rfl | rfl | rfl
  · exact sx_p_b_kept
  · exact sx_p_b_next
  · exact sx_p_b_new
theorem sx_rdi_ok (r : sx_Ru) (hr : r ∈ sx_rdi) : sx_okq (fun z => z / 32) sx_GG r := by
  replace hr : r ∈ [sx_r_d_good, sx_r_d_bad1, sx_r_d_bad2, sx_r_d_new1, sx_r_d_new] := hr
  simp only [List.mem_cons, List.not_mem_nil, or_false] at hr
  rcases hr with rfl | rfl | rfl | rfl | rfl
  · exact sx_p_d_good
  · exact sx_p_d_bad1
  · exact sx_p_d_bad2
  · exact sx_p_d_new1
  · exact sx_p_d_new
