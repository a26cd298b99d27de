def rf_0 : List Value := [.null, .null, .int 0, .int 0, .int 0, .int 0, .int 0, .int 0, .int 0]
theorem rc_0 : rv_CF RX0 TX0 9 (rv_nw 0) := ⟨List.all_eq_true.mp (show (u_ws RX0 TX0 9).all (fun w => decide (w ∈ rv_T2)) = true by decide +kernel) |> fun h w hw => of_decide_eq_true (h w hw), tyX0, tyX0_ok, nmX0, rf_0, by decide +kernel, fun (ρ : rv_ρ) L => ⟨rfl, rfl, rfl, rfl, rfl, rfl, rfl, rfl, rfl, True.intro⟩⟩
def rf_1 : List Value := [.null, .null, .null, .null, .int 0]
theorem rc_1 : rv_CF RX1 TX1 5 (rv_nw 1) := ⟨List.all_eq_true.mp (show (u_ws RX1 TX1 5).all (fun w => decide (w ∈ rv_T2)) = true by decide +kernel) |> fun h w hw => of_decide_eq_true (h w hw), tyX1, tyX1_ok, nmX1, rf_1, by decide +kernel, fun (ρ : rv_ρ) L => ⟨rfl, rfl, rfl, rfl, rfl, True.intro⟩⟩
def rf_2 : List Value := [.null, .null, .null, .null, .null, .null, .int 0, .int 0]
theorem rc_2 : rv_CF RX2 TX2 8 (rv_nw 2) := ⟨List.all_eq_true.mp (show (u_ws RX2 TX2 8).all (fun w => decide (w ∈ rv_T2)) = true by decide +kernel) |> fun h w hw => of_decide_eq_true (h w hw), tyX2, tyX2_ok, nmX2, rf_2, by decide +kernel, fun (ρ : rv_ρ) L => ⟨rfl, rfl, rfl, rfl, rfl, rfl, rfl, rfl, True.intro⟩⟩
def rf_3 : List Value := [.null, .null, .null, .null, .int 0, .int 0, .int 0, .int 0, .int 0, .int 0, .null, .int 0, .int 0, .int 0, .null, .null, .int 0]
theorem rc_3 : rv_CF RX3 TX3 17 (rv_nw 3) := ⟨List.all_eq_true.mp (show (u_ws RX3 TX3 17).all (fun w => decide (w ∈ rv_T2)) = true by decide +kernel) |> fun h w hw => of_decide_eq_true (h w hw), tyX3, tyX3_ok, nmX3, rf_3, by decide +kernel, fun (ρ : rv_ρ) L => ⟨rfl, rfl, rfl, rfl, rfl, rfl, rfl, rfl, rfl, rfl, rfl, rfl, rfl, rfl, rfl, rfl, rfl, True.intro⟩⟩
def rf_4 : List Value := [.null, .null, .null, .null, .null, .int 0, .int 0, .int 0]
theorem rc_4 : rv_CF RX4 TX4 8 (rv_nw 4) := ⟨List.all_eq_true.mp (show (u_ws RX4 TX4 8).all (fun w => decide (w ∈ rv_T2)) = true by decide +kernel) |> fun h w hw => of_decide_eq_true (h w hw), tyX4, tyX4_ok, nmX4, rf_4, by decide +kernel, fun (ρ : rv_ρ) L => ⟨rfl, rfl, rfl, rfl, rfl, rfl, rfl, rfl, True.intro⟩⟩
def rf_5 : List Value := [.null, .null, .null, .null, .null, .int 0, .int 0, .int 0, .long 0, .null, .int 0, .int 0, .int 0]
theorem rc_5 : rv_CF RX5 TX5 13 (rv_nw 5) := ⟨List.all_eq_true.mp (show (u_ws RX5 TX5 13).all (fun w => decide (w ∈ rv_T2)) = true by decide +kernel) |> fun h w hw => of_decide_eq_true (h w hw), tyX5, tyX5_ok, nmX5, rf_5, by decide +kernel, fun (ρ : rv_ρ) L => ⟨rfl, rfl, rfl, rfl, rfl, rfl, rfl, rfl, rfl, rfl, rfl, rfl, rfl, True.intro⟩⟩
def rf_6 : List Value := [.null, .null, .null, .null, .null, .null, .null, .null, .int 0, .int 0, .int 0, .int 0, .int 0]
theorem rc_6 : rv_CF RX6 TX6 13 (rv_nw 6) := ⟨List.all_eq_true.mp (show (u_ws RX6 TX6 13).all (fun w => decide (w ∈ rv_T2)) = true by decide +kernel) |> fun h w hw => of_decide_eq_true (h w hw), tyX6, tyX6_ok, nmX6, rf_6, by decide +kernel, fun (ρ : rv_ρ) L => ⟨rfl, rfl, rfl, rfl, rfl, rfl, rfl, rfl, rfl, rfl, rfl, rfl, rfl, True.intro⟩⟩
def rf_7 : List Value := [.null, .int 0, .int 0]
theorem rc_7 : rv_CF RX7 TX7 3 (rv_nw 7) := ⟨List.all_eq_true.mp (show (u_ws RX7 TX7 3).all (fun w => decide (w ∈ rv_T2)) = true by decide +kernel) |> fun h w hw => of_decide_eq_true (h w hw), tyX7, tyX7_ok, nmX7, rf_7, by decide +kernel, fun (ρ : rv_ρ) L => ⟨rfl, rfl, rfl, True.intro⟩⟩
def rf_8 : List Value := [.null, .null, .null, .null, .int 0, .int 0]
theorem rc_8 : rv_CF RX8 TX8 6 (rv_nw 8) := ⟨List.all_eq_true.mp (show (u_ws RX8 TX8 6).all (fun w => decide (w ∈ rv_T2)) = true by decide +kernel) |> fun h w hw => of_decide_eq_true (h w hw), tyX8, tyX8_ok, nmX8, rf_8, by decide +kernel, fun (ρ : rv_ρ) L => ⟨rfl, rfl, rfl, rfl, rfl, rfl, True.intro⟩⟩
def rf_9 : List Value := [.null, .null, .int 0, .int 0, .int 0, .int 0, .null, .null, .null, .null, .null]
theorem rc_9 : rv_CF RX9 TX9 11 (rv_nw 9) := ⟨List.all_eq_true.mp (show (u_ws RX9 TX9 11).all (fun w => decide (w ∈ rv_T2)) = true by decide +kernel) |> fun h w hw => of_decide_eq_true (h w hw), tyX9, tyX9_ok, nmX9, rf_9, by decide +kernel, fun (ρ : rv_ρ) L => ⟨rfl, rfl, rfl, rfl, rfl, rfl, rfl, rfl, rfl, rfl, rfl, True.intro⟩⟩
def rf_10 : List Value := [.null, .null, .null, .null, .null, .null]
theorem rc_10 : rv_CF RX10 TX10 6 (rv_nw 10) := ⟨List.all_eq_true.mp (show (u_ws RX10 TX10 6).all (fun w => decide (w ∈ rv_T2)) = true by decide +kernel) |> fun h w hw => of_decide_eq_true (h w hw), tyX10, tyX10_ok, nmX10, rf_10, by decide +kernel, fun (ρ : rv_ρ) L => ⟨rfl, rfl, rfl, rfl, rfl, rfl, True.intro⟩⟩
def rf_11 : List Value := [.null, .null, .null, .null, .null, .null, .null, .null, .null, .int 0, .int 0, .int 0, .int 0]
theorem rc_11 : rv_CF RX11 TX11 13 (rv_nw 11) := ⟨List.all_eq_true.mp (show (u_ws RX11 TX11 13).all (fun w => decide (w ∈ rv_T2)) = true by decide +kernel) |> fun h w hw => of_decide_eq_true (h w hw), tyX11, tyX11_ok, nmX11, rf_11, by decide +kernel, fun (ρ : rv_ρ) L => ⟨rfl, rfl, rfl, rfl, rfl, rfl, rfl, rfl, rfl, rfl, rfl, rfl, rfl, True.intro⟩⟩
def rf_12 : List Value := [.int 0, .null, .null, .null, .int 0, .int 0, .int 0, .null, .null, .null, .null, .null, .null, .null, .int 0, .int 0, .int 0, .int 0, .int 0, .int 0, .int 0, .int 0, .int 0, .null, .null, .null, .null, .null, .null, .null, .null, .null, .null, .null, .null, .null, .null, .null, .null, .int 0, .int 0, .int 0, .null, .null, .null, .null, .int 0, .int 0, .int 0, .null, .null, .null, .null, .null, .null, .null, .int 0, .null, .int 0, .int 0, .int 0, .long 0, .int 0, .int 0, .int 0, .null, .null, .null, .int 0, .int 0, .int 0, .null]
theorem rc_12 : rv_CF RX12 TX12 72 (rv_nw 12) := ⟨List.all_eq_true.mp (show (u_ws RX12 TX12 72).all (fun w => decide (w ∈ rv_T2)) = true by decide +kernel) |> fun h w hw => of_decide_eq_true (h w hw), tyX12, tyX12_ok, nmX12, rf_12, by decide +kernel, fun (ρ : rv_ρ) L => ⟨rfl, rfl, rfl, rfl, rfl, rfl, rfl, rfl, rfl, rfl, rfl, rfl, rfl, rfl, rfl, rfl, rfl, rfl, rfl, rfl, rfl, rfl, rfl, rfl, rfl, rfl, rfl, rfl, rfl, rfl, rfl, rfl, rfl, rfl, rfl, rfl, rfl, rfl, rfl, rfl, rfl, rfl, rfl, rfl, rfl, rfl, rfl, rfl, rfl, rfl, rfl, rfl, rfl, rfl, rfl, rfl, rfl, rfl, rfl, rfl, rfl, rfl, rfl, rfl, rfl, rfl, rfl, rfl, rfl, rfl, rfl, rfl, True.intro⟩⟩
theorem rv_cf : ∀ (ci : Nat) (C : String) (T : u_T) (N : Nat), rv_cl[ci]? = some (C, T, N) → rv_CF C T N (rv_nw ci) := by
  intro ci C T N h
  match ci, h with
  | 0, h => cases h; exact rc_0
  | 1, h => cases h; exact rc_1
  | 2, h => cases h; exact rc_2
  | 3, h => cases h; exact rc_3
  | 4, h => cases h; exact rc_4
  | 5, h => cases h; exact rc_5
  | 6, h => cases h; exact rc_6
  | 7, h => cases h; exact rc_7
  | 8, h => cases h; exact rc_8
  | 9, h => cases h; exact rc_9
  | 10, h => cases h; exact rc_10
  | 11, h => cases h; exact rc_11
  | 12, h => cases h; exact rc_12
  | k + 13, h => exact absurd h (by simp [rv_cl])
theorem rv_ckall (mi : Nat) (h : mi < 294) : rv_chM rv_inf rv_cpl rv_nest rv_tab mi = true := by
  rcases (show (0 ≤ mi ∧ mi < 5) ∨ (5 ≤ mi ∧ mi < 10) ∨ (10 ≤ mi ∧ mi < 15) ∨ (15 ≤ mi ∧ mi < 20) ∨ (20 ≤ mi ∧ mi < 25) ∨ (25 ≤ mi ∧ mi < 30) ∨ (30 ≤ mi ∧ mi < 35) ∨ (35 ≤ mi ∧ mi < 40) ∨ (40 ≤ mi ∧ mi < 45) ∨ (45 ≤ mi ∧ mi < 50) ∨ (50 ≤ mi ∧ mi < 55) ∨ (55 ≤ mi ∧ mi < 60) ∨ (60 ≤ mi ∧ mi < 65) ∨ (65 ≤ mi ∧ mi < 70) ∨ (70 ≤ mi ∧ mi < 75) ∨ (75 ≤ mi ∧ mi < 80) ∨ (80 ≤ mi ∧ mi < 85) ∨ (85 ≤ mi ∧ mi < 90) ∨ (90 ≤ mi ∧ mi < 95) ∨ (95 ≤ mi ∧ mi < 100) ∨ (100 ≤ mi ∧ mi < 105) ∨ (105 ≤ mi ∧ mi < 110) ∨ (110 ≤ mi ∧ mi < 115) ∨ (115 ≤ mi ∧ mi < 120) ∨ (120 ≤ mi ∧ mi < 125) ∨ (125 ≤ mi ∧ mi < 130) ∨ (130 ≤ mi ∧ mi < 135) ∨ (135 ≤ mi ∧ mi < 140) ∨ (140 ≤ mi ∧ mi < 145) ∨ (145 ≤ mi ∧ mi < 150) ∨ (150 ≤ mi ∧ mi < 155) ∨ (155 ≤ mi ∧ mi < 160) ∨ (160 ≤ mi ∧ mi < 165) ∨ (165 ≤ mi ∧ mi < 170) ∨ (170 ≤ mi ∧ mi < 175) ∨ (175 ≤ mi ∧ mi < 180) ∨ (180 ≤ mi ∧ mi < 185) ∨ (185 ≤ mi ∧ mi < 190) ∨ (190 ≤ mi ∧ mi < 195) ∨ (195 ≤ mi ∧ mi < 200) ∨ (200 ≤ mi ∧ mi < 205) ∨ (205 ≤ mi ∧ mi < 210) ∨ (210 ≤ mi ∧ mi < 215) ∨ (215 ≤ mi ∧ mi < 220) ∨ (220 ≤ mi ∧ mi < 225) ∨ (225 ≤ mi ∧ mi < 230) ∨ (230 ≤ mi ∧ mi < 235) ∨ (235 ≤ mi ∧ mi < 240) ∨ (240 ≤ mi ∧ mi < 245) ∨ (245 ≤ mi ∧ mi < 250) ∨ (250 ≤ mi ∧ mi < 255) ∨ (255 ≤ mi ∧ mi < 260) ∨ (260 ≤ mi ∧ mi < 265) ∨ (265 ≤ mi ∧ mi < 270) ∨ (270 ≤ mi ∧ mi < 275) ∨ (275 ≤ mi ∧ mi < 280) ∨ (280 ≤ mi ∧ mi < 285) ∨ (285 ≤ mi ∧ mi < 290) ∨ (290 ≤ mi ∧ mi < 294) by omega) with q | q | q | q | q | q | q | q | q | q | q | q | q | q | q | q | q | q | q | q | q | q | q | q | q | q | q | q | q | q | q | q | q | q | q | q | q | q | q | q | q | q | q | q | q | q | q | q | q | q | q | q | q | q | q | q | q | q | q
  · have h1 := List.all_eq_true.mp rv_ck_0 (mi - 0) (List.mem_range.mpr (by omega))
    rw [show 0 + (mi - 0) = mi by omega] at h1
    exact h1
  · have h1 := List.all_eq_true.mp rv_ck_1 (mi - 5) (List.mem_range.mpr (by omega))
    rw [show 5 + (mi - 5) = mi by omega] at h1
    exact h1
  · have h1 := List.all_eq_true.mp rv_ck_2 (mi - 10) (List.mem_range.mpr (by omega))
    rw [show 10 + (mi - 10) = mi by omega] at h1
    exact h1
  · have h1 := List.all_eq_true.mp rv_ck_3 (mi - 15) (List.mem_range.mpr (by omega))
    rw [show 15 + (mi - 15) = mi by omega] at h1
    exact h1
  · have h1 := List.all_eq_true.mp rv_ck_4 (mi - 20) (List.mem_range.mpr (by omega))
    rw [show 20 + (mi - 20) = mi by omega] at h1
    exact h1
  · have h1 := List.all_eq_true.mp rv_ck_5 (mi - 25) (List.mem_range.mpr (by omega))
    rw [show 25 + (mi - 25) = mi by omega] at h1
    exact h1
  · have h1 := List.all_eq_true.mp rv_ck_6 (mi - 30) (List.mem_range.mpr (by omega))
    rw [show 30 + (mi - 30) = mi by omega] at h1
    exact h1
  · have h1 := List.all_eq_true.mp rv_ck_7 (mi - 35) (List.mem_range.mpr (by omega))
    rw [show 35 + (mi - 35) = mi by omega] at h1
    exact h1
  · have h1 := List.all_eq_true.mp rv_ck_8 (mi - 40) (List.mem_range.mpr (by omega))
    rw [show 40 + (mi - 40) = mi by omega] at h1
    exact h1
  · have h1 := List.all_eq_true.mp rv_ck_9 (mi - 45) (List.mem_range.mpr (by omega))
    rw [show 45 + (mi - 45) = mi by omega] at h1
    exact h1
  · have h1 := List.all_eq_true.mp rv_ck_10 (mi - 50) (List.mem_range.mpr (by omega))
    rw [show 50 + (mi - 50) = mi by omega] at h1
    exact h1
  · have h1 := List.all_eq_true.mp rv_ck_11 (mi - 55) (List.mem_range.mpr (by omega))
    rw [show 55 + (mi - 55) = mi by omega] at h1
    exact h1
  · have h1 := List.all_eq_true.mp rv_ck_12 (mi - 60) (List.mem_range.mpr (by omega))
    rw [show 60 + (mi - 60) = mi by omega] at h1
    exact h1
  · have h1 := List.all_eq_true.mp rv_ck_13 (mi - 65) (List.mem_range.mpr (by omega))
    rw [show 65 + (mi - 65) = mi by omega] at h1
    exact h1
  · have h1 := List.all_eq_true.mp rv_ck_14 (mi - 70) (List.mem_range.mpr (by omega))
    rw [show 70 + (mi - 70) = mi by omega] at h1
    exact h1
  · have h1 := List.all_eq_true.mp rv_ck_15 (mi - 75) (List.mem_range.mpr (by omega))
    rw [show 75 + (mi - 75) = mi by omega] at h1
    exact h1
  · have h1 := List.all_eq_true.mp rv_ck_16 (mi - 80) (List.mem_range.mpr (by omega))
    rw [show 80 + (mi - 80) = mi by omega] at h1
    exact h1
  · have h1 := List.all_eq_true.mp rv_ck_17 (mi - 85) (List.mem_range.mpr (by omega))
    rw [show 85 + (mi - 85) = mi by omega] at h1
    exact h1
  · have h1 := List.all_eq_true.mp rv_ck_18 (mi - 90) (List.mem_range.mpr (by omega))
    rw [show 90 + (mi - 90) = mi by omega] at h1
    exact h1
  · have h1 := List.all_eq_true.mp rv_ck_19 (mi - 95) (List.mem_range.mpr (by omega))
    rw [show 95 + (mi - 95) = mi by omega] at h1
    exact h1
  · have h1 := List.all_eq_true.mp rv_ck_20 (mi - 100) (List.mem_range.mpr (by omega))
    rw [show 100 + (mi - 100) = mi by omega] at h1
    exact h1
  · have h1 := List.all_eq_true.mp rv_ck_21 (mi - 105) (List.mem_range.mpr (by omega))
    rw [show 105 + (mi - 105) = mi by omega] at h1
    exact h1
  · have h1 := List.all_eq_true.mp rv_ck_22 (mi - 110) (List.mem_range.mpr (by omega))
    rw [show 110 + (mi - 110) = mi by omega] at h1
    exact h1
  · have h1 := List.all_eq_true.mp rv_ck_23 (mi - 115) (List.mem_range.mpr (by omega))
    rw [show 115 + (mi - 115) = mi by omega] at h1
    exact h1
  · have h1 := List.all_eq_true.mp rv_ck_24 (mi - 120) (List.mem_range.mpr (by omega))
    rw [show 120 + (mi - 120) = mi by omega] at h1
    exact h1
  · have h1 := List.all_eq_true.mp rv_ck_25 (mi - 125) (List.mem_range.mpr (by omega))
    rw [show 125 + (mi - 125) = mi by omega] at h1
    exact h1
  · have h1 := List.all_eq_true.mp rv_ck_26 (mi - 130) (List.mem_range.mpr (by omega))
    rw [show 130 + (mi - 130) = mi by omega] at h1
    exact h1
  · have h1 := List.all_eq_true.mp rv_ck_27 (mi - 135) (List.mem_range.mpr (by omega))
    rw [show 135 + (mi - 135) = mi by omega] at h1
    exact h1
  · have h1 := List.all_eq_true.mp rv_ck_28 (mi - 140) (List.mem_range.mpr (by omega))
    rw [show 140 + (mi - 140) = mi by omega] at h1
    exact h1
  · have h1 := List.all_eq_true.mp rv_ck_29 (mi - 145) (List.mem_range.mpr (by omega))
    rw [show 145 + (mi - 145) = mi by omega] at h1
    exact h1
  · have h1 := List.all_eq_true.mp rv_ck_30 (mi - 150) (List.mem_range.mpr (by omega))
    rw [show 150 + (mi - 150) = mi by omega] at h1
    exact h1
  · have h1 := List.all_eq_true.mp rv_ck_31 (mi - 155) (List.mem_range.mpr (by omega))
    rw [show 155 + (mi - 155) = mi by omega] at h1
    exact h1
  · have h1 := List.all_eq_true.mp rv_ck_32 (mi - 160) (List.mem_range.mpr (by omega))
    rw [show 160 + (mi - 160) = mi by omega] at h1
    exact h1
  · have h1 := List.all_eq_true.mp rv_ck_33 (mi - 165) (List.mem_range.mpr (by omega))
    rw [show 165 + (mi - 165) = mi by omega] at h1
    exact h1
  · have h1 := List.all_eq_true.mp rv_ck_34 (mi - 170) (List.mem_range.mpr (by omega))
    rw [show 170 + (mi - 170) = mi by omega] at h1
    exact h1
  · have h1 := List.all_eq_true.mp rv_ck_35 (mi - 175) (List.mem_range.mpr (by omega))
    rw [show 175 + (mi - 175) = mi by omega] at h1
    exact h1
  · have h1 := List.all_eq_true.mp rv_ck_36 (mi - 180) (List.mem_range.mpr (by omega))
    rw [show 180 + (mi - 180) = mi by omega] at h1
    exact h1
  · have h1 := List.all_eq_true.mp rv_ck_37 (mi - 185) (List.mem_range.mpr (by omega))
    rw [show 185 + (mi - 185) = mi by omega] at h1
    exact h1
  · have h1 := List.all_eq_true.mp rv_ck_38 (mi - 190) (List.mem_range.mpr (by omega))
    rw [show 190 + (mi - 190) = mi by omega] at h1
    exact h1
  · have h1 := List.all_eq_true.mp rv_ck_39 (mi - 195) (List.mem_range.mpr (by omega))
    rw [show 195 + (mi - 195) = mi by omega] at h1
    exact h1
  · have h1 := List.all_eq_true.mp rv_ck_40 (mi - 200) (List.mem_range.mpr (by omega))
    rw [show 200 + (mi - 200) = mi by omega] at h1
    exact h1
  · have h1 := List.all_eq_true.mp rv_ck_41 (mi - 205) (List.mem_range.mpr (by omega))
    rw [show 205 + (mi - 205) = mi by omega] at h1
    exact h1
  · have h1 := List.all_eq_true.mp rv_ck_42 (mi - 210) (List.mem_range.mpr (by omega))
    rw [show 210 + (mi - 210) = mi by omega] at h1
    exact h1
  · have h1 := List.all_eq_true.mp rv_ck_43 (mi - 215) (List.mem_range.mpr (by omega))
    rw [show 215 + (mi - 215) = mi by omega] at h1
    exact h1
  · have h1 := List.all_eq_true.mp rv_ck_44 (mi - 220) (List.mem_range.mpr (by omega))
    rw [show 220 + (mi - 220) = mi by omega] at h1
    exact h1
  · have h1 := List.all_eq_true.mp rv_ck_45 (mi - 225) (List.mem_range.mpr (by omega))
    rw [show 225 + (mi - 225) = mi by omega] at h1
    exact h1
  · have h1 := List.all_eq_true.mp rv_ck_46 (mi - 230) (List.mem_range.mpr (by omega))
    rw [show 230 + (mi - 230) = mi by omega] at h1
    exact h1
  · have h1 := List.all_eq_true.mp rv_ck_47 (mi - 235) (List.mem_range.mpr (by omega))
    rw [show 235 + (mi - 235) = mi by omega] at h1
    exact h1
  · have h1 := List.all_eq_true.mp rv_ck_48 (mi - 240) (List.mem_range.mpr (by omega))
    rw [show 240 + (mi - 240) = mi by omega] at h1
    exact h1
  · have h1 := List.all_eq_true.mp rv_ck_49 (mi - 245) (List.mem_range.mpr (by omega))
    rw [show 245 + (mi - 245) = mi by omega] at h1
    exact h1
  · have h1 := List.all_eq_true.mp rv_ck_50 (mi - 250) (List.mem_range.mpr (by omega))
    rw [show 250 + (mi - 250) = mi by omega] at h1
    exact h1
  · have h1 := List.all_eq_true.mp rv_ck_51 (mi - 255) (List.mem_range.mpr (by omega))
    rw [show 255 + (mi - 255) = mi by omega] at h1
    exact h1
  · have h1 := List.all_eq_true.mp rv_ck_52 (mi - 260) (List.mem_range.mpr (by omega))
    rw [show 260 + (mi - 260) = mi by omega] at h1
    exact h1
  · have h1 := List.all_eq_true.mp rv_ck_53 (mi - 265) (List.mem_range.mpr (by omega))
    rw [show 265 + (mi - 265) = mi by omega] at h1
    exact h1
  · have h1 := List.all_eq_true.mp rv_ck_54 (mi - 270) (List.mem_range.mpr (by omega))
    rw [show 270 + (mi - 270) = mi by omega] at h1
    exact h1
  · have h1 := List.all_eq_true.mp rv_ck_55 (mi - 275) (List.mem_range.mpr (by omega))
    rw [show 275 + (mi - 275) = mi by omega] at h1
    exact h1
  · have h1 := List.all_eq_true.mp rv_ck_56 (mi - 280) (List.mem_range.mpr (by omega))
    rw [show 280 + (mi - 280) = mi by omega] at h1
    exact h1
  · have h1 := List.all_eq_true.mp rv_ck_57 (mi - 285) (List.mem_range.mpr (by omega))
    rw [show 285 + (mi - 285) = mi by omega] at h1
    exact h1
  · have h1 := List.all_eq_true.mp rv_ck_58 (mi - 290) (List.mem_range.mpr (by omega))
    rw [show 290 + (mi - 290) = mi by omega] at h1
    exact h1
theorem rv_infl : rv_inf.length = 294 := by decide +kernel
theorem rv_tabl : rv_tab.length = 294 := by decide +kernel
theorem rv_fct {mi : Nat} {y : MethodName} {bytes : ByteArray} {nL : Nat} {ret : Option FieldType} {body : List rv_I} {nL' rt : Nat} (h1 : rv_inf[mi]? = some (y, bytes, nL, ret)) (h2 : rv_tab[mi]? = some (body, nL', rt)) : nL = nL' ∧ rv_rtk ret rt = true ∧ plainFor y = true ∧ Cond.code y bytes nL ret ∈ rv_T2 ∧ rv_seq body = true ∧ (∀ e0 t0, body = e0 :: t0 → e0.1 = 0) ∧ nL ≤ 40 ∧ (∀ e ∈ body, rv_chk rv_inf rv_nest y.cls (decide (y.name = "<init>")) body e = true) ∧ ∀ e ∈ body, decode bytes e.1 = .ok (e.2.1, e.2.2.1) := by
  have hmi : mi < 294 := by rw [← rv_infl]; exact (List.getElem?_eq_some_iff.mp h1).1
  have hc := rv_ckall mi hmi
  unfold rv_chM at hc
  rw [rv_nth_eq, rv_nth_eq, rv_nth_eq, h1, h2] at hc
  dsimp only at hc
  split at hc
  · rename_i pp hp
    simp only [Bool.and_eq_true] at hc
    obtain ⟨⟨⟨⟨⟨⟨⟨c1, c2⟩, c3⟩, c4⟩, c5⟩, c6⟩, c7⟩, c8⟩ := hc
    refine ⟨Nat.eq_of_beq_eq_true c1, c2, c3, rv_w_s c4, c5, ?_, Nat.le_of_ble_eq_true c7, List.all_eq_true.mp c8, ?_⟩
    · intro e0 t0 hb
      subst hb
      exact Nat.eq_of_beq_eq_true c6
    · refine rd_all (bytes, body) ?_
      rw [rd_zip]
      refine List.mem_of_getElem? (i := mi) ?_
      rw [List.getElem?_zipWith, h1, h2]
  · cases hc
theorem rv_hcode : ∀ (mi : Nat) (y : MethodName) (bytes : ByteArray) (nL : Nat) (ret : Option FieldType), rv_inf[mi]? = some (y, bytes, nL, ret) → Cond.code y bytes nL ret ∈ rv_T2 ∧ nL ≤ 40 := by
  intro mi y bytes nL ret h
  have hmi : mi < rv_tab.length := by rw [rv_tabl, ← rv_infl]; exact (List.getElem?_eq_some_iff.mp h).1
  obtain ⟨⟨body, nL', rt⟩, h2⟩ : ∃ q : rv_M, rv_tab[mi]? = some q := ⟨_, List.getElem?_eq_getElem hmi⟩
  have hf := rv_fct h h2
  exact ⟨hf.2.2.2.1, hf.2.2.2.2.2.2.1⟩
theorem rv_ini0 : rv_inf.all (fun i => !(decide (i.1.name = "<init>")) || i.2.2.2.isNone) = true := by decide +kernel
theorem rv_hini : ∀ (mi : Nat) (y : MethodName) (bytes : ByteArray) (nL : Nat) (ret : Option FieldType), rv_inf[mi]? = some (y, bytes, nL, ret) → y.name = "<init>" → ret = none := by
  intro mi y bytes nL ret h hy
  have h1 := List.all_eq_true.mp rv_ini0 _ (List.mem_of_getElem? h)
  simp [hy] at h1
  exact h1
/-- a contract out of a walk, for the JDK's methods too -/
theorem rv_ofW {l : Launch} {y : MethodName} {ws ws' : List Cond} {rm : Room} {Pc : Array Value → State → Prop} {Qc : Array Value → State → Outcome → State → Prop} {mc ms : Nat} {free : Addr → Prop} {cc : ByteArray} {maxL : Nat} {ret : Option FieldType} (hy : plainFor y = true) (hw : ws = Cond.code y cc maxL ret :: ws')
    (body : ∀ p e s m args below meth c s₁, BodyLoose p l y (headSpec ws rm) cc maxL ret e s m args below meth c s₁ → c.maxLocals = maxL → Pc args s → W p l e (headSpec ws rm).room s m args below meth c s.heap [] 0 0 (MQ below Qc args s mc ms free) (entryFrame m args maxL)) : Met l y ws rm Pc Qc mc ms free := by
  unfold Met
  refine MetFree.of_bodySF (code := cc) (maxLocals := maxL) (ret := ret) hy (fun args s m h hn => ?_) (fun p e s m args below meth c s₁ B hml hP _ => ?_)
  · obtain ⟨meth, c, h1, h2, h3, h4, h5, h6, -, -⟩ := Cond.code_spec hn (atoms_spec (ws := ws) h _ (by rw [hw]; exact List.mem_cons_self))
    exact ⟨meth, c, h1, h2, h3, h4, h5, h6⟩
  · obtain ⟨t, a1, o, b1, b2, b3⟩ := body p e s m args below meth c s₁ B hml hP s₁ (by rw [B.state]; rfl) (Stand.of_body B)
    exact ⟨t, o, a1, b1, b2, b3⟩
theorem rv_slen {ρ : rv_ρ} {L : List Nat} : ∀ {as : List rv_A} {vs : List Value}, rv_Vs ρ L as vs → (lg_sl vs).length = rv_wd as := by
  intro as
  induction as with
  | nil => intro vs h; rw [rv_Vs_n h]; rfl
  | cons a t ih =>
    intro vs h
    obtain ⟨v, t', rfl, h1, h2⟩ := rv_Vs_c h
    have e : lg_sl (v :: t') = (if v.category = 2 then [.val v, .second] else [.val v]) ++ lg_sl t' := by simp [lg_sl]
    rw [e, List.length_append, ih h2]
    show _ = rv_cat a + rv_wd t
    rw [rv_V_cat h1]
    unfold rv_cat
    cases rv_isL a <;> rfl
theorem rv_ev_s (nw : Nat → List rv_A) (ct : Nat → Nat) (tab : List rv_M) (orc : Nat → List rv_A → Option rv_A) (d mi : Nat) (as : List rv_A) (h : List rv_C) : rv_ev nw ct tab orc (d + 1) mi as h = (match orc mi as with
  | some v => some (0, 0, [(some v, h)])
  | none => match rv_nth tab mi with
    | some (body, nL, rt) => if rv_wd as ≤ nL then rv_run (fun _ => rv_ev nw ct tab orc d) nw ct body nL rt 1000000 body (rv_loc as 0) [] h 0 0 else none
    | none => none) := rfl
set_option maxHeartbeats 1000000 in
/-- EVERY METHOD does what the evaluator works out -/
theorem rv_ev_ok {l : Launch} {ρ : rv_ρ} {orc : Nat → List rv_A → Option rv_A} (horc : ∀ mi as v, orc mi as = some v → ∀ d h, rv_Mt l ρ d mi as h (0, 0, [(some v, h)]) ∧ ∃ i, rv_inf[mi]? = some i) : ∀ (d mi : Nat) (as : List rv_A) (h : List rv_C) (res : rv_R), rv_ev rv_nw rv_ct rv_tab orc d mi as h = some res → rv_Mt l ρ d mi as h res ∧ ∃ i, rv_inf[mi]? = some i := by
  intro d
  induction d with
  | zero => intro mi as h res hh; cases hh
  | succ d IH =>
    intro mi as h res hh
    rw [rv_ev_s] at hh
    split at hh
    · rename_i v hv
      cases hh
      exact horc mi as v hv (d + 1) h
    · rw [rv_nth_eq] at hh
      split at hh
      · rename_i body nL rt htab
        split at hh
        · rename_i hwd
          have hmi : mi < rv_inf.length := by rw [rv_infl, ← rv_tabl]; exact (List.getElem?_eq_some_iff.mp htab).1
          refine ⟨?_, _, List.getElem?_eq_getElem hmi⟩
          intro y bytes nL2 ret hinf D cA sz ws vs hvs hws
          obtain ⟨e1, f2, f3, f4, f5, f6, f7, f8, f9⟩ := rv_fct hinf htab
          subst e1
          refine rv_ofW (cc := bytes) (maxL := nL2) (ret := ret) f3 rfl ?_
          intro p e s m args below meth c s₁ B hml hv
          obtain ⟨rfl, hsz, hP, hKK, hD0⟩ := hv
          subst hsz
          have hts := atoms_spec (ws := rv_ws y bytes nL2 ret) B.pre
          have hD := hD0.self (sz := s.heap.size)
          cases hbd : body with
          | nil => rw [hbd] at hh; exact (rv_run_nil hh).elim
          | cons e0 t0 =>
            have h0 := f6 e0 t0 hbd
            have hG := rv_run_ok (p := p) (l := l) (e := e) (R := (headSpec (rv_ws y bytes nL2 ret) (rv_rm (d + 1) res.1 res.2.1)).room) (s := s) (m := m) (args := vs.toArray) (below := below) (meth := meth) (c := c) (ρ := ρ) (D := D) (cA := cA) (A := va_A ws s.heap.size) (L0 := ws.map Prod.fst) (fun _ => IH) rv_hcode rv_cf rv_hini (y := y) (bytes := bytes) (nL := nL2) (rt := rt) (ret := ret) (body := body) ⟨B.exec, B.bytes, hml, findClass_of_methodNamed B.named, fun w hw => hts w (List.mem_cons_of_mem _ hw), B.returns, B.notSynchronized, fun hy => by rw [(name_of_methodNamed B.named B.method).1]; exact hy, hKK, fun q hq => Or.inr hq⟩ f2 f9 f8 f5 ⟨rfl, rfl⟩ 1000000 body (rv_loc as 0) [] h 0 0 res hh ⟨[], rfl⟩ e0 t0 hbd
            have hl := lv_entry vs (n := nL2) (by rw [rv_slen hvs]; exact hwd)
            rw [lg_entry_eq]
            rw [h0] at hG
            exact hG.2 res rv_sub.rf rfl rfl _ _ [] ws s.heap [] hl (rv_loc_ok 0 hvs) True.intro ⟨hws, hP, hD, va_S.rf, [], (List.append_nil _).symm⟩
        · cases hh
      · cases hh
