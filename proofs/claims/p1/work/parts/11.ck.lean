set_option maxRecDepth 1000000 in
theorem rv_ck_0 : (List.range 5).all (fun j => rv_chM rv_inf rv_cpl rv_nest rv_tab (0 + j)) = true := by decide +kernel
set_option maxRecDepth 1000000 in
theorem rv_ck_1 : (List.range 5).all (fun j => rv_chM rv_inf rv_cpl rv_nest rv_tab (5 + j)) = true := by decide +kernel
set_option maxRecDepth 1000000 in
theorem rv_ck_2 : (List.range 5).all (fun j => rv_chM rv_inf rv_cpl rv_nest rv_tab (10 + j)) = true := by decide +kernel
set_option maxRecDepth 1000000 in
theorem rv_ck_3 : (List.range 5).all (fun j => rv_chM rv_inf rv_cpl rv_nest rv_tab (15 + j)) = true := by decide +kernel
set_option maxRecDepth 1000000 in
theorem rv_ck_4 : (List.range 5).all (fun j => rv_chM rv_inf rv_cpl rv_nest rv_tab (20 + j)) = true := by decide +kernel
set_option maxRecDepth 1000000 in
theorem rv_ck_5 : (List.range 5).all (fun j => rv_chM rv_inf rv_cpl rv_nest rv_tab (25 + j)) = true := by decide +kernel
set_option maxRecDepth 1000000 in
theorem rv_ck_6 : (List.range 5).all (fun j => rv_chM rv_inf rv_cpl rv_nest rv_tab (30 + j)) = true := by decide +kernel
set_option maxRecDepth 1000000 in
theorem rv_ck_7 : (List.range 5).all (fun j => rv_chM rv_inf rv_cpl rv_nest rv_tab (35 + j)) = true := by decide +kernel
set_option maxRecDepth 1000000 in
theorem rv_ck_8 : (List.range 5).all (fun j => rv_chM rv_inf rv_cpl rv_nest rv_tab (40 + j)) = true := by decide +kernel
set_option maxRecDepth 1000000 in
theorem rv_ck_9 : (List.range 5).all (fun j => rv_chM rv_inf rv_cpl rv_nest rv_tab (45 + j)) = true := by decide +kernel
set_option maxRecDepth 1000000 in
theorem rv_ck_10 : (List.range 5).all (fun j => rv_chM rv_inf rv_cpl rv_nest rv_tab (50 + j)) = true := by decide +kernel
set_option maxRecDepth 1000000 in
theorem rv_ck_11 : (List.range 5).all (fun j => rv_chM rv_inf rv_cpl rv_nest rv_tab (55 + j)) = true := by decide +kernel
set_option maxRecDepth 1000000 in
theorem rv_ck_12 : (List.range 5).all (fun j => rv_chM rv_inf rv_cpl rv_nest rv_tab (60 + j)) = true := by decide +kernel
set_option maxRecDepth 1000000 in
theorem rv_ck_13 : (List.range 5).all (fun j => rv_chM rv_inf rv_cpl rv_nest rv_tab (65 + j)) = true := by decide +kernel
set_option maxRecDepth 1000000 in
theorem rv_ck_14 : (List.range 5).all (fun j => rv_chM rv_inf rv_cpl rv_nest rv_tab (70 + j)) = true := by decide +kernel
set_option maxRecDepth 1000000 in
theorem rv_ck_15 : (List.range 5).all (fun j => rv_chM rv_inf rv_cpl rv_nest rv_tab (75 + j)) = true := by decide +kernel
set_option maxRecDepth 1000000 in
theorem rv_ck_16 : (List.range 5).all (fun j => rv_chM rv_inf rv_cpl rv_nest rv_tab (80 + j)) = true := by decide +kernel
set_option maxRecDepth 1000000 in
theorem rv_ck_17 : (List.range 5).all (fun j => rv_chM rv_inf rv_cpl rv_nest rv_tab (85 + j)) = true := by decide +kernel
set_option maxRecDepth 1000000 in
theorem rv_ck_18 : (List.range 5).all (fun j => rv_chM rv_inf rv_cpl rv_nest rv_tab (90 + j)) = true := by decide +kernel
set_option maxRecDepth 1000000 in
theorem rv_ck_19 : (List.range 5).all (fun j => rv_chM rv_inf rv_cpl rv_nest rv_tab (95 + j)) = true := by decide +kernel
set_option maxRecDepth 1000000 in
theorem rv_ck_20 : (List.range 5).all (fun j => rv_chM rv_inf rv_cpl rv_nest rv_tab (100 + j)) = true := by decide +kernel
set_option maxRecDepth 1000000 in
theorem rv_ck_21 : (List.range 5).all (fun j => rv_chM rv_inf rv_cpl rv_nest rv_tab (105 + j)) = true := by decide +kernel
set_option maxRecDepth 1000000 in
theorem rv_ck_22 : (List.range 5).all (fun j => rv_chM rv_inf rv_cpl rv_nest rv_tab (110 + j)) = true := by decide +kernel
set_option maxRecDepth 1000000 in
theorem rv_ck_23 : (List.range 5).all (fun j => rv_chM rv_inf rv_cpl rv_nest rv_tab (115 + j)) = true := by decide +kernel
set_option maxRecDepth 1000000 in
theorem rv_ck_24 : (List.range 5).all (fun j => rv_chM rv_inf rv_cpl rv_nest rv_tab (120 + j)) = true := by decide +kernel
set_option maxRecDepth 1000000 in
theorem rv_ck_25 : (List.range 5).all (fun j => rv_chM rv_inf rv_cpl rv_nest rv_tab (125 + j)) = true := by decide +kernel
set_option maxRecDepth 1000000 in
theorem rv_ck_26 : (List.range 5).all (fun j => rv_chM rv_inf rv_cpl rv_nest rv_tab (130 + j)) = true := by decide +kernel
set_option maxRecDepth 1000000 in
theorem rv_ck_27 : (List.range 5).all (fun j => rv_chM rv_inf rv_cpl rv_nest rv_tab (135 + j)) = true := by decide +kernel
set_option maxRecDepth 1000000 in
theorem rv_ck_28 : (List.range 5).all (fun j => rv_chM rv_inf rv_cpl rv_nest rv_tab (140 + j)) = true := by decide +kernel
set_option maxRecDepth 1000000 in
theorem rv_ck_29 : (List.range 5).all (fun j => rv_chM rv_inf rv_cpl rv_nest rv_tab (145 + j)) = true := by decide +kernel
set_option maxRecDepth 1000000 in
theorem rv_ck_30 : (List.range 5).all (fun j => rv_chM rv_inf rv_cpl rv_nest rv_tab (150 + j)) = true := by decide +kernel
set_option maxRecDepth 1000000 in
theorem rv_ck_31 : (List.range 5).all (fun j => rv_chM rv_inf rv_cpl rv_nest rv_tab (155 + j)) = true := by decide +kernel
set_option maxRecDepth 1000000 in
theorem rv_ck_32 : (List.range 5).all (fun j => rv_chM rv_inf rv_cpl rv_nest rv_tab (160 + j)) = true := by decide +kernel
set_option maxRecDepth 1000000 in
theorem rv_ck_33 : (List.range 5).all (fun j => rv_chM rv_inf rv_cpl rv_nest rv_tab (165 + j)) = true := by decide +kernel
set_option maxRecDepth 1000000 in
theorem rv_ck_34 : (List.range 5).all (fun j => rv_chM rv_inf rv_cpl rv_nest rv_tab (170 + j)) = true := by decide +kernel
set_option maxRecDepth 1000000 in
theorem rv_ck_35 : (List.range 5).all (fun j => rv_chM rv_inf rv_cpl rv_nest rv_tab (175 + j)) = true := by decide +kernel
set_option maxRecDepth 1000000 in
theorem rv_ck_36 : (List.range 1).all (fun j => rv_chM rv_inf rv_cpl rv_nest rv_tab (180 + j)) = true := by decide +kernel
