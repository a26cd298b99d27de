set_option maxRecDepth 1000000 in
theorem rv_ck_0 : (List.range 5).all (fun j => rv_chM rv_inf rv_cpl rv_nest rv_tab (0 + j)) = true := by decide +kernel
set_option maxRecDepth 1000000 in
theorem rv_ck_1 : (List.range 5).all (fun j => rv_chM rv_inf rv_cpl rv_nest rv_tab (5 + j)) = true := by decide +kernel
set_option maxRecDepth 1000000 in
theorem rv_ck_2 : (List.range 5).all (fun j => rv_chM rv_inf rv_cpl rv_nest rv_tab (10 + j)) = true := by decide +kernel
set_option maxRecDepth 1000000 in
theorem rv_ck_3 : (List.range 5).all (fun j => rv_chM rv_inf rv_cpl rv_nest rv_tab (15 + j)) = true := by decide +kernel
set_option maxRecDepth 1000000 in
theorem rv_ck_4 : (List.range 5).all (fun j => rv_chM rv_inf rv_cpl rv_nest rv_tab (20 + j)) = true := by decide +kernel
set_option maxRecDepth 1000000 in
theorem rv_ck_5 : (List.range 5).all (fun j => rv_chM rv_inf rv_cpl rv_nest rv_tab (25 + j)) = true := by decide +kernel
set_option maxRecDepth 1000000 in
theorem rv_ck_6 : (List.range 5).all (fun j => rv_chM rv_inf rv_cpl rv_nest rv_tab (30 + j)) = true := by decide +kernel
set_option maxRecDepth 1000000 in
theorem rv_ck_7 : (List.range 5).all (fun j => rv_chM rv_inf rv_cpl rv_nest rv_tab (35 + j)) = true := by decide +kernel
set_option maxRecDepth 1000000 in
theorem rv_ck_8 : (List.range 5).all (fun j => rv_chM rv_inf rv_cpl rv_nest rv_tab (40 + j)) = true := by decide +kernel
set_option maxRecDepth 1000000 in
theorem rv_ck_9 : (List.range 5).all (fun j => rv_chM rv_inf rv_cpl rv_nest rv_tab (45 + j)) = true := by decide +kernel
set_option maxRecDepth 1000000 in
theorem rv_ck_10 : (List.range 5).all (fun j => rv_chM rv_inf rv_cpl rv_nest rv_tab (50 + j)) = true := by decide +kernel
set_option maxRecDepth 1000000 in
theorem rv_ck_11 : (List.range 5).all (fun j => rv_chM rv_inf rv_cpl rv_nest rv_tab (55 + j)) = true := by decide +kernel
set_option maxRecDepth 1000000 in
theorem rv_ck_12 : (List.range 5).all (fun j => rv_chM rv_inf rv_cpl rv_nest rv_tab (60 + j)) = true := by decide +kernel
set_option maxRecDepth 1000000 in
theorem rv_ck_13 : (List.range 5).all (fun j => rv_chM rv_inf rv_cpl rv_nest rv_tab (65 + j)) = true := by decide +kernel
set_option maxRecDepth 1000000 in
theorem rv_ck_14 : (List.range 5).all (fun j => rv_chM rv_inf rv_cpl rv_nest rv_tab (70 + j)) = true := by decide +kernel
set_option maxRecDepth 1000000 in
theorem rv_ck_15 : (List.range 5).all (fun j => rv_chM rv_inf rv_cpl rv_nest rv_tab (75 + j)) = true := by decide +kernel
set_option maxRecDepth 1000000 in
theorem rv_ck_16 : (List.range 5).all (fun j => rv_chM rv_inf rv_cpl rv_nest rv_tab (80 + j)) = true := by decide +kernel
set_option maxRecDepth 1000000 in
theorem rv_ck_17 : (List.range 5).all (fun j => rv_chM rv_inf rv_cpl rv_nest rv_tab (85 + j)) = true := by decide +kernel
set_option maxRecDepth 1000000 in
theorem rv_ck_18 : (List.range 5).all (fun j => rv_chM rv_inf rv_cpl rv_nest rv_tab (90 + j)) = true := by decide +kernel
set_option maxRecDepth 1000000 in
theorem rv_ck_19 : (List.range 5).all (fun j => rv_chM rv_inf rv_cpl rv_nest rv_tab (95 + j)) = true := by decide +kernel
