set_option maxRecDepth 1000000 in
theorem rv_ck_20 : (List.range 5).all (fun j => rv_chM rv_inf rv_cpl rv_nest rv_tab (100 + j)) = true := by decide +kernel
set_option maxRecDepth 1000000 in
theorem rv_ck_21 : (List.range 5).all (fun j => rv_chM rv_inf rv_cpl rv_nest rv_tab (105 + j)) = true := by decide +kernel
set_option maxRecDepth 1000000 in
theorem rv_ck_22 : (List.range 5).all (fun j => rv_chM rv_inf rv_cpl rv_nest rv_tab (110 + j)) = true := by decide +kernel
set_option maxRecDepth 1000000 in
theorem rv_ck_23 : (List.range 5).all (fun j => rv_chM rv_inf rv_cpl rv_nest rv_tab (115 + j)) = true := by decide +kernel
set_option maxRecDepth 1000000 in
theorem rv_ck_24 : (List.range 5).all (fun j => rv_chM rv_inf rv_cpl rv_nest rv_tab (120 + j)) = true := by decide +kernel
set_option maxRecDepth 1000000 in
theorem rv_ck_25 : (List.range 5).all (fun j => rv_chM rv_inf rv_cpl rv_nest rv_tab (125 + j)) = true := by decide +kernel
set_option maxRecDepth 1000000 in
theorem rv_ck_26 : (List.range 5).all (fun j => rv_chM rv_inf rv_cpl rv_nest rv_tab (130 + j)) = true := by decide +kernel
set_option maxRecDepth 1000000 in
theorem rv_ck_27 : (List.range 5).all (fun j => rv_chM rv_inf rv_cpl rv_nest rv_tab (135 + j)) = true := by decide +kernel
set_option maxRecDepth 1000000 in
theorem rv_ck_28 : (List.range 5).all (fun j => rv_chM rv_inf rv_cpl rv_nest rv_tab (140 + j)) = true := by decide +kernel
set_option maxRecDepth 1000000 in
theorem rv_ck_29 : (List.range 5).all (fun j => rv_chM rv_inf rv_cpl rv_nest rv_tab (145 + j)) = true := by decide +kernel
set_option maxRecDepth 1000000 in
theorem rv_ck_30 : (List.range 5).all (fun j => rv_chM rv_inf rv_cpl rv_nest rv_tab (150 + j)) = true := by decide +kernel
set_option maxRecDepth 1000000 in
theorem rv_ck_31 : (List.range 5).all (fun j => rv_chM rv_inf rv_cpl rv_nest rv_tab (155 + j)) = true := by decide +kernel
set_option maxRecDepth 1000000 in
theorem rv_ck_32 : (List.range 5).all (fun j => rv_chM rv_inf rv_cpl rv_nest rv_tab (160 + j)) = true := by decide +kernel
set_option maxRecDepth 1000000 in
theorem rv_ck_33 : (List.range 5).all (fun j => rv_chM rv_inf rv_cpl rv_nest rv_tab (165 + j)) = true := by decide +kernel
set_option maxRecDepth 1000000 in
theorem rv_ck_34 : (List.range 5).all (fun j => rv_chM rv_inf rv_cpl rv_nest rv_tab (170 + j)) = true := by decide +kernel
set_option maxRecDepth 1000000 in
theorem rv_ck_35 : (List.range 5).all (fun j => rv_chM rv_inf rv_cpl rv_nest rv_tab (175 + j)) = true := by decide +kernel
set_option maxRecDepth 1000000 in
theorem rv_ck_36 : (List.range 5).all (fun j => rv_chM rv_inf rv_cpl rv_nest rv_tab (180 + j)) = true := by decide +kernel
set_option maxRecDepth 1000000 in
theorem rv_ck_37 : (List.range 5).all (fun j => rv_chM rv_inf rv_cpl rv_nest rv_tab (185 + j)) = true := by decide +kernel
set_option maxRecDepth 1000000 in
theorem rv_ck_38 : (List.range 5).all (fun j => rv_chM rv_inf rv_cpl rv_nest rv_tab (190 + j)) = true := by decide +kernel
set_option maxRecDepth 1000000 in
theorem rv_ck_39 : (List.range 5).all (fun j => rv_chM rv_inf rv_cpl rv_nest rv_tab (195 + j)) = true := by decide +kernel
