set_option maxRecDepth 1000000 in
theorem rv_ck_40 : (List.range 5).all (fun j => rv_chM rv_inf rv_cpl rv_nest rv_tab (200 + j)) = true := by decide +kernel
set_option maxRecDepth 1000000 in
theorem rv_ck_41 : (List.range 5).all (fun j => rv_chM rv_inf rv_cpl rv_nest rv_tab (205 + j)) = true := by decide +kernel
set_option maxRecDepth 1000000 in
theorem rv_ck_42 : (List.range 5).all (fun j => rv_chM rv_inf rv_cpl rv_nest rv_tab (210 + j)) = true := by decide +kernel
set_option maxRecDepth 1000000 in
theorem rv_ck_43 : (List.range 5).all (fun j => rv_chM rv_inf rv_cpl rv_nest rv_tab (215 + j)) = true := by decide +kernel
set_option maxRecDepth 1000000 in
theorem rv_ck_44 : (List.range 5).all (fun j => rv_chM rv_inf rv_cpl rv_nest rv_tab (220 + j)) = true := by decide +kernel
set_option maxRecDepth 1000000 in
theorem rv_ck_45 : (List.range 5).all (fun j => rv_chM rv_inf rv_cpl rv_nest rv_tab (225 + j)) = true := by decide +kernel
set_option maxRecDepth 1000000 in
theorem rv_ck_46 : (List.range 5).all (fun j => rv_chM rv_inf rv_cpl rv_nest rv_tab (230 + j)) = true := by decide +kernel
set_option maxRecDepth 1000000 in
theorem rv_ck_47 : (List.range 5).all (fun j => rv_chM rv_inf rv_cpl rv_nest rv_tab (235 + j)) = true := by decide +kernel
set_option maxRecDepth 1000000 in
theorem rv_ck_48 : (List.range 5).all (fun j => rv_chM rv_inf rv_cpl rv_nest rv_tab (240 + j)) = true := by decide +kernel
set_option maxRecDepth 1000000 in
theorem rv_ck_49 : (List.range 5).all (fun j => rv_chM rv_inf rv_cpl rv_nest rv_tab (245 + j)) = true := by decide +kernel
set_option maxRecDepth 1000000 in
theorem rv_ck_50 : (List.range 5).all (fun j => rv_chM rv_inf rv_cpl rv_nest rv_tab (250 + j)) = true := by decide +kernel
set_option maxRecDepth 1000000 in
theorem rv_ck_51 : (List.range 5).all (fun j => rv_chM rv_inf rv_cpl rv_nest rv_tab (255 + j)) = true := by decide +kernel
set_option maxRecDepth 1000000 in
theorem rv_ck_52 : (List.range 5).all (fun j => rv_chM rv_inf rv_cpl rv_nest rv_tab (260 + j)) = true := by decide +kernel
set_option maxRecDepth 1000000 in
theorem rv_ck_53 : (List.range 5).all (fun j => rv_chM rv_inf rv_cpl rv_nest rv_tab (265 + j)) = true := by decide +kernel
set_option maxRecDepth 1000000 in
theorem rv_ck_54 : (List.range 5).all (fun j => rv_chM rv_inf rv_cpl rv_nest rv_tab (270 + j)) = true := by decide +kernel
set_option maxRecDepth 1000000 in
theorem rv_ck_55 : (List.range 5).all (fun j => rv_chM rv_inf rv_cpl rv_nest rv_tab (275 + j)) = true := by decide +kernel
set_option maxRecDepth 1000000 in
theorem rv_ck_56 : (List.range 5).all (fun j => rv_chM rv_inf rv_cpl rv_nest rv_tab (280 + j)) = true := by decide +kernel
set_option maxRecDepth 1000000 in
theorem rv_ck_57 : (List.range 5).all (fun j => rv_chM rv_inf rv_cpl rv_nest rv_tab (285 + j)) = true := by decide +kernel
set_option maxRecDepth 1000000 in
theorem rv_ck_58 : (List.range 4).all (fun j => rv_chM rv_inf rv_cpl rv_nest rv_tab (290 + j)) = true := by decide +kernel
