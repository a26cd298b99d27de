set_option maxRecDepth 1000000 in
theorem rv_ck_40 : (List.range 5).all (fun j => rv_chM rv_inf rv_cpl rv_nest rv_tab (200 + j)) = true := by decide +kernel
set_option maxRecDepth 1000000 in
theorem rv_ck_41 : (List.range 5).all (fun j => rv_chM rv_inf rv_cpl rv_nest rv_tab (205 + j)) = true := by decide +kernel
set_option maxRecDepth 1000000 in
theorem rv_ck_42 : (List.range 5).all (fun j => rv_chM rv_inf rv_cpl rv_nest rv_tab (210 + j)) = true := by decide +kernel
set_option maxRecDepth 1000000 in
theorem rv_ck_43 : (List.range 5).all (fun j => rv_chM rv_inf rv_cpl rv_nest rv_tab (215 + j)) = true := by decide +kernel
set_option maxRecDepth 1000000 in
theorem rv_ck_44 : (List.range 5).all (fun j => rv_chM rv_inf rv_cpl rv_nest rv_tab (220 + j)) = true := by decide +kernel
set_option maxRecDepth 1000000 in
theorem rv_ck_45 : (List.range 5).all (fun j => rv_chM rv_inf rv_cpl rv_nest rv_tab (225 + j)) = true := by decide +kernel
set_option maxRecDepth 1000000 in
theorem rv_ck_46 : (List.range 5).all (fun j => rv_chM rv_inf rv_cpl rv_nest rv_tab (230 + j)) = true := by decide +kernel
set_option maxRecDepth 1000000 in
theorem rv_ck_47 : (List.range 5).all (fun j => rv_chM rv_inf rv_cpl rv_nest rv_tab (235 + j)) = true := by decide +kernel
set_option maxRecDepth 1000000 in
theorem rv_ck_48 : (List.range 5).all (fun j => rv_chM rv_inf rv_cpl rv_nest rv_tab (240 + j)) = true := by decide +kernel
