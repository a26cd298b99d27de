set_option maxRecDepth 1000000 in
theorem rv_ck_49 : (List.range 5).all (fun j => rv_chM rv_inf rv_cpl rv_nest rv_tab (245 + j)) = true := by decide +kernel
set_option maxRecDepth 1000000 in
theorem rv_ck_50 : (List.range 5).all (fun j => rv_chM rv_inf rv_cpl rv_nest rv_tab (250 + j)) = true := by decide +kernel
set_option maxRecDepth 1000000 in
theorem rv_ck_51 : (List.range 5).all (fun j => rv_chM rv_inf rv_cpl rv_nest rv_tab (255 + j)) = true := by decide +kernel
set_option maxRecDepth 1000000 in
theorem rv_ck_52 : (List.range 5).all (fun j => rv_chM rv_inf rv_cpl rv_nest rv_tab (260 + j)) = true := by decide +kernel
set_option maxRecDepth 1000000 in
theorem rv_ck_53 : (List.range 5).all (fun j => rv_chM rv_inf rv_cpl rv_nest rv_tab (265 + j)) = true := by decide +kernel
set_option maxRecDepth 1000000 in
theorem rv_ck_54 : (List.range 5).all (fun j => rv_chM rv_inf rv_cpl rv_nest rv_tab (270 + j)) = true := by decide +kernel
set_option maxRecDepth 1000000 in
theorem rv_ck_55 : (List.range 5).all (fun j => rv_chM rv_inf rv_cpl rv_nest rv_tab (275 + j)) = true := by decide +kernel
set_option maxRecDepth 1000000 in
theorem rv_ck_56 : (List.range 5).all (fun j => rv_chM rv_inf rv_cpl rv_nest rv_tab (280 + j)) = true := by decide +kernel
