set_option maxRecDepth 1000000 in
theorem rv_ck_57_0 : rv_chM rv_inf rv_cpl rv_nest rv_tab (285 + 0) = true := by decide +kernel
set_option maxRecDepth 1000000 in
theorem rv_ck_57_1 : rv_chM rv_inf rv_cpl rv_nest rv_tab (285 + 1) = true := by decide +kernel
