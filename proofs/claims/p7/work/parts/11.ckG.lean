set_option maxRecDepth 1000000 in
theorem rv_ck_58 : (List.range 4).all (fun j => rv_chM rv_inf rv_cpl rv_nest rv_tab (290 + j)) = true := by decide +kernel
