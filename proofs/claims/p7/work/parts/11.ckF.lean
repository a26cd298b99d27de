set_option maxRecDepth 1000000 in
theorem rv_ck_57_2 : rv_chM rv_inf rv_cpl rv_nest rv_tab (285 + 2) = true := by decide +kernel
set_option maxRecDepth 1000000 in
theorem rv_ck_57_3 : rv_chM rv_inf rv_cpl rv_nest rv_tab (285 + 3) = true := by decide +kernel
set_option maxRecDepth 1000000 in
theorem rv_ck_57_4 : rv_chM rv_inf rv_cpl rv_nest rv_tab (285 + 4) = true := by decide +kernel
theorem rv_ck_57 : (List.range 5).all (fun j => rv_chM rv_inf rv_cpl rv_nest rv_tab (285 + j)) = true := List.all_eq_true.mpr (fun j hj => by
  have hj := List.mem_range.mp hj
  rcases (show j = 0 ∨ j = 1 ∨ j = 2 ∨ j = 3 ∨ j = 4 by omega) with rfl | rfl | rfl | rfl | rfl
  · exact rv_ck_57_0
  · exact rv_ck_57_1
  · exact rv_ck_57_2
  · exact rv_ck_57_3
  · exact rv_ck_57_4)
