set_option maxRecDepth 1000000 in
theorem rk_27_3 : rv_bth false rv_no 62 111 ([rv_mk (5, 5)]) = true := by decide +kernel
set_option maxRecDepth 1000000 in
theorem rk_27_4 : rv_bth false rv_no 62 111 ([rv_mk (6, 2147483647)]) = true := by decide +kernel
theorem rk_27 : ∀ as ∈ rv_prod rk_p27, rv_bth false rv_no 62 111 (as) = true := by
  show ∀ as ∈ [[rv_mk ((-2147483648), (-1))], [rv_mk (0, 3)], [rv_mk (4, 4)], [rv_mk (5, 5)], [rv_mk (6, 2147483647)]], _
  exact List.forall_mem_cons.mpr ⟨rk_27_0, List.forall_mem_cons.mpr ⟨rk_27_1, List.forall_mem_cons.mpr ⟨rk_27_2, List.forall_mem_cons.mpr ⟨rk_27_3, List.forall_mem_cons.mpr ⟨rk_27_4, fun _ h => absurd h List.not_mem_nil⟩⟩⟩⟩⟩
def rk_p28 : List (List (Int32 × Int32)) := [[((-2147483648), (-1)), (0, 3), (4, 4), (5, 5), (6, 2147483647)], [((-2147483648), (-1)), (0, 6), (7, 2147483647)]]
theorem rk_c28 : ∀ p ∈ rk_p28, rv_cov (-2147483648) p = true := List.all_eq_true.mp (show rk_p28.all (rv_cov (-2147483648)) = true by decide +kernel)
set_option maxRecDepth 1000000 in
theorem rk_28_0 : rv_bth false rv_no 79 143 ([rv_mk ((-2147483648), (-1)), rv_mk ((-2147483648), (-1))]) = true := by decide +kernel
set_option maxRecDepth 1000000 in
theorem rk_28_1 : rv_bth false rv_no 79 143 ([rv_mk ((-2147483648), (-1)), rv_mk (0, 6)]) = true := by decide +kernel
set_option maxRecDepth 1000000 in
theorem rk_28_2 : rv_bth false rv_no 79 143 ([rv_mk ((-2147483648), (-1)), rv_mk (7, 2147483647)]) = true := by decide +kernel
set_option maxRecDepth 1000000 in
theorem rk_28_3 : rv_bth false rv_no 79 143 ([rv_mk (0, 3), rv_mk ((-2147483648), (-1))]) = true := by decide +kernel
set_option maxRecDepth 1000000 in
theorem rk_28_4 : rv_bth false rv_no 79 143 ([rv_mk (0, 3), rv_mk (0, 6)]) = true := by decide +kernel
set_option maxRecDepth 1000000 in
theorem rk_28_5 : rv_bth false rv_no 79 143 ([rv_mk (0, 3), rv_mk (7, 2147483647)]) = true := by decide +kernel
set_option maxRecDepth 1000000 in
theorem rk_28_6 : rv_bth false rv_no 79 143 ([rv_mk (4, 4), rv_mk ((-2147483648), (-1))]) = true := by decide +kernel
set_option maxRecDepth 1000000 in
theorem rk_28_7 : rv_bth false rv_no 79 143 ([rv_mk (4, 4), rv_mk (0, 6)]) = true := by decide +kernel
set_option maxRecDepth 1000000 in
theorem rk_28_8 : rv_bth false rv_no 79 143 ([rv_mk (4, 4), rv_mk (7, 2147483647)]) = true := by decide +kernel
set_option maxRecDepth 1000000 in
theorem rk_28_9 : rv_bth false rv_no 79 143 ([rv_mk (5, 5), rv_mk ((-2147483648), (-1))]) = true := by decide +kernel
set_option maxRecDepth 1000000 in
theorem rk_28_10 : rv_bth false rv_no 79 143 ([rv_mk (5, 5), rv_mk (0, 6)]) = true := by decide +kernel
