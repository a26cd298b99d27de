set_option maxRecDepth 1000000 in
theorem rk_25_2 : rv_bth false rv_no 81 146 ([rv_mk (4, 4)]) = true := by decide +kernel
set_option maxRecDepth 1000000 in
theorem rk_25_3 : rv_bth false rv_no 81 146 ([rv_mk (5, 5)]) = true := by decide +kernel
set_option maxRecDepth 1000000 in
theorem rk_25_4 : rv_bth false rv_no 81 146 ([rv_mk (6, 2147483647)]) = true := by decide +kernel
theorem rk_25 : ∀ as ∈ rv_prod rk_p25, rv_bth false rv_no 81 146 (as) = true := by
  show ∀ as ∈ [[rv_mk ((-2147483648), (-1))], [rv_mk (0, 3)], [rv_mk (4, 4)], [rv_mk (5, 5)], [rv_mk (6, 2147483647)]], _
  exact List.forall_mem_cons.mpr ⟨rk_25_0, List.forall_mem_cons.mpr ⟨rk_25_1, List.forall_mem_cons.mpr ⟨rk_25_2, List.forall_mem_cons.mpr ⟨rk_25_3, List.forall_mem_cons.mpr ⟨rk_25_4, fun _ h => absurd h List.not_mem_nil⟩⟩⟩⟩⟩
def rk_p26 : List (List (Int32 × Int32)) := [[((-2147483648), 2147483647)], [((-2147483648), (-1)), (0, 2147483647)]]
theorem rk_c26 : ∀ p ∈ rk_p26, rv_cov (-2147483648) p = true := List.all_eq_true.mp (show rk_p26.all (rv_cov (-2147483648)) = true by decide +kernel)
set_option maxRecDepth 1000000 in
theorem rk_26 : ∀ as ∈ rv_prod rk_p26, rv_bth false rv_no 82 147 (as) = true := List.all_eq_true.mp (show (rv_prod rk_p26).all (fun as => rv_bth false rv_no 82 147 (as)) = true by decide +kernel)
def rk_p27 : List (List (Int32 × Int32)) := [[((-2147483648), (-1)), (0, 3), (4, 4), (5, 5), (6, 2147483647)]]
theorem rk_c27 : ∀ p ∈ rk_p27, rv_cov (-2147483648) p = true := List.all_eq_true.mp (show rk_p27.all (rv_cov (-2147483648)) = true by decide +kernel)
set_option maxRecDepth 1000000 in
theorem rk_27_0 : rv_bth false rv_no 62 111 ([rv_mk ((-2147483648), (-1))]) = true := by decide +kernel
set_option maxRecDepth 1000000 in
theorem rk_27_1 : rv_bth false rv_no 62 111 ([rv_mk (0, 3)]) = true := by decide +kernel
set_option maxRecDepth 1000000 in
theorem rk_27_2 : rv_bth false rv_no 62 111 ([rv_mk (4, 4)]) = true := by decide +kernel
