set_option maxRecDepth 1000000 in
theorem rk_20_3 : rv_bth false rv_no 64 117 ([rv_mk (4, 4)]) = true := by decide +kernel
set_option maxRecDepth 1000000 in
theorem rk_20_4 : rv_bth false rv_no 64 117 ([rv_mk (5, 5)]) = true := by decide +kernel
set_option maxRecDepth 1000000 in
theorem rk_20_5 : rv_bth false rv_no 64 117 ([rv_mk (6, 2147483647)]) = true := by decide +kernel
theorem rk_20 : ∀ as ∈ rv_prod rk_p20, rv_bth false rv_no 64 117 (as) = true := by
  show ∀ as ∈ [[rv_mk ((-2147483648), (-2))], [rv_mk ((-1), (-1))], [rv_mk (0, 3)], [rv_mk (4, 4)], [rv_mk (5, 5)], [rv_mk (6, 2147483647)]], _
  exact List.forall_mem_cons.mpr ⟨rk_20_0, List.forall_mem_cons.mpr ⟨rk_20_1, List.forall_mem_cons.mpr ⟨rk_20_2, List.forall_mem_cons.mpr ⟨rk_20_3, List.forall_mem_cons.mpr ⟨rk_20_4, List.forall_mem_cons.mpr ⟨rk_20_5, fun _ h => absurd h List.not_mem_nil⟩⟩⟩⟩⟩⟩
def rk_p21 : List (List (Int32 × Int32)) := [[((-2147483648), 2147483647)], [((-2147483648), 2147483647)], [((-2147483648), (-1)), (0, 2147483647)]]
theorem rk_c21 : ∀ p ∈ rk_p21, rv_cov (-2147483648) p = true := List.all_eq_true.mp (show rk_p21.all (rv_cov (-2147483648)) = true by decide +kernel)
set_option maxRecDepth 1000000 in
theorem rk_21 : ∀ as ∈ rv_prod rk_p21, rv_bth false rv_no 91 158 (as) = true := List.all_eq_true.mp (show (rv_prod rk_p21).all (fun as => rv_bth false rv_no 91 158 (as)) = true by decide +kernel)
def rk_p22 : List (List (Int32 × Int32)) := [[((-2147483648), (-1)), (0, 3), (4, 4), (5, 5), (6, 2147483647)], [((-2147483648), 0), (1, 1), (2, 2), (3, 2147483647)]]
theorem rk_c22 : ∀ p ∈ rk_p22, rv_cov (-2147483648) p = true := List.all_eq_true.mp (show rk_p22.all (rv_cov (-2147483648)) = true by decide +kernel)
set_option maxRecDepth 1000000 in
theorem rk_22_0 : rv_bth false rv_no 97 168 ([rv_mk ((-2147483648), (-1)), rv_mk ((-2147483648), 0)]) = true := by decide +kernel
set_option maxRecDepth 1000000 in
theorem rk_22_1 : rv_bth false rv_no 97 168 ([rv_mk ((-2147483648), (-1)), rv_mk (1, 1)]) = true := by decide +kernel
set_option maxRecDepth 1000000 in
theorem rk_22_2 : rv_bth false rv_no 97 168 ([rv_mk ((-2147483648), (-1)), rv_mk (2, 2)]) = true := by decide +kernel
set_option maxRecDepth 1000000 in
theorem rk_22_3 : rv_bth false rv_no 97 168 ([rv_mk ((-2147483648), (-1)), rv_mk (3, 2147483647)]) = true := by decide +kernel
set_option maxRecDepth 1000000 in
theorem rk_22_4 : rv_bth false rv_no 97 168 ([rv_mk (0, 3), rv_mk ((-2147483648), 0)]) = true := by decide +kernel
set_option maxRecDepth 1000000 in
theorem rk_22_5 : rv_bth false rv_no 97 168 ([rv_mk (0, 3), rv_mk (1, 1)]) = true := by decide +kernel
set_option maxRecDepth 1000000 in
theorem rk_22_6 : rv_bth false rv_no 97 168 ([rv_mk (0, 3), rv_mk (2, 2)]) = true := by decide +kernel
