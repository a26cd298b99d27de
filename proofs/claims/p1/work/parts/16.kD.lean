set_option maxRecDepth 1000000 in
theorem rk_22_15 : rv_bth false rv_no 97 168 ([rv_mk (5, 5), rv_mk (3, 2147483647)]) = true := by decide +kernel
set_option maxRecDepth 1000000 in
theorem rk_22_16 : rv_bth false rv_no 97 168 ([rv_mk (6, 2147483647), rv_mk ((-2147483648), 0)]) = true := by decide +kernel
set_option maxRecDepth 1000000 in
theorem rk_22_17 : rv_bth false rv_no 97 168 ([rv_mk (6, 2147483647), rv_mk (1, 1)]) = true := by decide +kernel
set_option maxRecDepth 1000000 in
theorem rk_22_18 : rv_bth false rv_no 97 168 ([rv_mk (6, 2147483647), rv_mk (2, 2)]) = true := by decide +kernel
set_option maxRecDepth 1000000 in
theorem rk_22_19 : rv_bth false rv_no 97 168 ([rv_mk (6, 2147483647), rv_mk (3, 2147483647)]) = true := by decide +kernel
theorem rk_22 : ∀ as ∈ rv_prod rk_p22, rv_bth false rv_no 97 168 (as) = true := by
  show ∀ as ∈ [[rv_mk ((-2147483648), (-1)), rv_mk ((-2147483648), 0)], [rv_mk ((-2147483648), (-1)), rv_mk (1, 1)], [rv_mk ((-2147483648), (-1)), rv_mk (2, 2)], [rv_mk ((-2147483648), (-1)), rv_mk (3, 2147483647)], [rv_mk (0, 3), rv_mk ((-2147483648), 0)], [rv_mk (0, 3), rv_mk (1, 1)], [rv_mk (0, 3), rv_mk (2, 2)], [rv_mk (0, 3), rv_mk (3, 2147483647)], [rv_mk (4, 4), rv_mk ((-2147483648), 0)], [rv_mk (4, 4), rv_mk (1, 1)], [rv_mk (4, 4), rv_mk (2, 2)], [rv_mk (4, 4), rv_mk (3, 2147483647)], [rv_mk (5, 5), rv_mk ((-2147483648), 0)], [rv_mk (5, 5), rv_mk (1, 1)], [rv_mk (5, 5), rv_mk (2, 2)], [rv_mk (5, 5), rv_mk (3, 2147483647)], [rv_mk (6, 2147483647), rv_mk ((-2147483648), 0)], [rv_mk (6, 2147483647), rv_mk (1, 1)], [rv_mk (6, 2147483647), rv_mk (2, 2)], [rv_mk (6, 2147483647), rv_mk (3, 2147483647)]], _
  exact List.forall_mem_cons.mpr ⟨rk_22_0, List.forall_mem_cons.mpr ⟨rk_22_1, List.forall_mem_cons.mpr ⟨rk_22_2, List.forall_mem_cons.mpr ⟨rk_22_3, List.forall_mem_cons.mpr ⟨rk_22_4, List.forall_mem_cons.mpr ⟨rk_22_5, List.forall_mem_cons.mpr ⟨rk_22_6, List.forall_mem_cons.mpr ⟨rk_22_7, List.forall_mem_cons.mpr ⟨rk_22_8, List.forall_mem_cons.mpr ⟨rk_22_9, List.forall_mem_cons.mpr ⟨rk_22_10, List.forall_mem_cons.mpr ⟨rk_22_11, List.forall_mem_cons.mpr ⟨rk_22_12, List.forall_mem_cons.mpr ⟨rk_22_13, List.forall_mem_cons.mpr ⟨rk_22_14, List.forall_mem_cons.mpr ⟨rk_22_15, List.forall_mem_cons.mpr ⟨rk_22_16, List.forall_mem_cons.mpr ⟨rk_22_17, List.forall_mem_cons.mpr ⟨rk_22_18, List.forall_mem_cons.mpr ⟨rk_22_19, fun _ h => absurd h List.not_mem_nil⟩⟩⟩⟩⟩⟩⟩⟩⟩⟩⟩⟩⟩⟩⟩⟩⟩⟩⟩⟩
def rk_p23 : List (List (Int32 × Int32)) := [[((-2147483648), 2147483647)], [((-2147483648), (-1)), (0, 2147483647)], [((-2147483648), 2147483647)]]
theorem rk_c23 : ∀ p ∈ rk_p23, rv_cov (-2147483648) p = true := List.all_eq_true.mp (show rk_p23.all (rv_cov (-2147483648)) = true by decide +kernel)
set_option maxRecDepth 1000000 in
theorem rk_23 : ∀ as ∈ rv_prod rk_p23, rv_bth false rv_no 98 170 (as) = true := List.all_eq_true.mp (show (rv_prod rk_p23).all (fun as => rv_bth false rv_no 98 170 (as)) = true by decide +kernel)
def rk_p24 : List (List (Int32 × Int32)) := [[((-2147483648), (-1)), (0, 3), (4, 4), (5, 5), (6, 2147483647)]]
theorem rk_c24 : ∀ p ∈ rk_p24, rv_cov (-2147483648) p = true := List.all_eq_true.mp (show rk_p24.all (rv_cov (-2147483648)) = true by decide +kernel)
set_option maxRecDepth 1000000 in
theorem rk_24_0 : rv_bth false rv_no 77 141 ([rv_mk ((-2147483648), (-1))]) = true := by decide +kernel
set_option maxRecDepth 1000000 in
theorem rk_24_1 : rv_bth false rv_no 77 141 ([rv_mk (0, 3)]) = true := by decide +kernel
set_option maxRecDepth 1000000 in
theorem rk_24_2 : rv_bth false rv_no 77 141 ([rv_mk (4, 4)]) = true := by decide +kernel
set_option maxRecDepth 1000000 in
theorem rk_24_3 : rv_bth false rv_no 77 141 ([rv_mk (5, 5)]) = true := by decide +kernel
set_option maxRecDepth 1000000 in
theorem rk_24_4 : rv_bth false rv_no 77 141 ([rv_mk (6, 2147483647)]) = true := by decide +kernel
theorem rk_24 : ∀ as ∈ rv_prod rk_p24, rv_bth false rv_no 77 141 (as) = true := by
  show ∀ as ∈ [[rv_mk ((-2147483648), (-1))], [rv_mk (0, 3)], [rv_mk (4, 4)], [rv_mk (5, 5)], [rv_mk (6, 2147483647)]], _
  exact List.forall_mem_cons.mpr ⟨rk_24_0, List.forall_mem_cons.mpr ⟨rk_24_1, List.forall_mem_cons.mpr ⟨rk_24_2, List.forall_mem_cons.mpr ⟨rk_24_3, List.forall_mem_cons.mpr ⟨rk_24_4, fun _ h => absurd h List.not_mem_nil⟩⟩⟩⟩⟩
def rk_p25 : List (List (Int32 × Int32)) := [[((-2147483648), (-1)), (0, 3), (4, 4), (5, 5), (6, 2147483647)]]
theorem rk_c25 : ∀ p ∈ rk_p25, rv_cov (-2147483648) p = true := List.all_eq_true.mp (show rk_p25.all (rv_cov (-2147483648)) = true by decide +kernel)
set_option maxRecDepth 1000000 in
theorem rk_25_0 : rv_bth false rv_no 81 146 ([rv_mk ((-2147483648), (-1))]) = true := by decide +kernel
set_option maxRecDepth 1000000 in
theorem rk_25_1 : rv_bth false rv_no 81 146 ([rv_mk (0, 3)]) = true := by decide +kernel
