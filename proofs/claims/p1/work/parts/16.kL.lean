set_option maxRecDepth 1000000 in
theorem rk_32_27 : rv_bth false rv_no 102 174 ([rv_mk (5, 5), rv_mk (6, 2147483647)]) = true := by decide +kernel
set_option maxRecDepth 1000000 in
theorem rk_32_28 : rv_bth false rv_no 102 174 ([rv_mk (6, 2147483647), rv_mk ((-2147483648), 0)]) = true := by decide +kernel
set_option maxRecDepth 1000000 in
theorem rk_32_29 : rv_bth false rv_no 102 174 ([rv_mk (6, 2147483647), rv_mk (1, 1)]) = true := by decide +kernel
set_option maxRecDepth 1000000 in
theorem rk_32_30 : rv_bth false rv_no 102 174 ([rv_mk (6, 2147483647), rv_mk (2, 2)]) = true := by decide +kernel
set_option maxRecDepth 1000000 in
theorem rk_32_31 : rv_bth false rv_no 102 174 ([rv_mk (6, 2147483647), rv_mk (3, 3)]) = true := by decide +kernel
set_option maxRecDepth 1000000 in
theorem rk_32_32 : rv_bth false rv_no 102 174 ([rv_mk (6, 2147483647), rv_mk (4, 4)]) = true := by decide +kernel
set_option maxRecDepth 1000000 in
theorem rk_32_33 : rv_bth false rv_no 102 174 ([rv_mk (6, 2147483647), rv_mk (5, 5)]) = true := by decide +kernel
set_option maxRecDepth 1000000 in
theorem rk_32_34 : rv_bth false rv_no 102 174 ([rv_mk (6, 2147483647), rv_mk (6, 2147483647)]) = true := by decide +kernel
theorem rk_32 : ∀ as ∈ rv_prod rk_p32, rv_bth false rv_no 102 174 (as) = true := by
  show ∀ as ∈ [[rv_mk ((-2147483648), (-1)), rv_mk ((-2147483648), 0)], [rv_mk ((-2147483648), (-1)), rv_mk (1, 1)], [rv_mk ((-2147483648), (-1)), rv_mk (2, 2)], [rv_mk ((-2147483648), (-1)), rv_mk (3, 3)], [rv_mk ((-2147483648), (-1)), rv_mk (4, 4)], [rv_mk ((-2147483648), (-1)), rv_mk (5, 5)], [rv_mk ((-2147483648), (-1)), rv_mk (6, 2147483647)], [rv_mk (0, 3), rv_mk ((-2147483648), 0)], [rv_mk (0, 3), rv_mk (1, 1)], [rv_mk (0, 3), rv_mk (2, 2)], [rv_mk (0, 3), rv_mk (3, 3)], [rv_mk (0, 3), rv_mk (4, 4)], [rv_mk (0, 3), rv_mk (5, 5)], [rv_mk (0, 3), rv_mk (6, 2147483647)], [rv_mk (4, 4), rv_mk ((-2147483648), 0)], [rv_mk (4, 4), rv_mk (1, 1)], [rv_mk (4, 4), rv_mk (2, 2)], [rv_mk (4, 4), rv_mk (3, 3)], [rv_mk (4, 4), rv_mk (4, 4)], [rv_mk (4, 4), rv_mk (5, 5)], [rv_mk (4, 4), rv_mk (6, 2147483647)], [rv_mk (5, 5), rv_mk ((-2147483648), 0)], [rv_mk (5, 5), rv_mk (1, 1)], [rv_mk (5, 5), rv_mk (2, 2)], [rv_mk (5, 5), rv_mk (3, 3)], [rv_mk (5, 5), rv_mk (4, 4)], [rv_mk (5, 5), rv_mk (5, 5)], [rv_mk (5, 5), rv_mk (6, 2147483647)], [rv_mk (6, 2147483647), rv_mk ((-2147483648), 0)], [rv_mk (6, 2147483647), rv_mk (1, 1)], [rv_mk (6, 2147483647), rv_mk (2, 2)], [rv_mk (6, 2147483647), rv_mk (3, 3)], [rv_mk (6, 2147483647), rv_mk (4, 4)], [rv_mk (6, 2147483647), rv_mk (5, 5)], [rv_mk (6, 2147483647), rv_mk (6, 2147483647)]], _
  exact List.forall_mem_cons.mpr ⟨rk_32_0, List.forall_mem_cons.mpr ⟨rk_32_1, List.forall_mem_cons.mpr ⟨rk_32_2, List.forall_mem_cons.mpr ⟨rk_32_3, List.forall_mem_cons.mpr ⟨rk_32_4, List.forall_mem_cons.mpr ⟨rk_32_5, List.forall_mem_cons.mpr ⟨rk_32_6, List.forall_mem_cons.mpr ⟨rk_32_7, List.forall_mem_cons.mpr ⟨rk_32_8, List.forall_mem_cons.mpr ⟨rk_32_9, List.forall_mem_cons.mpr ⟨rk_32_10, List.forall_mem_cons.mpr ⟨rk_32_11, List.forall_mem_cons.mpr ⟨rk_32_12, List.forall_mem_cons.mpr ⟨rk_32_13, List.forall_mem_cons.mpr ⟨rk_32_14, List.forall_mem_cons.mpr ⟨rk_32_15, List.forall_mem_cons.mpr ⟨rk_32_16, List.forall_mem_cons.mpr ⟨rk_32_17, List.forall_mem_cons.mpr ⟨rk_32_18, List.forall_mem_cons.mpr ⟨rk_32_19, List.forall_mem_cons.mpr ⟨rk_32_20, List.forall_mem_cons.mpr ⟨rk_32_21, List.forall_mem_cons.mpr ⟨rk_32_22, List.forall_mem_cons.mpr ⟨rk_32_23, List.forall_mem_cons.mpr ⟨rk_32_24, List.forall_mem_cons.mpr ⟨rk_32_25, List.forall_mem_cons.mpr ⟨rk_32_26, List.forall_mem_cons.mpr ⟨rk_32_27, List.forall_mem_cons.mpr ⟨rk_32_28, List.forall_mem_cons.mpr ⟨rk_32_29, List.forall_mem_cons.mpr ⟨rk_32_30, List.forall_mem_cons.mpr ⟨rk_32_31, List.forall_mem_cons.mpr ⟨rk_32_32, List.forall_mem_cons.mpr ⟨rk_32_33, List.forall_mem_cons.mpr ⟨rk_32_34, fun _ h => absurd h List.not_mem_nil⟩⟩⟩⟩⟩⟩⟩⟩⟩⟩⟩⟩⟩⟩⟩⟩⟩⟩⟩⟩⟩⟩⟩⟩⟩⟩⟩⟩⟩⟩⟩⟩⟩⟩⟩
def rk_p33 : List (List (Int32 × Int32)) := [[((-2147483648), (-1)), (0, 2147483647)]]
theorem rk_c33 : ∀ p ∈ rk_p33, rv_cov (-2147483648) p = true := List.all_eq_true.mp (show rk_p33.all (rv_cov (-2147483648)) = true by decide +kernel)
set_option maxRecDepth 1000000 in
theorem rk_33 : ∀ as ∈ rv_prod rk_p33, rv_bth false rv_no 101 173 (as) = true := List.all_eq_true.mp (show (rv_prod rk_p33).all (fun as => rv_bth false rv_no 101 173 (as)) = true by decide +kernel)
def rk_p34 : List (List (Int32 × Int32)) := [[((-2147483648), (-1)), (0, 0), (1, 1), (2, 2), (3, 3), (4, 2147483647)], [((-2147483648), 2147483647)], [((-2147483648), 2147483647)]]
theorem rk_c34 : ∀ p ∈ rk_p34, rv_cov (-2147483648) p = true := List.all_eq_true.mp (show rk_p34.all (rv_cov (-2147483648)) = true by decide +kernel)
set_option maxRecDepth 1000000 in
theorem rk_34 : ∀ as ∈ rv_prod rk_p34, rv_bth false rv_no 70 125 (as) = true := List.all_eq_true.mp (show (rv_prod rk_p34).all (fun as => rv_bth false rv_no 70 125 (as)) = true by decide +kernel)
def rk_p35 : List (List (Int32 × Int32)) := [[((-2147483648), (-1)), (0, 2147483647)]]
theorem rk_c35 : ∀ p ∈ rk_p35, rv_cov (-2147483648) p = true := List.all_eq_true.mp (show rk_p35.all (rv_cov (-2147483648)) = true by decide +kernel)
set_option maxRecDepth 1000000 in
theorem rk_35 : ∀ as ∈ rv_prod rk_p35, rv_bth false rv_no 71 128 (as) = true := List.all_eq_true.mp (show (rv_prod rk_p35).all (fun as => rv_bth false rv_no 71 128 (as)) = true by decide +kernel)
