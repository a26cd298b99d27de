set_option maxRecDepth 1000000 in
theorem rk_28_11 : rv_bth false rv_no 79 143 ([rv_mk (5, 5), rv_mk (7, 2147483647)]) = true := by decide +kernel
set_option maxRecDepth 1000000 in
theorem rk_28_12 : rv_bth false rv_no 79 143 ([rv_mk (6, 2147483647), rv_mk ((-2147483648), (-1))]) = true := by decide +kernel
set_option maxRecDepth 1000000 in
theorem rk_28_13 : rv_bth false rv_no 79 143 ([rv_mk (6, 2147483647), rv_mk (0, 6)]) = true := by decide +kernel
set_option maxRecDepth 1000000 in
theorem rk_28_14 : rv_bth false rv_no 79 143 ([rv_mk (6, 2147483647), rv_mk (7, 2147483647)]) = true := by decide +kernel
theorem rk_28 : ∀ as ∈ rv_prod rk_p28, rv_bth false rv_no 79 143 (as) = true := by
  show ∀ as ∈ [[rv_mk ((-2147483648), (-1)), rv_mk ((-2147483648), (-1))], [rv_mk ((-2147483648), (-1)), rv_mk (0, 6)], [rv_mk ((-2147483648), (-1)), rv_mk (7, 2147483647)], [rv_mk (0, 3), rv_mk ((-2147483648), (-1))], [rv_mk (0, 3), rv_mk (0, 6)], [rv_mk (0, 3), rv_mk (7, 2147483647)], [rv_mk (4, 4), rv_mk ((-2147483648), (-1))], [rv_mk (4, 4), rv_mk (0, 6)], [rv_mk (4, 4), rv_mk (7, 2147483647)], [rv_mk (5, 5), rv_mk ((-2147483648), (-1))], [rv_mk (5, 5), rv_mk (0, 6)], [rv_mk (5, 5), rv_mk (7, 2147483647)], [rv_mk (6, 2147483647), rv_mk ((-2147483648), (-1))], [rv_mk (6, 2147483647), rv_mk (0, 6)], [rv_mk (6, 2147483647), rv_mk (7, 2147483647)]], _
  exact List.forall_mem_cons.mpr ⟨rk_28_0, List.forall_mem_cons.mpr ⟨rk_28_1, List.forall_mem_cons.mpr ⟨rk_28_2, List.forall_mem_cons.mpr ⟨rk_28_3, List.forall_mem_cons.mpr ⟨rk_28_4, List.forall_mem_cons.mpr ⟨rk_28_5, List.forall_mem_cons.mpr ⟨rk_28_6, List.forall_mem_cons.mpr ⟨rk_28_7, List.forall_mem_cons.mpr ⟨rk_28_8, List.forall_mem_cons.mpr ⟨rk_28_9, List.forall_mem_cons.mpr ⟨rk_28_10, List.forall_mem_cons.mpr ⟨rk_28_11, List.forall_mem_cons.mpr ⟨rk_28_12, List.forall_mem_cons.mpr ⟨rk_28_13, List.forall_mem_cons.mpr ⟨rk_28_14, fun _ h => absurd h List.not_mem_nil⟩⟩⟩⟩⟩⟩⟩⟩⟩⟩⟩⟩⟩⟩⟩
def rk_p29 : List (List (Int32 × Int32)) := [[((-2147483648), (-1)), (0, 0), (1, 1), (2, 2147483647)]]
theorem rk_c29 : ∀ p ∈ rk_p29, rv_cov (-2147483648) p = true := List.all_eq_true.mp (show rk_p29.all (rv_cov (-2147483648)) = true by decide +kernel)
set_option maxRecDepth 1000000 in
theorem rk_29_0 : rv_bth false rv_no 94 165 ([rv_mk ((-2147483648), (-1))]) = true := by decide +kernel
set_option maxRecDepth 1000000 in
theorem rk_29_1 : rv_bth false rv_no 94 165 ([rv_mk (0, 0)]) = true := by decide +kernel
set_option maxRecDepth 1000000 in
theorem rk_29_2 : rv_bth false rv_no 94 165 ([rv_mk (1, 1)]) = true := by decide +kernel
set_option maxRecDepth 1000000 in
theorem rk_29_3 : rv_bth false rv_no 94 165 ([rv_mk (2, 2147483647)]) = true := by decide +kernel
theorem rk_29 : ∀ as ∈ rv_prod rk_p29, rv_bth false rv_no 94 165 (as) = true := by
  show ∀ as ∈ [[rv_mk ((-2147483648), (-1))], [rv_mk (0, 0)], [rv_mk (1, 1)], [rv_mk (2, 2147483647)]], _
  exact List.forall_mem_cons.mpr ⟨rk_29_0, List.forall_mem_cons.mpr ⟨rk_29_1, List.forall_mem_cons.mpr ⟨rk_29_2, List.forall_mem_cons.mpr ⟨rk_29_3, fun _ h => absurd h List.not_mem_nil⟩⟩⟩⟩
def rk_p30 : List (List (Int32 × Int32)) := [[((-2147483648), (-1)), (0, 2147483647)]]
theorem rk_c30 : ∀ p ∈ rk_p30, rv_cov (-2147483648) p = true := List.all_eq_true.mp (show rk_p30.all (rv_cov (-2147483648)) = true by decide +kernel)
set_option maxRecDepth 1000000 in
theorem rk_30 : ∀ as ∈ rv_prod rk_p30, rv_bth false rv_no 73 129 (as) = true := List.all_eq_true.mp (show (rv_prod rk_p30).all (fun as => rv_bth false rv_no 73 129 (as)) = true by decide +kernel)
def rk_p31 : List (List (Int32 × Int32)) := [[((-2147483648), 2147483647)], [((-2147483648), (-1)), (0, 2147483647)], [((-2147483648), 2147483647)]]
theorem rk_c31 : ∀ p ∈ rk_p31, rv_cov (-2147483648) p = true := List.all_eq_true.mp (show rk_p31.all (rv_cov (-2147483648)) = true by decide +kernel)
set_option maxRecDepth 1000000 in
theorem rk_31 : ∀ as ∈ rv_prod rk_p31, rv_bth false rv_no 69 123 (as) = true := List.all_eq_true.mp (show (rv_prod rk_p31).all (fun as => rv_bth false rv_no 69 123 (as)) = true by decide +kernel)
def rk_p32 : List (List (Int32 × Int32)) := [[((-2147483648), (-1)), (0, 3), (4, 4), (5, 5), (6, 2147483647)], [((-2147483648), 0), (1, 1), (2, 2), (3, 3), (4, 4), (5, 5), (6, 2147483647)]]
theorem rk_c32 : ∀ p ∈ rk_p32, rv_cov (-2147483648) p = true := List.all_eq_true.mp (show rk_p32.all (rv_cov (-2147483648)) = true by decide +kernel)
set_option maxRecDepth 1000000 in
theorem rk_32_0 : rv_bth false rv_no 102 174 ([rv_mk ((-2147483648), (-1)), rv_mk ((-2147483648), 0)]) = true := by decide +kernel
set_option maxRecDepth 1000000 in
theorem rk_32_1 : rv_bth false rv_no 102 174 ([rv_mk ((-2147483648), (-1)), rv_mk (1, 1)]) = true := by decide +kernel
set_option maxRecDepth 1000000 in
theorem rk_32_2 : rv_bth false rv_no 102 174 ([rv_mk ((-2147483648), (-1)), rv_mk (2, 2)]) = true := by decide +kernel
set_option maxRecDepth 1000000 in
theorem rk_32_3 : rv_bth false rv_no 102 174 ([rv_mk ((-2147483648), (-1)), rv_mk (3, 3)]) = true := by decide +kernel
set_option maxRecDepth 1000000 in
theorem rk_32_4 : rv_bth false rv_no 102 174 ([rv_mk ((-2147483648), (-1)), rv_mk (4, 4)]) = true := by decide +kernel
set_option maxRecDepth 1000000 in
theorem rk_32_5 : rv_bth false rv_no 102 174 ([rv_mk ((-2147483648), (-1)), rv_mk (5, 5)]) = true := by decide +kernel
set_option maxRecDepth 1000000 in
theorem rk_32_6 : rv_bth false rv_no 102 174 ([rv_mk ((-2147483648), (-1)), rv_mk (6, 2147483647)]) = true := by decide +kernel
set_option maxRecDepth 1000000 in
theorem rk_32_7 : rv_bth false rv_no 102 174 ([rv_mk (0, 3), rv_mk ((-2147483648), 0)]) = true := by decide +kernel
set_option maxRecDepth 1000000 in
theorem rk_32_8 : rv_bth false rv_no 102 174 ([rv_mk (0, 3), rv_mk (1, 1)]) = true := by decide +kernel
set_option maxRecDepth 1000000 in
theorem rk_32_9 : rv_bth false rv_no 102 174 ([rv_mk (0, 3), rv_mk (2, 2)]) = true := by decide +kernel
set_option maxRecDepth 1000000 in
theorem rk_32_10 : rv_bth false rv_no 102 174 ([rv_mk (0, 3), rv_mk (3, 3)]) = true := by decide +kernel
