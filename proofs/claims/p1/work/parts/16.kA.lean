def rk_p0 : List (List (Int32 × Int32)) := []
theorem rk_c0 : ∀ p ∈ rk_p0, rv_cov (-2147483648) p = true := List.all_eq_true.mp (show rk_p0.all (rv_cov (-2147483648)) = true by decide +kernel)
set_option maxRecDepth 1000000 in
theorem rk_0 : ∀ as ∈ rv_prod rk_p0, rv_bth false rv_no 95 166 (as) = true := List.all_eq_true.mp (show (rv_prod rk_p0).all (fun as => rv_bth false rv_no 95 166 (as)) = true by decide +kernel)
def rk_p1 : List (List (Int32 × Int32)) := [[((-2147483648), (-1)), (0, 0), (1, 1), (2, 2), (3, 3), (4, 2147483647)], [((-2147483648), (-1)), (0, 3), (4, 2147483647)], [((-2147483648), (-1)), (0, 60), (61, 2147483647)]]
theorem rk_c1 : ∀ p ∈ rk_p1, rv_cov (-2147483648) p = true := List.all_eq_true.mp (show rk_p1.all (rv_cov (-2147483648)) = true by decide +kernel)
set_option maxRecDepth 1000000 in
theorem rk_1_0 : rv_bth false rv_no 100 171 ([rv_mk ((-2147483648), (-1)), rv_mk ((-2147483648), (-1)), rv_mk ((-2147483648), (-1))]) = true := by decide +kernel
set_option maxRecDepth 1000000 in
theorem rk_1_1 : rv_bth false rv_no 100 171 ([rv_mk ((-2147483648), (-1)), rv_mk ((-2147483648), (-1)), rv_mk (0, 60)]) = true := by decide +kernel
set_option maxRecDepth 1000000 in
theorem rk_1_2 : rv_bth false rv_no 100 171 ([rv_mk ((-2147483648), (-1)), rv_mk ((-2147483648), (-1)), rv_mk (61, 2147483647)]) = true := by decide +kernel
set_option maxRecDepth 1000000 in
theorem rk_1_3 : rv_bth false rv_no 100 171 ([rv_mk ((-2147483648), (-1)), rv_mk (0, 3), rv_mk ((-2147483648), (-1))]) = true := by decide +kernel
set_option maxRecDepth 1000000 in
theorem rk_1_4 : rv_bth false rv_no 100 171 ([rv_mk ((-2147483648), (-1)), rv_mk (0, 3), rv_mk (0, 60)]) = true := by decide +kernel
set_option maxRecDepth 1000000 in
theorem rk_1_5 : rv_bth false rv_no 100 171 ([rv_mk ((-2147483648), (-1)), rv_mk (0, 3), rv_mk (61, 2147483647)]) = true := by decide +kernel
set_option maxRecDepth 1000000 in
theorem rk_1_6 : rv_bth false rv_no 100 171 ([rv_mk ((-2147483648), (-1)), rv_mk (4, 2147483647), rv_mk ((-2147483648), (-1))]) = true := by decide +kernel
set_option maxRecDepth 1000000 in
theorem rk_1_7 : rv_bth false rv_no 100 171 ([rv_mk ((-2147483648), (-1)), rv_mk (4, 2147483647), rv_mk (0, 60)]) = true := by decide +kernel
set_option maxRecDepth 1000000 in
theorem rk_1_8 : rv_bth false rv_no 100 171 ([rv_mk ((-2147483648), (-1)), rv_mk (4, 2147483647), rv_mk (61, 2147483647)]) = true := by decide +kernel
set_option maxRecDepth 1000000 in
theorem rk_1_9 : rv_bth false rv_no 100 171 ([rv_mk (0, 0), rv_mk ((-2147483648), (-1)), rv_mk ((-2147483648), (-1))]) = true := by decide +kernel
set_option maxRecDepth 1000000 in
theorem rk_1_10 : rv_bth false rv_no 100 171 ([rv_mk (0, 0), rv_mk ((-2147483648), (-1)), rv_mk (0, 60)]) = true := by decide +kernel
set_option maxRecDepth 1000000 in
theorem rk_1_11 : rv_bth false rv_no 100 171 ([rv_mk (0, 0), rv_mk ((-2147483648), (-1)), rv_mk (61, 2147483647)]) = true := by decide +kernel
set_option maxRecDepth 1000000 in
theorem rk_1_12 : rv_bth false rv_no 100 171 ([rv_mk (0, 0), rv_mk (0, 3), rv_mk ((-2147483648), (-1))]) = true := by decide +kernel
set_option maxRecDepth 1000000 in
theorem rk_1_13 : rv_bth false rv_no 100 171 ([rv_mk (0, 0), rv_mk (0, 3), rv_mk (0, 60)]) = true := by decide +kernel
set_option maxRecDepth 1000000 in
theorem rk_1_14 : rv_bth false rv_no 100 171 ([rv_mk (0, 0), rv_mk (0, 3), rv_mk (61, 2147483647)]) = true := by decide +kernel
set_option maxRecDepth 1000000 in
theorem rk_1_15 : rv_bth false rv_no 100 171 ([rv_mk (0, 0), rv_mk (4, 2147483647), rv_mk ((-2147483648), (-1))]) = true := by decide +kernel
set_option maxRecDepth 1000000 in
theorem rk_1_16 : rv_bth false rv_no 100 171 ([rv_mk (0, 0), rv_mk (4, 2147483647), rv_mk (0, 60)]) = true := by decide +kernel
set_option maxRecDepth 1000000 in
theorem rk_1_17 : rv_bth false rv_no 100 171 ([rv_mk (0, 0), rv_mk (4, 2147483647), rv_mk (61, 2147483647)]) = true := by decide +kernel
set_option maxRecDepth 1000000 in
theorem rk_1_18 : rv_bth false rv_no 100 171 ([rv_mk (1, 1), rv_mk ((-2147483648), (-1)), rv_mk ((-2147483648), (-1))]) = true := by decide +kernel
set_option maxRecDepth 1000000 in
theorem rk_1_19 : rv_bth false rv_no 100 171 ([rv_mk (1, 1), rv_mk ((-2147483648), (-1)), rv_mk (0, 60)]) = true := by decide +kernel
set_option maxRecDepth 1000000 in
theorem rk_1_20 : rv_bth false rv_no 100 171 ([rv_mk (1, 1), rv_mk ((-2147483648), (-1)), rv_mk (61, 2147483647)]) = true := by decide +kernel
set_option maxRecDepth 1000000 in
theorem rk_1_21 : rv_bth false rv_no 100 171 ([rv_mk (1, 1), rv_mk (0, 3), rv_mk ((-2147483648), (-1))]) = true := by decide +kernel
set_option maxRecDepth 1000000 in
theorem rk_1_22 : rv_bth false rv_no 100 171 ([rv_mk (1, 1), rv_mk (0, 3), rv_mk (0, 60)]) = true := by decide +kernel
set_option maxRecDepth 1000000 in
theorem rk_1_23 : rv_bth false rv_no 100 171 ([rv_mk (1, 1), rv_mk (0, 3), rv_mk (61, 2147483647)]) = true := by decide +kernel
set_option maxRecDepth 1000000 in
theorem rk_1_24 : rv_bth false rv_no 100 171 ([rv_mk (1, 1), rv_mk (4, 2147483647), rv_mk ((-2147483648), (-1))]) = true := by decide +kernel
set_option maxRecDepth 1000000 in
theorem rk_1_25 : rv_bth false rv_no 100 171 ([rv_mk (1, 1), rv_mk (4, 2147483647), rv_mk (0, 60)]) = true := by decide +kernel
set_option maxRecDepth 1000000 in
theorem rk_1_26 : rv_bth false rv_no 100 171 ([rv_mk (1, 1), rv_mk (4, 2147483647), rv_mk (61, 2147483647)]) = true := by decide +kernel
set_option maxRecDepth 1000000 in
theorem rk_1_27 : rv_bth false rv_no 100 171 ([rv_mk (2, 2), rv_mk ((-2147483648), (-1)), rv_mk ((-2147483648), (-1))]) = true := by decide +kernel
set_option maxRecDepth 1000000 in
theorem rk_1_28 : rv_bth false rv_no 100 171 ([rv_mk (2, 2), rv_mk ((-2147483648), (-1)), rv_mk (0, 60)]) = true := by decide +kernel
set_option maxRecDepth 1000000 in
theorem rk_1_29 : rv_bth false rv_no 100 171 ([rv_mk (2, 2), rv_mk ((-2147483648), (-1)), rv_mk (61, 2147483647)]) = true := by decide +kernel
set_option maxRecDepth 1000000 in
theorem rk_1_30 : rv_bth false rv_no 100 171 ([rv_mk (2, 2), rv_mk (0, 3), rv_mk ((-2147483648), (-1))]) = true := by decide +kernel
set_option maxRecDepth 1000000 in
theorem rk_1_31 : rv_bth false rv_no 100 171 ([rv_mk (2, 2), rv_mk (0, 3), rv_mk (0, 60)]) = true := by decide +kernel
set_option maxRecDepth 1000000 in
theorem rk_1_32 : rv_bth false rv_no 100 171 ([rv_mk (2, 2), rv_mk (0, 3), rv_mk (61, 2147483647)]) = true := by decide +kernel
set_option maxRecDepth 1000000 in
theorem rk_1_33 : rv_bth false rv_no 100 171 ([rv_mk (2, 2), rv_mk (4, 2147483647), rv_mk ((-2147483648), (-1))]) = true := by decide +kernel
set_option maxRecDepth 1000000 in
theorem rk_1_34 : rv_bth false rv_no 100 171 ([rv_mk (2, 2), rv_mk (4, 2147483647), rv_mk (0, 60)]) = true := by decide +kernel
set_option maxRecDepth 1000000 in
theorem rk_1_35 : rv_bth false rv_no 100 171 ([rv_mk (2, 2), rv_mk (4, 2147483647), rv_mk (61, 2147483647)]) = true := by decide +kernel
set_option maxRecDepth 1000000 in
theorem rk_1_36 : rv_bth false rv_no 100 171 ([rv_mk (3, 3), rv_mk ((-2147483648), (-1)), rv_mk ((-2147483648), (-1))]) = true := by decide +kernel
set_option maxRecDepth 1000000 in
theorem rk_1_37 : rv_bth false rv_no 100 171 ([rv_mk (3, 3), rv_mk ((-2147483648), (-1)), rv_mk (0, 60)]) = true := by decide +kernel
set_option maxRecDepth 1000000 in
theorem rk_1_38 : rv_bth false rv_no 100 171 ([rv_mk (3, 3), rv_mk ((-2147483648), (-1)), rv_mk (61, 2147483647)]) = true := by decide +kernel
set_option maxRecDepth 1000000 in
theorem rk_1_39 : rv_bth false rv_no 100 171 ([rv_mk (3, 3), rv_mk (0, 3), rv_mk ((-2147483648), (-1))]) = true := by decide +kernel
set_option maxRecDepth 1000000 in
theorem rk_1_40 : rv_bth false rv_no 100 171 ([rv_mk (3, 3), rv_mk (0, 3), rv_mk (0, 60)]) = true := by decide +kernel
set_option maxRecDepth 1000000 in
theorem rk_1_41 : rv_bth false rv_no 100 171 ([rv_mk (3, 3), rv_mk (0, 3), rv_mk (61, 2147483647)]) = true := by decide +kernel
set_option maxRecDepth 1000000 in
theorem rk_1_42 : rv_bth false rv_no 100 171 ([rv_mk (3, 3), rv_mk (4, 2147483647), rv_mk ((-2147483648), (-1))]) = true := by decide +kernel
set_option maxRecDepth 1000000 in
theorem rk_1_43 : rv_bth false rv_no 100 171 ([rv_mk (3, 3), rv_mk (4, 2147483647), rv_mk (0, 60)]) = true := by decide +kernel
set_option maxRecDepth 1000000 in
theorem rk_1_44 : rv_bth false rv_no 100 171 ([rv_mk (3, 3), rv_mk (4, 2147483647), rv_mk (61, 2147483647)]) = true := by decide +kernel
set_option maxRecDepth 1000000 in
theorem rk_1_45 : rv_bth false rv_no 100 171 ([rv_mk (4, 2147483647), rv_mk ((-2147483648), (-1)), rv_mk ((-2147483648), (-1))]) = true := by decide +kernel
set_option maxRecDepth 1000000 in
theorem rk_1_46 : rv_bth false rv_no 100 171 ([rv_mk (4, 2147483647), rv_mk ((-2147483648), (-1)), rv_mk (0, 60)]) = true := by decide +kernel
set_option maxRecDepth 1000000 in
theorem rk_1_47 : rv_bth false rv_no 100 171 ([rv_mk (4, 2147483647), rv_mk ((-2147483648), (-1)), rv_mk (61, 2147483647)]) = true := by decide +kernel
set_option maxRecDepth 1000000 in
theorem rk_1_48 : rv_bth false rv_no 100 171 ([rv_mk (4, 2147483647), rv_mk (0, 3), rv_mk ((-2147483648), (-1))]) = true := by decide +kernel
set_option maxRecDepth 1000000 in
theorem rk_1_49 : rv_bth false rv_no 100 171 ([rv_mk (4, 2147483647), rv_mk (0, 3), rv_mk (0, 60)]) = true := by decide +kernel
set_option maxRecDepth 1000000 in
theorem rk_1_50 : rv_bth false rv_no 100 171 ([rv_mk (4, 2147483647), rv_mk (0, 3), rv_mk (61, 2147483647)]) = true := by decide +kernel
set_option maxRecDepth 1000000 in
theorem rk_1_51 : rv_bth false rv_no 100 171 ([rv_mk (4, 2147483647), rv_mk (4, 2147483647), rv_mk ((-2147483648), (-1))]) = true := by decide +kernel
set_option maxRecDepth 1000000 in
theorem rk_1_52 : rv_bth false rv_no 100 171 ([rv_mk (4, 2147483647), rv_mk (4, 2147483647), rv_mk (0, 60)]) = true := by decide +kernel
set_option maxRecDepth 1000000 in
theorem rk_1_53 : rv_bth false rv_no 100 171 ([rv_mk (4, 2147483647), rv_mk (4, 2147483647), rv_mk (61, 2147483647)]) = true := by decide +kernel
theorem rk_1 : ∀ as ∈ rv_prod rk_p1, rv_bth false rv_no 100 171 (as) = true := by
  show ∀ as ∈ [[rv_mk ((-2147483648), (-1)), rv_mk ((-2147483648), (-1)), rv_mk ((-2147483648), (-1))], [rv_mk ((-2147483648), (-1)), rv_mk ((-2147483648), (-1)), rv_mk (0, 60)], [rv_mk ((-2147483648), (-1)), rv_mk ((-2147483648), (-1)), rv_mk (61, 2147483647)], [rv_mk ((-2147483648), (-1)), rv_mk (0, 3), rv_mk ((-2147483648), (-1))], [rv_mk ((-2147483648), (-1)), rv_mk (0, 3), rv_mk (0, 60)], [rv_mk ((-2147483648), (-1)), rv_mk (0, 3), rv_mk (61, 2147483647)], [rv_mk ((-2147483648), (-1)), rv_mk (4, 2147483647), rv_mk ((-2147483648), (-1))], [rv_mk ((-2147483648), (-1)), rv_mk (4, 2147483647), rv_mk (0, 60)], [rv_mk ((-2147483648), (-1)), rv_mk (4, 2147483647), rv_mk (61, 2147483647)], [rv_mk (0, 0), rv_mk ((-2147483648), (-1)), rv_mk ((-2147483648), (-1))], [rv_mk (0, 0), rv_mk ((-2147483648), (-1)), rv_mk (0, 60)], [rv_mk (0, 0), rv_mk ((-2147483648), (-1)), rv_mk (61, 2147483647)], [rv_mk (0, 0), rv_mk (0, 3), rv_mk ((-2147483648), (-1))], [rv_mk (0, 0), rv_mk (0, 3), rv_mk (0, 60)], [rv_mk (0, 0), rv_mk (0, 3), rv_mk (61, 2147483647)], [rv_mk (0, 0), rv_mk (4, 2147483647), rv_mk ((-2147483648), (-1))], [rv_mk (0, 0), rv_mk (4, 2147483647), rv_mk (0, 60)], [rv_mk (0, 0), rv_mk (4, 2147483647), rv_mk (61, 2147483647)], [rv_mk (1, 1), rv_mk ((-2147483648), (-1)), rv_mk ((-2147483648), (-1))], [rv_mk (1, 1), rv_mk ((-2147483648), (-1)), rv_mk (0, 60)], [rv_mk (1, 1), rv_mk ((-2147483648), (-1)), rv_mk (61, 2147483647)], [rv_mk (1, 1), rv_mk (0, 3), rv_mk ((-2147483648), (-1))], [rv_mk (1, 1), rv_mk (0, 3), rv_mk (0, 60)], [rv_mk (1, 1), rv_mk (0, 3), rv_mk (61, 2147483647)], [rv_mk (1, 1), rv_mk (4, 2147483647), rv_mk ((-2147483648), (-1))], [rv_mk (1, 1), rv_mk (4, 2147483647), rv_mk (0, 60)], [rv_mk (1, 1), rv_mk (4, 2147483647), rv_mk (61, 2147483647)], [rv_mk (2, 2), rv_mk ((-2147483648), (-1)), rv_mk ((-2147483648), (-1))], [rv_mk (2, 2), rv_mk ((-2147483648), (-1)), rv_mk (0, 60)], [rv_mk (2, 2), rv_mk ((-2147483648), (-1)), rv_mk (61, 2147483647)], [rv_mk (2, 2), rv_mk (0, 3), rv_mk ((-2147483648), (-1))], [rv_mk (2, 2), rv_mk (0, 3), rv_mk (0, 60)], [rv_mk (2, 2), rv_mk (0, 3), rv_mk (61, 2147483647)], [rv_mk (2, 2), rv_mk (4, 2147483647), rv_mk ((-2147483648), (-1))], [rv_mk (2, 2), rv_mk (4, 2147483647), rv_mk (0, 60)], [rv_mk (2, 2), rv_mk (4, 2147483647), rv_mk (61, 2147483647)], [rv_mk (3, 3), rv_mk ((-2147483648), (-1)), rv_mk ((-2147483648), (-1))], [rv_mk (3, 3), rv_mk ((-2147483648), (-1)), rv_mk (0, 60)], [rv_mk (3, 3), rv_mk ((-2147483648), (-1)), rv_mk (61, 2147483647)], [rv_mk (3, 3), rv_mk (0, 3), rv_mk ((-2147483648), (-1))], [rv_mk (3, 3), rv_mk (0, 3), rv_mk (0, 60)], [rv_mk (3, 3), rv_mk (0, 3), rv_mk (61, 2147483647)], [rv_mk (3, 3), rv_mk (4, 2147483647), rv_mk ((-2147483648), (-1))], [rv_mk (3, 3), rv_mk (4, 2147483647), rv_mk (0, 60)], [rv_mk (3, 3), rv_mk (4, 2147483647), rv_mk (61, 2147483647)], [rv_mk (4, 2147483647), rv_mk ((-2147483648), (-1)), rv_mk ((-2147483648), (-1))], [rv_mk (4, 2147483647), rv_mk ((-2147483648), (-1)), rv_mk (0, 60)], [rv_mk (4, 2147483647), rv_mk ((-2147483648), (-1)), rv_mk (61, 2147483647)], [rv_mk (4, 2147483647), rv_mk (0, 3), rv_mk ((-2147483648), (-1))], [rv_mk (4, 2147483647), rv_mk (0, 3), rv_mk (0, 60)], [rv_mk (4, 2147483647), rv_mk (0, 3), rv_mk (61, 2147483647)], [rv_mk (4, 2147483647), rv_mk (4, 2147483647), rv_mk ((-2147483648), (-1))], [rv_mk (4, 2147483647), rv_mk (4, 2147483647), rv_mk (0, 60)], [rv_mk (4, 2147483647), rv_mk (4, 2147483647), rv_mk (61, 2147483647)]], _
  exact List.forall_mem_cons.mpr ⟨rk_1_0, List.forall_mem_cons.mpr ⟨rk_1_1, List.forall_mem_cons.mpr ⟨rk_1_2, List.forall_mem_cons.mpr ⟨rk_1_3, List.forall_mem_cons.mpr ⟨rk_1_4, List.forall_mem_cons.mpr ⟨rk_1_5, List.forall_mem_cons.mpr ⟨rk_1_6, List.forall_mem_cons.mpr ⟨rk_1_7, List.forall_mem_cons.mpr ⟨rk_1_8, List.forall_mem_cons.mpr ⟨rk_1_9, List.forall_mem_cons.mpr ⟨rk_1_10, List.forall_mem_cons.mpr ⟨rk_1_11, List.forall_mem_cons.mpr ⟨rk_1_12, List.forall_mem_cons.mpr ⟨rk_1_13, List.forall_mem_cons.mpr ⟨rk_1_14, List.forall_mem_cons.mpr ⟨rk_1_15, List.forall_mem_cons.mpr ⟨rk_1_16, List.forall_mem_cons.mpr ⟨rk_1_17, List.forall_mem_cons.mpr ⟨rk_1_18, List.forall_mem_cons.mpr ⟨rk_1_19, List.forall_mem_cons.mpr ⟨rk_1_20, List.forall_mem_cons.mpr ⟨rk_1_21, List.forall_mem_cons.mpr ⟨rk_1_22, List.forall_mem_cons.mpr ⟨rk_1_23, List.forall_mem_cons.mpr ⟨rk_1_24, List.forall_mem_cons.mpr ⟨rk_1_25, List.forall_mem_cons.mpr ⟨rk_1_26, List.forall_mem_cons.mpr ⟨rk_1_27, List.forall_mem_cons.mpr ⟨rk_1_28, List.forall_mem_cons.mpr ⟨rk_1_29, List.forall_mem_cons.mpr ⟨rk_1_30, List.forall_mem_cons.mpr ⟨rk_1_31, List.forall_mem_cons.mpr ⟨rk_1_32, List.forall_mem_cons.mpr ⟨rk_1_33, List.forall_mem_cons.mpr ⟨rk_1_34, List.forall_mem_cons.mpr ⟨rk_1_35, List.forall_mem_cons.mpr ⟨rk_1_36, List.forall_mem_cons.mpr ⟨rk_1_37, List.forall_mem_cons.mpr ⟨rk_1_38, List.forall_mem_cons.mpr ⟨rk_1_39, List.forall_mem_cons.mpr ⟨rk_1_40, List.forall_mem_cons.mpr ⟨rk_1_41, List.forall_mem_cons.mpr ⟨rk_1_42, List.forall_mem_cons.mpr ⟨rk_1_43, List.forall_mem_cons.mpr ⟨rk_1_44, List.forall_mem_cons.mpr ⟨rk_1_45, List.forall_mem_cons.mpr ⟨rk_1_46, List.forall_mem_cons.mpr ⟨rk_1_47, List.forall_mem_cons.mpr ⟨rk_1_48, List.forall_mem_cons.mpr ⟨rk_1_49, List.forall_mem_cons.mpr ⟨rk_1_50, List.forall_mem_cons.mpr ⟨rk_1_51, List.forall_mem_cons.mpr ⟨rk_1_52, List.forall_mem_cons.mpr ⟨rk_1_53, fun _ h => absurd h List.not_mem_nil⟩⟩⟩⟩⟩⟩⟩⟩⟩⟩⟩⟩⟩⟩⟩⟩⟩⟩⟩⟩⟩⟩⟩⟩⟩⟩⟩⟩⟩⟩⟩⟩⟩⟩⟩⟩⟩⟩⟩⟩⟩⟩⟩⟩⟩⟩⟩⟩⟩⟩⟩⟩⟩⟩
def rk_p2 : List (List (Int32 × Int32)) := [[((-2147483648), (-1)), (0, 0), (1, 1), (2, 2), (3, 3), (4, 2147483647)], [((-2147483648), 2147483647)]]
theorem rk_c2 : ∀ p ∈ rk_p2, rv_cov (-2147483648) p = true := List.all_eq_true.mp (show rk_p2.all (rv_cov (-2147483648)) = true by decide +kernel)
set_option maxRecDepth 1000000 in
theorem rk_2 : ∀ as ∈ rv_prod rk_p2, rv_bth false rv_no 105 178 (as ++ [rv_sym 0]) = true := List.all_eq_true.mp (show (rv_prod rk_p2).all (fun as => rv_bth false rv_no 105 178 (as ++ [rv_sym 0])) = true by decide +kernel)
def rk_p3 : List (List (Int32 × Int32)) := [[((-2147483648), (-1)), (0, 0), (1, 1), (2, 2), (3, 3), (4, 2147483647)], [((-2147483648), 2147483647)]]
theorem rk_c3 : ∀ p ∈ rk_p3, rv_cov (-2147483648) p = true := List.all_eq_true.mp (show rk_p3.all (rv_cov (-2147483648)) = true by decide +kernel)
set_option maxRecDepth 1000000 in
theorem rk_3 : ∀ as ∈ rv_prod rk_p3, rv_bth true rv_no 89 155 (as) = true := List.all_eq_true.mp (show (rv_prod rk_p3).all (fun as => rv_bth true rv_no 89 155 (as)) = true by decide +kernel)
def rk_p4 : List (List (Int32 × Int32)) := [[((-2147483648), (-1)), (0, 0), (1, 1), (2, 2), (3, 3), (4, 2147483647)], [((-2147483648), 2147483647)], [((-2147483648), (-1)), (0, 0), (1, 1), (2, 2), (3, 3), (4, 2147483647)], [((-2147483648), 2147483647)], [((-2147483648), 2147483647)]]
theorem rk_c4 : ∀ p ∈ rk_p4, rv_cov (-2147483648) p = true := List.all_eq_true.mp (show rk_p4.all (rv_cov (-2147483648)) = true by decide +kernel)
set_option maxRecDepth 1000000 in
theorem rk_4_0 : rv_bth false rv_no 86 152 ([rv_mk ((-2147483648), (-1)), rv_mk ((-2147483648), 2147483647), rv_mk ((-2147483648), (-1)), rv_mk ((-2147483648), 2147483647), rv_mk ((-2147483648), 2147483647)]) = true := by decide +kernel
set_option maxRecDepth 1000000 in
theorem rk_4_1 : rv_bth false rv_no 86 152 ([rv_mk ((-2147483648), (-1)), rv_mk ((-2147483648), 2147483647), rv_mk (0, 0), rv_mk ((-2147483648), 2147483647), rv_mk ((-2147483648), 2147483647)]) = true := by decide +kernel
set_option maxRecDepth 1000000 in
theorem rk_4_2 : rv_bth false rv_no 86 152 ([rv_mk ((-2147483648), (-1)), rv_mk ((-2147483648), 2147483647), rv_mk (1, 1), rv_mk ((-2147483648), 2147483647), rv_mk ((-2147483648), 2147483647)]) = true := by decide +kernel
set_option maxRecDepth 1000000 in
theorem rk_4_3 : rv_bth false rv_no 86 152 ([rv_mk ((-2147483648), (-1)), rv_mk ((-2147483648), 2147483647), rv_mk (2, 2), rv_mk ((-2147483648), 2147483647), rv_mk ((-2147483648), 2147483647)]) = true := by decide +kernel
set_option maxRecDepth 1000000 in
theorem rk_4_4 : rv_bth false rv_no 86 152 ([rv_mk ((-2147483648), (-1)), rv_mk ((-2147483648), 2147483647), rv_mk (3, 3), rv_mk ((-2147483648), 2147483647), rv_mk ((-2147483648), 2147483647)]) = true := by decide +kernel
set_option maxRecDepth 1000000 in
theorem rk_4_5 : rv_bth false rv_no 86 152 ([rv_mk ((-2147483648), (-1)), rv_mk ((-2147483648), 2147483647), rv_mk (4, 2147483647), rv_mk ((-2147483648), 2147483647), rv_mk ((-2147483648), 2147483647)]) = true := by decide +kernel
set_option maxRecDepth 1000000 in
theorem rk_4_6 : rv_bth false rv_no 86 152 ([rv_mk (0, 0), rv_mk ((-2147483648), 2147483647), rv_mk ((-2147483648), (-1)), rv_mk ((-2147483648), 2147483647), rv_mk ((-2147483648), 2147483647)]) = true := by decide +kernel
set_option maxRecDepth 1000000 in
theorem rk_4_7 : rv_bth false rv_no 86 152 ([rv_mk (0, 0), rv_mk ((-2147483648), 2147483647), rv_mk (0, 0), rv_mk ((-2147483648), 2147483647), rv_mk ((-2147483648), 2147483647)]) = true := by decide +kernel
set_option maxRecDepth 1000000 in
theorem rk_4_8 : rv_bth false rv_no 86 152 ([rv_mk (0, 0), rv_mk ((-2147483648), 2147483647), rv_mk (1, 1), rv_mk ((-2147483648), 2147483647), rv_mk ((-2147483648), 2147483647)]) = true := by decide +kernel
set_option maxRecDepth 1000000 in
theorem rk_4_9 : rv_bth false rv_no 86 152 ([rv_mk (0, 0), rv_mk ((-2147483648), 2147483647), rv_mk (2, 2), rv_mk ((-2147483648), 2147483647), rv_mk ((-2147483648), 2147483647)]) = true := by decide +kernel
set_option maxRecDepth 1000000 in
theorem rk_4_10 : rv_bth false rv_no 86 152 ([rv_mk (0, 0), rv_mk ((-2147483648), 2147483647), rv_mk (3, 3), rv_mk ((-2147483648), 2147483647), rv_mk ((-2147483648), 2147483647)]) = true := by decide +kernel
set_option maxRecDepth 1000000 in
theorem rk_4_11 : rv_bth false rv_no 86 152 ([rv_mk (0, 0), rv_mk ((-2147483648), 2147483647), rv_mk (4, 2147483647), rv_mk ((-2147483648), 2147483647), rv_mk ((-2147483648), 2147483647)]) = true := by decide +kernel
set_option maxRecDepth 1000000 in
theorem rk_4_12 : rv_bth false rv_no 86 152 ([rv_mk (1, 1), rv_mk ((-2147483648), 2147483647), rv_mk ((-2147483648), (-1)), rv_mk ((-2147483648), 2147483647), rv_mk ((-2147483648), 2147483647)]) = true := by decide +kernel
set_option maxRecDepth 1000000 in
theorem rk_4_13 : rv_bth false rv_no 86 152 ([rv_mk (1, 1), rv_mk ((-2147483648), 2147483647), rv_mk (0, 0), rv_mk ((-2147483648), 2147483647), rv_mk ((-2147483648), 2147483647)]) = true := by decide +kernel
set_option maxRecDepth 1000000 in
theorem rk_4_14 : rv_bth false rv_no 86 152 ([rv_mk (1, 1), rv_mk ((-2147483648), 2147483647), rv_mk (1, 1), rv_mk ((-2147483648), 2147483647), rv_mk ((-2147483648), 2147483647)]) = true := by decide +kernel
set_option maxRecDepth 1000000 in
theorem rk_4_15 : rv_bth false rv_no 86 152 ([rv_mk (1, 1), rv_mk ((-2147483648), 2147483647), rv_mk (2, 2), rv_mk ((-2147483648), 2147483647), rv_mk ((-2147483648), 2147483647)]) = true := by decide +kernel
set_option maxRecDepth 1000000 in
theorem rk_4_16 : rv_bth false rv_no 86 152 ([rv_mk (1, 1), rv_mk ((-2147483648), 2147483647), rv_mk (3, 3), rv_mk ((-2147483648), 2147483647), rv_mk ((-2147483648), 2147483647)]) = true := by decide +kernel
set_option maxRecDepth 1000000 in
theorem rk_4_17 : rv_bth false rv_no 86 152 ([rv_mk (1, 1), rv_mk ((-2147483648), 2147483647), rv_mk (4, 2147483647), rv_mk ((-2147483648), 2147483647), rv_mk ((-2147483648), 2147483647)]) = true := by decide +kernel
set_option maxRecDepth 1000000 in
theorem rk_4_18 : rv_bth false rv_no 86 152 ([rv_mk (2, 2), rv_mk ((-2147483648), 2147483647), rv_mk ((-2147483648), (-1)), rv_mk ((-2147483648), 2147483647), rv_mk ((-2147483648), 2147483647)]) = true := by decide +kernel
set_option maxRecDepth 1000000 in
theorem rk_4_19 : rv_bth false rv_no 86 152 ([rv_mk (2, 2), rv_mk ((-2147483648), 2147483647), rv_mk (0, 0), rv_mk ((-2147483648), 2147483647), rv_mk ((-2147483648), 2147483647)]) = true := by decide +kernel
set_option maxRecDepth 1000000 in
theorem rk_4_20 : rv_bth false rv_no 86 152 ([rv_mk (2, 2), rv_mk ((-2147483648), 2147483647), rv_mk (1, 1), rv_mk ((-2147483648), 2147483647), rv_mk ((-2147483648), 2147483647)]) = true := by decide +kernel
set_option maxRecDepth 1000000 in
theorem rk_4_21 : rv_bth false rv_no 86 152 ([rv_mk (2, 2), rv_mk ((-2147483648), 2147483647), rv_mk (2, 2), rv_mk ((-2147483648), 2147483647), rv_mk ((-2147483648), 2147483647)]) = true := by decide +kernel
set_option maxRecDepth 1000000 in
theorem rk_4_22 : rv_bth false rv_no 86 152 ([rv_mk (2, 2), rv_mk ((-2147483648), 2147483647), rv_mk (3, 3), rv_mk ((-2147483648), 2147483647), rv_mk ((-2147483648), 2147483647)]) = true := by decide +kernel
set_option maxRecDepth 1000000 in
theorem rk_4_23 : rv_bth false rv_no 86 152 ([rv_mk (2, 2), rv_mk ((-2147483648), 2147483647), rv_mk (4, 2147483647), rv_mk ((-2147483648), 2147483647), rv_mk ((-2147483648), 2147483647)]) = true := by decide +kernel
set_option maxRecDepth 1000000 in
theorem rk_4_24 : rv_bth false rv_no 86 152 ([rv_mk (3, 3), rv_mk ((-2147483648), 2147483647), rv_mk ((-2147483648), (-1)), rv_mk ((-2147483648), 2147483647), rv_mk ((-2147483648), 2147483647)]) = true := by decide +kernel
set_option maxRecDepth 1000000 in
theorem rk_4_25 : rv_bth false rv_no 86 152 ([rv_mk (3, 3), rv_mk ((-2147483648), 2147483647), rv_mk (0, 0), rv_mk ((-2147483648), 2147483647), rv_mk ((-2147483648), 2147483647)]) = true := by decide +kernel
set_option maxRecDepth 1000000 in
theorem rk_4_26 : rv_bth false rv_no 86 152 ([rv_mk (3, 3), rv_mk ((-2147483648), 2147483647), rv_mk (1, 1), rv_mk ((-2147483648), 2147483647), rv_mk ((-2147483648), 2147483647)]) = true := by decide +kernel
set_option maxRecDepth 1000000 in
theorem rk_4_27 : rv_bth false rv_no 86 152 ([rv_mk (3, 3), rv_mk ((-2147483648), 2147483647), rv_mk (2, 2), rv_mk ((-2147483648), 2147483647), rv_mk ((-2147483648), 2147483647)]) = true := by decide +kernel
set_option maxRecDepth 1000000 in
theorem rk_4_28 : rv_bth false rv_no 86 152 ([rv_mk (3, 3), rv_mk ((-2147483648), 2147483647), rv_mk (3, 3), rv_mk ((-2147483648), 2147483647), rv_mk ((-2147483648), 2147483647)]) = true := by decide +kernel
set_option maxRecDepth 1000000 in
theorem rk_4_29 : rv_bth false rv_no 86 152 ([rv_mk (3, 3), rv_mk ((-2147483648), 2147483647), rv_mk (4, 2147483647), rv_mk ((-2147483648), 2147483647), rv_mk ((-2147483648), 2147483647)]) = true := by decide +kernel
set_option maxRecDepth 1000000 in
theorem rk_4_30 : rv_bth false rv_no 86 152 ([rv_mk (4, 2147483647), rv_mk ((-2147483648), 2147483647), rv_mk ((-2147483648), (-1)), rv_mk ((-2147483648), 2147483647), rv_mk ((-2147483648), 2147483647)]) = true := by decide +kernel
set_option maxRecDepth 1000000 in
theorem rk_4_31 : rv_bth false rv_no 86 152 ([rv_mk (4, 2147483647), rv_mk ((-2147483648), 2147483647), rv_mk (0, 0), rv_mk ((-2147483648), 2147483647), rv_mk ((-2147483648), 2147483647)]) = true := by decide +kernel
set_option maxRecDepth 1000000 in
theorem rk_4_32 : rv_bth false rv_no 86 152 ([rv_mk (4, 2147483647), rv_mk ((-2147483648), 2147483647), rv_mk (1, 1), rv_mk ((-2147483648), 2147483647), rv_mk ((-2147483648), 2147483647)]) = true := by decide +kernel
set_option maxRecDepth 1000000 in
theorem rk_4_33 : rv_bth false rv_no 86 152 ([rv_mk (4, 2147483647), rv_mk ((-2147483648), 2147483647), rv_mk (2, 2), rv_mk ((-2147483648), 2147483647), rv_mk ((-2147483648), 2147483647)]) = true := by decide +kernel
set_option maxRecDepth 1000000 in
theorem rk_4_34 : rv_bth false rv_no 86 152 ([rv_mk (4, 2147483647), rv_mk ((-2147483648), 2147483647), rv_mk (3, 3), rv_mk ((-2147483648), 2147483647), rv_mk ((-2147483648), 2147483647)]) = true := by decide +kernel
set_option maxRecDepth 1000000 in
theorem rk_4_35 : rv_bth false rv_no 86 152 ([rv_mk (4, 2147483647), rv_mk ((-2147483648), 2147483647), rv_mk (4, 2147483647), rv_mk ((-2147483648), 2147483647), rv_mk ((-2147483648), 2147483647)]) = true := by decide +kernel
theorem rk_4 : ∀ as ∈ rv_prod rk_p4, rv_bth false rv_no 86 152 (as) = true := by
  show ∀ as ∈ [[rv_mk ((-2147483648), (-1)), rv_mk ((-2147483648), 2147483647), rv_mk ((-2147483648), (-1)), rv_mk ((-2147483648), 2147483647), rv_mk ((-2147483648), 2147483647)], [rv_mk ((-2147483648), (-1)), rv_mk ((-2147483648), 2147483647), rv_mk (0, 0), rv_mk ((-2147483648), 2147483647), rv_mk ((-2147483648), 2147483647)], [rv_mk ((-2147483648), (-1)), rv_mk ((-2147483648), 2147483647), rv_mk (1, 1), rv_mk ((-2147483648), 2147483647), rv_mk ((-2147483648), 2147483647)], [rv_mk ((-2147483648), (-1)), rv_mk ((-2147483648), 2147483647), rv_mk (2, 2), rv_mk ((-2147483648), 2147483647), rv_mk ((-2147483648), 2147483647)], [rv_mk ((-2147483648), (-1)), rv_mk ((-2147483648), 2147483647), rv_mk (3, 3), rv_mk ((-2147483648), 2147483647), rv_mk ((-2147483648), 2147483647)], [rv_mk ((-2147483648), (-1)), rv_mk ((-2147483648), 2147483647), rv_mk (4, 2147483647), rv_mk ((-2147483648), 2147483647), rv_mk ((-2147483648), 2147483647)], [rv_mk (0, 0), rv_mk ((-2147483648), 2147483647), rv_mk ((-2147483648), (-1)), rv_mk ((-2147483648), 2147483647), rv_mk ((-2147483648), 2147483647)], [rv_mk (0, 0), rv_mk ((-2147483648), 2147483647), rv_mk (0, 0), rv_mk ((-2147483648), 2147483647), rv_mk ((-2147483648), 2147483647)], [rv_mk (0, 0), rv_mk ((-2147483648), 2147483647), rv_mk (1, 1), rv_mk ((-2147483648), 2147483647), rv_mk ((-2147483648), 2147483647)], [rv_mk (0, 0), rv_mk ((-2147483648), 2147483647), rv_mk (2, 2), rv_mk ((-2147483648), 2147483647), rv_mk ((-2147483648), 2147483647)], [rv_mk (0, 0), rv_mk ((-2147483648), 2147483647), rv_mk (3, 3), rv_mk ((-2147483648), 2147483647), rv_mk ((-2147483648), 2147483647)], [rv_mk (0, 0), rv_mk ((-2147483648), 2147483647), rv_mk (4, 2147483647), rv_mk ((-2147483648), 2147483647), rv_mk ((-2147483648), 2147483647)], [rv_mk (1, 1), rv_mk ((-2147483648), 2147483647), rv_mk ((-2147483648), (-1)), rv_mk ((-2147483648), 2147483647), rv_mk ((-2147483648), 2147483647)], [rv_mk (1, 1), rv_mk ((-2147483648), 2147483647), rv_mk (0, 0), rv_mk ((-2147483648), 2147483647), rv_mk ((-2147483648), 2147483647)], [rv_mk (1, 1), rv_mk ((-2147483648), 2147483647), rv_mk (1, 1), rv_mk ((-2147483648), 2147483647), rv_mk ((-2147483648), 2147483647)], [rv_mk (1, 1), rv_mk ((-2147483648), 2147483647), rv_mk (2, 2), rv_mk ((-2147483648), 2147483647), rv_mk ((-2147483648), 2147483647)], [rv_mk (1, 1), rv_mk ((-2147483648), 2147483647), rv_mk (3, 3), rv_mk ((-2147483648), 2147483647), rv_mk ((-2147483648), 2147483647)], [rv_mk (1, 1), rv_mk ((-2147483648), 2147483647), rv_mk (4, 2147483647), rv_mk ((-2147483648), 2147483647), rv_mk ((-2147483648), 2147483647)], [rv_mk (2, 2), rv_mk ((-2147483648), 2147483647), rv_mk ((-2147483648), (-1)), rv_mk ((-2147483648), 2147483647), rv_mk ((-2147483648), 2147483647)], [rv_mk (2, 2), rv_mk ((-2147483648), 2147483647), rv_mk (0, 0), rv_mk ((-2147483648), 2147483647), rv_mk ((-2147483648), 2147483647)], [rv_mk (2, 2), rv_mk ((-2147483648), 2147483647), rv_mk (1, 1), rv_mk ((-2147483648), 2147483647), rv_mk ((-2147483648), 2147483647)], [rv_mk (2, 2), rv_mk ((-2147483648), 2147483647), rv_mk (2, 2), rv_mk ((-2147483648), 2147483647), rv_mk ((-2147483648), 2147483647)], [rv_mk (2, 2), rv_mk ((-2147483648), 2147483647), rv_mk (3, 3), rv_mk ((-2147483648), 2147483647), rv_mk ((-2147483648), 2147483647)], [rv_mk (2, 2), rv_mk ((-2147483648), 2147483647), rv_mk (4, 2147483647), rv_mk ((-2147483648), 2147483647), rv_mk ((-2147483648), 2147483647)], [rv_mk (3, 3), rv_mk ((-2147483648), 2147483647), rv_mk ((-2147483648), (-1)), rv_mk ((-2147483648), 2147483647), rv_mk ((-2147483648), 2147483647)], [rv_mk (3, 3), rv_mk ((-2147483648), 2147483647), rv_mk (0, 0), rv_mk ((-2147483648), 2147483647), rv_mk ((-2147483648), 2147483647)], [rv_mk (3, 3), rv_mk ((-2147483648), 2147483647), rv_mk (1, 1), rv_mk ((-2147483648), 2147483647), rv_mk ((-2147483648), 2147483647)], [rv_mk (3, 3), rv_mk ((-2147483648), 2147483647), rv_mk (2, 2), rv_mk ((-2147483648), 2147483647), rv_mk ((-2147483648), 2147483647)], [rv_mk (3, 3), rv_mk ((-2147483648), 2147483647), rv_mk (3, 3), rv_mk ((-2147483648), 2147483647), rv_mk ((-2147483648), 2147483647)], [rv_mk (3, 3), rv_mk ((-2147483648), 2147483647), rv_mk (4, 2147483647), rv_mk ((-2147483648), 2147483647), rv_mk ((-2147483648), 2147483647)], [rv_mk (4, 2147483647), rv_mk ((-2147483648), 2147483647), rv_mk ((-2147483648), (-1)), rv_mk ((-2147483648), 2147483647), rv_mk ((-2147483648), 2147483647)], [rv_mk (4, 2147483647), rv_mk ((-2147483648), 2147483647), rv_mk (0, 0), rv_mk ((-2147483648), 2147483647), rv_mk ((-2147483648), 2147483647)], [rv_mk (4, 2147483647), rv_mk ((-2147483648), 2147483647), rv_mk (1, 1), rv_mk ((-2147483648), 2147483647), rv_mk ((-2147483648), 2147483647)], [rv_mk (4, 2147483647), rv_mk ((-2147483648), 2147483647), rv_mk (2, 2), rv_mk ((-2147483648), 2147483647), rv_mk ((-2147483648), 2147483647)], [rv_mk (4, 2147483647), rv_mk ((-2147483648), 2147483647), rv_mk (3, 3), rv_mk ((-2147483648), 2147483647), rv_mk ((-2147483648), 2147483647)], [rv_mk (4, 2147483647), rv_mk ((-2147483648), 2147483647), rv_mk (4, 2147483647), rv_mk ((-2147483648), 2147483647), rv_mk ((-2147483648), 2147483647)]], _
  exact List.forall_mem_cons.mpr ⟨rk_4_0, List.forall_mem_cons.mpr ⟨rk_4_1, List.forall_mem_cons.mpr ⟨rk_4_2, List.forall_mem_cons.mpr ⟨rk_4_3, List.forall_mem_cons.mpr ⟨rk_4_4, List.forall_mem_cons.mpr ⟨rk_4_5, List.forall_mem_cons.mpr ⟨rk_4_6, List.forall_mem_cons.mpr ⟨rk_4_7, List.forall_mem_cons.mpr ⟨rk_4_8, List.forall_mem_cons.mpr ⟨rk_4_9, List.forall_mem_cons.mpr ⟨rk_4_10, List.forall_mem_cons.mpr ⟨rk_4_11, List.forall_mem_cons.mpr ⟨rk_4_12, List.forall_mem_cons.mpr ⟨rk_4_13, List.forall_mem_cons.mpr ⟨rk_4_14, List.forall_mem_cons.mpr ⟨rk_4_15, List.forall_mem_cons.mpr ⟨rk_4_16, List.forall_mem_cons.mpr ⟨rk_4_17, List.forall_mem_cons.mpr ⟨rk_4_18, List.forall_mem_cons.mpr ⟨rk_4_19, List.forall_mem_cons.mpr ⟨rk_4_20, List.forall_mem_cons.mpr ⟨rk_4_21, List.forall_mem_cons.mpr ⟨rk_4_22, List.forall_mem_cons.mpr ⟨rk_4_23, List.forall_mem_cons.mpr ⟨rk_4_24, List.forall_mem_cons.mpr ⟨rk_4_25, List.forall_mem_cons.mpr ⟨rk_4_26, List.forall_mem_cons.mpr ⟨rk_4_27, List.forall_mem_cons.mpr ⟨rk_4_28, List.forall_mem_cons.mpr ⟨rk_4_29, List.forall_mem_cons.mpr ⟨rk_4_30, List.forall_mem_cons.mpr ⟨rk_4_31, List.forall_mem_cons.mpr ⟨rk_4_32, List.forall_mem_cons.mpr ⟨rk_4_33, List.forall_mem_cons.mpr ⟨rk_4_34, List.forall_mem_cons.mpr ⟨rk_4_35, fun _ h => absurd h List.not_mem_nil⟩⟩⟩⟩⟩⟩⟩⟩⟩⟩⟩⟩⟩⟩⟩⟩⟩⟩⟩⟩⟩⟩⟩⟩⟩⟩⟩⟩⟩⟩⟩⟩⟩⟩⟩⟩
def rk_p6 : List (List (Int32 × Int32)) := [[((-2147483648), 0), (1, 255), (256, 2147483647)]]
theorem rk_c6 : ∀ p ∈ rk_p6, rv_cov (-2147483648) p = true := List.all_eq_true.mp (show rk_p6.all (rv_cov (-2147483648)) = true by decide +kernel)
set_option maxRecDepth 1000000 in
theorem rk_6 : ∀ as ∈ rv_prod rk_p6, rv_bth false rv_no 93 163 (as) = true := List.all_eq_true.mp (show (rv_prod rk_p6).all (fun as => rv_bth false rv_no 93 163 (as)) = true by decide +kernel)
def rk_p7 : List (List (Int32 × Int32)) := [[((-2147483648), (-1)), (0, 2147483647)], [((-2147483648), (-1)), (0, 2147483647)]]
theorem rk_c7 : ∀ p ∈ rk_p7, rv_cov (-2147483648) p = true := List.all_eq_true.mp (show rk_p7.all (rv_cov (-2147483648)) = true by decide +kernel)
set_option maxRecDepth 1000000 in
theorem rk_7 : ∀ as ∈ rv_prod rk_p7, rv_bth false rv_no 80 144 (as ++ [rv_rng (0) (1)]) = true := List.all_eq_true.mp (show (rv_prod rk_p7).all (fun as => rv_bth false rv_no 80 144 (as ++ [rv_rng (0) (1)])) = true by decide +kernel)
def rk_p8 : List (List (Int32 × Int32)) := [[((-2147483648), 2147483647)], [((-2147483648), 2147483647)], [((-2147483648), 2147483647)], [((-2147483648), 2147483647)], [((-2147483648), 2147483647)]]
theorem rk_c8 : ∀ p ∈ rk_p8, rv_cov (-2147483648) p = true := List.all_eq_true.mp (show rk_p8.all (rv_cov (-2147483648)) = true by decide +kernel)
set_option maxRecDepth 1000000 in
theorem rk_8 : ∀ as ∈ rv_prod rk_p8, rv_bth false rv_no 66 120 (as) = true := List.all_eq_true.mp (show (rv_prod rk_p8).all (fun as => rv_bth false rv_no 66 120 (as)) = true by decide +kernel)
def rk_p9 : List (List (Int32 × Int32)) := [[((-2147483648), (-1)), (0, 2147483647)], [((-2147483648), 2147483647)]]
theorem rk_c9 : ∀ p ∈ rk_p9, rv_cov (-2147483648) p = true := List.all_eq_true.mp (show rk_p9.all (rv_cov (-2147483648)) = true by decide +kernel)
set_option maxRecDepth 1000000 in
theorem rk_9 : ∀ as ∈ rv_prod rk_p9, rv_bth false rv_no 103 176 (as) = true := List.all_eq_true.mp (show (rv_prod rk_p9).all (fun as => rv_bth false rv_no 103 176 (as)) = true by decide +kernel)
def rk_p10 : List (List (Int32 × Int32)) := [[((-2147483648), 2147483647)]]
theorem rk_c10 : ∀ p ∈ rk_p10, rv_cov (-2147483648) p = true := List.all_eq_true.mp (show rk_p10.all (rv_cov (-2147483648)) = true by decide +kernel)
set_option maxRecDepth 1000000 in
theorem rk_10 : ∀ as ∈ rv_prod rk_p10, rv_bth false rv_no 65 119 (as) = true := List.all_eq_true.mp (show (rv_prod rk_p10).all (fun as => rv_bth false rv_no 65 119 (as)) = true by decide +kernel)
def rk_p11 : List (List (Int32 × Int32)) := [[((-2147483648), (-1)), (0, 2147483647)], [((-2147483648), 2147483647)]]
theorem rk_c11 : ∀ p ∈ rk_p11, rv_cov (-2147483648) p = true := List.all_eq_true.mp (show rk_p11.all (rv_cov (-2147483648)) = true by decide +kernel)
set_option maxRecDepth 1000000 in
theorem rk_11 : ∀ as ∈ rv_prod rk_p11, rv_bth false rv_no 104 177 (as) = true := List.all_eq_true.mp (show (rv_prod rk_p11).all (fun as => rv_bth false rv_no 104 177 (as)) = true by decide +kernel)
def rk_p12 : List (List (Int32 × Int32)) := [[((-2147483648), (-1)), (0, 2147483647)], [((-2147483648), 2147483647)]]
theorem rk_c12 : ∀ p ∈ rk_p12, rv_cov (-2147483648) p = true := List.all_eq_true.mp (show rk_p12.all (rv_cov (-2147483648)) = true by decide +kernel)
set_option maxRecDepth 1000000 in
theorem rk_12 : ∀ as ∈ rv_prod rk_p12, rv_bth false rv_no 61 110 (as) = true := List.all_eq_true.mp (show (rv_prod rk_p12).all (fun as => rv_bth false rv_no 61 110 (as)) = true by decide +kernel)
def rk_p13 : List (List (Int32 × Int32)) := [[((-2147483648), (-1)), (0, 2147483647)], [((-2147483648), 2147483647)], [((-2147483648), 2147483647)]]
theorem rk_c13 : ∀ p ∈ rk_p13, rv_cov (-2147483648) p = true := List.all_eq_true.mp (show rk_p13.all (rv_cov (-2147483648)) = true by decide +kernel)
set_option maxRecDepth 1000000 in
theorem rk_13 : ∀ as ∈ rv_prod rk_p13, rv_bth false rv_no 88 154 (as) = true := List.all_eq_true.mp (show (rv_prod rk_p13).all (fun as => rv_bth false rv_no 88 154 (as)) = true by decide +kernel)
def rk_p14 : List (List (Int32 × Int32)) := [[((-2147483648), 0), (1, 2147483647)]]
theorem rk_c14 : ∀ p ∈ rk_p14, rv_cov (-2147483648) p = true := List.all_eq_true.mp (show rk_p14.all (rv_cov (-2147483648)) = true by decide +kernel)
set_option maxRecDepth 1000000 in
theorem rk_14 : ∀ as ∈ rv_prod rk_p14, rv_bth false rv_no 78 142 (as) = true := List.all_eq_true.mp (show (rv_prod rk_p14).all (fun as => rv_bth false rv_no 78 142 (as)) = true by decide +kernel)
def rk_p15 : List (List (Int32 × Int32)) := [[((-2147483648), (-1)), (0, 0), (1, 1), (2, 2), (3, 3), (4, 2147483647)], [((-2147483648), 2147483647)]]
theorem rk_c15 : ∀ p ∈ rk_p15, rv_cov (-2147483648) p = true := List.all_eq_true.mp (show rk_p15.all (rv_cov (-2147483648)) = true by decide +kernel)
set_option maxRecDepth 1000000 in
theorem rk_15 : ∀ as ∈ rv_prod rk_p15, rv_bth false rv_no 63 115 (as) = true := List.all_eq_true.mp (show (rv_prod rk_p15).all (fun as => rv_bth false rv_no 63 115 (as)) = true by decide +kernel)
def rk_p16 : List (List (Int32 × Int32)) := [[((-2147483648), (-1)), (0, 0), (1, 1), (2, 2), (3, 3), (4, 2147483647)], [((-2147483648), 2147483647)], [((-2147483648), 2147483647)]]
theorem rk_c16 : ∀ p ∈ rk_p16, rv_cov (-2147483648) p = true := List.all_eq_true.mp (show rk_p16.all (rv_cov (-2147483648)) = true by decide +kernel)
set_option maxRecDepth 1000000 in
theorem rk_16 : ∀ as ∈ rv_prod rk_p16, rv_bth false rv_no 67 121 (as) = true := List.all_eq_true.mp (show (rv_prod rk_p16).all (fun as => rv_bth false rv_no 67 121 (as)) = true by decide +kernel)
def rk_p17 : List (List (Int32 × Int32)) := [[((-2147483648), (-1)), (0, 0), (1, 1), (2, 2), (3, 3), (4, 2147483647)], [((-2147483648), 2147483647)]]
theorem rk_c17 : ∀ p ∈ rk_p17, rv_cov (-2147483648) p = true := List.all_eq_true.mp (show rk_p17.all (rv_cov (-2147483648)) = true by decide +kernel)
set_option maxRecDepth 1000000 in
theorem rk_17 : ∀ as ∈ rv_prod rk_p17, rv_bth false rv_no 96 167 (as) = true := List.all_eq_true.mp (show (rv_prod rk_p17).all (fun as => rv_bth false rv_no 96 167 (as)) = true by decide +kernel)
def rk_p18 : List (List (Int32 × Int32)) := [[((-2147483648), (-1)), (0, 0), (1, 1), (2, 2), (3, 3), (4, 2147483647)], [((-2147483648), 2147483647)], [((-2147483648), 2147483647)]]
theorem rk_c18 : ∀ p ∈ rk_p18, rv_cov (-2147483648) p = true := List.all_eq_true.mp (show rk_p18.all (rv_cov (-2147483648)) = true by decide +kernel)
set_option maxRecDepth 1000000 in
theorem rk_18 : ∀ as ∈ rv_prod rk_p18, rv_bth false rv_no 92 160 (as) = true := List.all_eq_true.mp (show (rv_prod rk_p18).all (fun as => rv_bth false rv_no 92 160 (as)) = true by decide +kernel)
def rk_p19 : List (List (Int32 × Int32)) := [[((-2147483648), (-1)), (0, 0), (1, 2), (3, 2147483647)]]
theorem rk_c19 : ∀ p ∈ rk_p19, rv_cov (-2147483648) p = true := List.all_eq_true.mp (show rk_p19.all (rv_cov (-2147483648)) = true by decide +kernel)
set_option maxRecDepth 1000000 in
theorem rk_19 : ∀ as ∈ rv_prod rk_p19, rv_bth false rv_no 87 153 (as) = true := List.all_eq_true.mp (show (rv_prod rk_p19).all (fun as => rv_bth false rv_no 87 153 (as)) = true by decide +kernel)
def rk_p20 : List (List (Int32 × Int32)) := [[((-2147483648), (-2)), ((-1), (-1)), (0, 3), (4, 4), (5, 5), (6, 2147483647)]]
theorem rk_c20 : ∀ p ∈ rk_p20, rv_cov (-2147483648) p = true := List.all_eq_true.mp (show rk_p20.all (rv_cov (-2147483648)) = true by decide +kernel)
set_option maxRecDepth 1000000 in
theorem rk_20_0 : rv_bth false rv_no 64 117 ([rv_mk ((-2147483648), (-2))]) = true := by decide +kernel
set_option maxRecDepth 1000000 in
theorem rk_20_1 : rv_bth false rv_no 64 117 ([rv_mk ((-1), (-1))]) = true := by decide +kernel
set_option maxRecDepth 1000000 in
theorem rk_20_2 : rv_bth false rv_no 64 117 ([rv_mk (0, 3)]) = true := by decide +kernel
