def rk_p0 : List (List (Int32 × Int32)) := []
def rk_p1 : List (List (Int32 × Int32)) := [[((-2147483648), (-1)), (0, 0), (1, 1), (2, 2), (3, 3), (4, 2147483647)], [((-2147483648), (-1)), (0, 3), (4, 2147483647)], [((-2147483648), (-1)), (0, 60), (61, 2147483647)]]
def rk_p2 : List (List (Int32 × Int32)) := [[((-2147483648), (-1)), (0, 0), (1, 1), (2, 2), (3, 3), (4, 2147483647)], [((-2147483648), 2147483647)]]
def rk_p3 : List (List (Int32 × Int32)) := [[((-2147483648), (-1)), (0, 0), (1, 1), (2, 2), (3, 3), (4, 2147483647)], [((-2147483648), 2147483647)]]
def rk_p4 : List (List (Int32 × Int32)) := [[((-2147483648), (-1)), (0, 0), (1, 1), (2, 2), (3, 3), (4, 2147483647)], [((-2147483648), 2147483647)], [((-2147483648), (-1)), (0, 0), (1, 1), (2, 2), (3, 3), (4, 2147483647)], [((-2147483648), 2147483647)], [((-2147483648), 2147483647)]]
def rk_p6 : List (List (Int32 × Int32)) := [[((-2147483648), 0), (1, 255), (256, 2147483647)]]
def rk_p7 : List (List (Int32 × Int32)) := [[((-2147483648), (-1)), (0, 2147483647)], [((-2147483648), (-1)), (0, 2147483647)]]
def rk_p8 : List (List (Int32 × Int32)) := [[((-2147483648), 2147483647)], [((-2147483648), 2147483647)], [((-2147483648), 2147483647)], [((-2147483648), 2147483647)], [((-2147483648), 2147483647)]]
def rk_p9 : List (List (Int32 × Int32)) := [[((-2147483648), (-1)), (0, 2147483647)], [((-2147483648), 2147483647)]]
def rk_p10 : List (List (Int32 × Int32)) := [[((-2147483648), 2147483647)]]
def rk_p11 : List (List (Int32 × Int32)) := [[((-2147483648), (-1)), (0, 2147483647)], [((-2147483648), 2147483647)]]
def rk_p12 : List (List (Int32 × Int32)) := [[((-2147483648), (-1)), (0, 2147483647)], [((-2147483648), 2147483647)]]
def rk_p13 : List (List (Int32 × Int32)) := [[((-2147483648), (-1)), (0, 2147483647)], [((-2147483648), 2147483647)], [((-2147483648), 2147483647)]]
def rk_p14 : List (List (Int32 × Int32)) := [[((-2147483648), 0), (1, 2147483647)]]
def rk_p15 : List (List (Int32 × Int32)) := [[((-2147483648), (-1)), (0, 0), (1, 1), (2, 2), (3, 3), (4, 2147483647)], [((-2147483648), 2147483647)]]
def rk_p16 : List (List (Int32 × Int32)) := [[((-2147483648), (-1)), (0, 0), (1, 1), (2, 2), (3, 3), (4, 2147483647)], [((-2147483648), 2147483647)], [((-2147483648), 2147483647)]]
def rk_p17 : List (List (Int32 × Int32)) := [[((-2147483648), (-1)), (0, 0), (1, 1), (2, 2), (3, 3), (4, 2147483647)], [((-2147483648), 2147483647)]]
def rk_p18 : List (List (Int32 × Int32)) := [[((-2147483648), (-1)), (0, 0), (1, 1), (2, 2), (3, 3), (4, 2147483647)], [((-2147483648), 2147483647)], [((-2147483648), 2147483647)]]
def rk_p19 : List (List (Int32 × Int32)) := [[((-2147483648), (-1)), (0, 0), (1, 2), (3, 2147483647)]]
def rk_p20 : List (List (Int32 × Int32)) := [[((-2147483648), (-2)), ((-1), (-1)), (0, 3), (4, 4), (5, 5), (6, 2147483647)]]
theorem rk_c0 : ∀ p ∈ rk_p0, rv_cov (-2147483648) p = true := List.all_eq_true.mp (show rk_p0.all (rv_cov (-2147483648)) = true by decide +kernel)
theorem rk_c1 : ∀ p ∈ rk_p1, rv_cov (-2147483648) p = true := List.all_eq_true.mp (show rk_p1.all (rv_cov (-2147483648)) = true by decide +kernel)
theorem rk_c2 : ∀ p ∈ rk_p2, rv_cov (-2147483648) p = true := List.all_eq_true.mp (show rk_p2.all (rv_cov (-2147483648)) = true by decide +kernel)
theorem rk_c3 : ∀ p ∈ rk_p3, rv_cov (-2147483648) p = true := List.all_eq_true.mp (show rk_p3.all (rv_cov (-2147483648)) = true by decide +kernel)
theorem rk_c4 : ∀ p ∈ rk_p4, rv_cov (-2147483648) p = true := List.all_eq_true.mp (show rk_p4.all (rv_cov (-2147483648)) = true by decide +kernel)
theorem rk_c6 : ∀ p ∈ rk_p6, rv_cov (-2147483648) p = true := List.all_eq_true.mp (show rk_p6.all (rv_cov (-2147483648)) = true by decide +kernel)
theorem rk_c7 : ∀ p ∈ rk_p7, rv_cov (-2147483648) p = true := List.all_eq_true.mp (show rk_p7.all (rv_cov (-2147483648)) = true by decide +kernel)
theorem rk_c8 : ∀ p ∈ rk_p8, rv_cov (-2147483648) p = true := List.all_eq_true.mp (show rk_p8.all (rv_cov (-2147483648)) = true by decide +kernel)
theorem rk_c9 : ∀ p ∈ rk_p9, rv_cov (-2147483648) p = true := List.all_eq_true.mp (show rk_p9.all (rv_cov (-2147483648)) = true by decide +kernel)
theorem rk_c10 : ∀ p ∈ rk_p10, rv_cov (-2147483648) p = true := List.all_eq_true.mp (show rk_p10.all (rv_cov (-2147483648)) = true by decide +kernel)
theorem rk_c11 : ∀ p ∈ rk_p11, rv_cov (-2147483648) p = true := List.all_eq_true.mp (show rk_p11.all (rv_cov (-2147483648)) = true by decide +kernel)
theorem rk_c12 : ∀ p ∈ rk_p12, rv_cov (-2147483648) p = true := List.all_eq_true.mp (show rk_p12.all (rv_cov (-2147483648)) = true by decide +kernel)
theorem rk_c13 : ∀ p ∈ rk_p13, rv_cov (-2147483648) p = true := List.all_eq_true.mp (show rk_p13.all (rv_cov (-2147483648)) = true by decide +kernel)
theorem rk_c14 : ∀ p ∈ rk_p14, rv_cov (-2147483648) p = true := List.all_eq_true.mp (show rk_p14.all (rv_cov (-2147483648)) = true by decide +kernel)
theorem rk_c15 : ∀ p ∈ rk_p15, rv_cov (-2147483648) p = true := List.all_eq_true.mp (show rk_p15.all (rv_cov (-2147483648)) = true by decide +kernel)
theorem rk_c16 : ∀ p ∈ rk_p16, rv_cov (-2147483648) p = true := List.all_eq_true.mp (show rk_p16.all (rv_cov (-2147483648)) = true by decide +kernel)
theorem rk_c17 : ∀ p ∈ rk_p17, rv_cov (-2147483648) p = true := List.all_eq_true.mp (show rk_p17.all (rv_cov (-2147483648)) = true by decide +kernel)
theorem rk_c18 : ∀ p ∈ rk_p18, rv_cov (-2147483648) p = true := List.all_eq_true.mp (show rk_p18.all (rv_cov (-2147483648)) = true by decide +kernel)
theorem rk_c19 : ∀ p ∈ rk_p19, rv_cov (-2147483648) p = true := List.all_eq_true.mp (show rk_p19.all (rv_cov (-2147483648)) = true by decide +kernel)
theorem rk_c20 : ∀ p ∈ rk_p20, rv_cov (-2147483648) p = true := List.all_eq_true.mp (show rk_p20.all (rv_cov (-2147483648)) = true by decide +kernel)
theorem rk_0 : ∀ as ∈ rv_prod rk_p0, rv_bth false rv_no 95 166 (as) = true := by sorry
theorem rk_1 : ∀ as ∈ rv_prod rk_p1, rv_bth false rv_no 100 171 (as) = true := by sorry
theorem rk_2 : ∀ as ∈ rv_prod rk_p2, rv_bth false rv_no 105 178 (as ++ [rv_sym 0]) = true := by sorry
theorem rk_3 : ∀ as ∈ rv_prod rk_p3, rv_bth true rv_no 89 155 (as) = true := by sorry
theorem rk_4 : ∀ as ∈ rv_prod rk_p4, rv_bth false rv_no 86 152 (as) = true := by sorry
theorem rk_6 : ∀ as ∈ rv_prod rk_p6, rv_bth false rv_no 93 163 (as) = true := by sorry
theorem rk_7 : ∀ as ∈ rv_prod rk_p7, rv_bth false rv_no 80 144 (as ++ [rv_rng (0) (1)]) = true := by sorry
theorem rk_8 : ∀ as ∈ rv_prod rk_p8, rv_bth false rv_no 66 120 (as) = true := by sorry
theorem rk_9 : ∀ as ∈ rv_prod rk_p9, rv_bth false rv_no 103 176 (as) = true := by sorry
theorem rk_10 : ∀ as ∈ rv_prod rk_p10, rv_bth false rv_no 65 119 (as) = true := by sorry
theorem rk_11 : ∀ as ∈ rv_prod rk_p11, rv_bth false rv_no 104 177 (as) = true := by sorry
theorem rk_12 : ∀ as ∈ rv_prod rk_p12, rv_bth false rv_no 61 110 (as) = true := by sorry
theorem rk_13 : ∀ as ∈ rv_prod rk_p13, rv_bth false rv_no 88 154 (as) = true := by sorry
theorem rk_14 : ∀ as ∈ rv_prod rk_p14, rv_bth false rv_no 78 142 (as) = true := by sorry
theorem rk_15 : ∀ as ∈ rv_prod rk_p15, rv_bth false rv_no 63 115 (as) = true := by sorry
theorem rk_16 : ∀ as ∈ rv_prod rk_p16, rv_bth false rv_no 67 121 (as) = true := by sorry
theorem rk_17 : ∀ as ∈ rv_prod rk_p17, rv_bth false rv_no 96 167 (as) = true := by sorry
theorem rk_18 : ∀ as ∈ rv_prod rk_p18, rv_bth false rv_no 92 160 (as) = true := by sorry
theorem rk_19 : ∀ as ∈ rv_prod rk_p19, rv_bth false rv_no 87 153 (as) = true := by sorry
def rk_p21 : List (List (Int32 × Int32)) := [[((-2147483648), 2147483647)], [((-2147483648), 2147483647)], [((-2147483648), (-1)), (0, 2147483647)]]
def rk_p22 : List (List (Int32 × Int32)) := [[((-2147483648), (-1)), (0, 3), (4, 4), (5, 5), (6, 2147483647)], [((-2147483648), 0), (1, 1), (2, 2), (3, 2147483647)]]
theorem rk_c21 : ∀ p ∈ rk_p21, rv_cov (-2147483648) p = true := List.all_eq_true.mp (show rk_p21.all (rv_cov (-2147483648)) = true by decide +kernel)
theorem rk_c22 : ∀ p ∈ rk_p22, rv_cov (-2147483648) p = true := List.all_eq_true.mp (show rk_p22.all (rv_cov (-2147483648)) = true by decide +kernel)
theorem rk_20 : ∀ as ∈ rv_prod rk_p20, rv_bth false rv_no 64 117 (as) = true := by sorry
theorem rk_21 : ∀ as ∈ rv_prod rk_p21, rv_bth false rv_no 91 158 (as) = true := by sorry
def rk_p23 : List (List (Int32 × Int32)) := [[((-2147483648), 2147483647)], [((-2147483648), (-1)), (0, 2147483647)], [((-2147483648), 2147483647)]]
def rk_p24 : List (List (Int32 × Int32)) := [[((-2147483648), (-1)), (0, 3), (4, 4), (5, 5), (6, 2147483647)]]
def rk_p25 : List (List (Int32 × Int32)) := [[((-2147483648), (-1)), (0, 3), (4, 4), (5, 5), (6, 2147483647)]]
theorem rk_c23 : ∀ p ∈ rk_p23, rv_cov (-2147483648) p = true := List.all_eq_true.mp (show rk_p23.all (rv_cov (-2147483648)) = true by decide +kernel)
theorem rk_c24 : ∀ p ∈ rk_p24, rv_cov (-2147483648) p = true := List.all_eq_true.mp (show rk_p24.all (rv_cov (-2147483648)) = true by decide +kernel)
theorem rk_c25 : ∀ p ∈ rk_p25, rv_cov (-2147483648) p = true := List.all_eq_true.mp (show rk_p25.all (rv_cov (-2147483648)) = true by decide +kernel)
theorem rk_22 : ∀ as ∈ rv_prod rk_p22, rv_bth false rv_no 97 168 (as) = true := by sorry
theorem rk_23 : ∀ as ∈ rv_prod rk_p23, rv_bth false rv_no 98 170 (as) = true := by sorry
theorem rk_24 : ∀ as ∈ rv_prod rk_p24, rv_bth false rv_no 77 141 (as) = true := by sorry
def rk_p26 : List (List (Int32 × Int32)) := [[((-2147483648), 2147483647)], [((-2147483648), (-1)), (0, 2147483647)]]
def rk_p27 : List (List (Int32 × Int32)) := [[((-2147483648), (-1)), (0, 3), (4, 4), (5, 5), (6, 2147483647)]]
theorem rk_c26 : ∀ p ∈ rk_p26, rv_cov (-2147483648) p = true := List.all_eq_true.mp (show rk_p26.all (rv_cov (-2147483648)) = true by decide +kernel)
theorem rk_c27 : ∀ p ∈ rk_p27, rv_cov (-2147483648) p = true := List.all_eq_true.mp (show rk_p27.all (rv_cov (-2147483648)) = true by decide +kernel)
theorem rk_25 : ∀ as ∈ rv_prod rk_p25, rv_bth false rv_no 81 146 (as) = true := by sorry
theorem rk_26 : ∀ as ∈ rv_prod rk_p26, rv_bth false rv_no 82 147 (as) = true := by sorry
def rk_p28 : List (List (Int32 × Int32)) := [[((-2147483648), (-1)), (0, 3), (4, 4), (5, 5), (6, 2147483647)], [((-2147483648), (-1)), (0, 6), (7, 2147483647)]]
theorem rk_c28 : ∀ p ∈ rk_p28, rv_cov (-2147483648) p = true := List.all_eq_true.mp (show rk_p28.all (rv_cov (-2147483648)) = true by decide +kernel)
theorem rk_27 : ∀ as ∈ rv_prod rk_p27, rv_bth false rv_no 62 111 (as) = true := by sorry
def rk_p29 : List (List (Int32 × Int32)) := [[((-2147483648), (-1)), (0, 0), (1, 1), (2, 2147483647)]]
def rk_p30 : List (List (Int32 × Int32)) := [[((-2147483648), (-1)), (0, 2147483647)]]
def rk_p31 : List (List (Int32 × Int32)) := [[((-2147483648), 2147483647)], [((-2147483648), (-1)), (0, 2147483647)], [((-2147483648), 2147483647)]]
def rk_p32 : List (List (Int32 × Int32)) := [[((-2147483648), (-1)), (0, 3), (4, 4), (5, 5), (6, 2147483647)], [((-2147483648), 0), (1, 1), (2, 2), (3, 3), (4, 4), (5, 5), (6, 2147483647)]]
theorem rk_c29 : ∀ p ∈ rk_p29, rv_cov (-2147483648) p = true := List.all_eq_true.mp (show rk_p29.all (rv_cov (-2147483648)) = true by decide +kernel)
theorem rk_c30 : ∀ p ∈ rk_p30, rv_cov (-2147483648) p = true := List.all_eq_true.mp (show rk_p30.all (rv_cov (-2147483648)) = true by decide +kernel)
theorem rk_c31 : ∀ p ∈ rk_p31, rv_cov (-2147483648) p = true := List.all_eq_true.mp (show rk_p31.all (rv_cov (-2147483648)) = true by decide +kernel)
theorem rk_c32 : ∀ p ∈ rk_p32, rv_cov (-2147483648) p = true := List.all_eq_true.mp (show rk_p32.all (rv_cov (-2147483648)) = true by decide +kernel)
theorem rk_28 : ∀ as ∈ rv_prod rk_p28, rv_bth false rv_no 79 143 (as) = true := by sorry
theorem rk_29 : ∀ as ∈ rv_prod rk_p29, rv_bth false rv_no 94 165 (as) = true := by sorry
theorem rk_30 : ∀ as ∈ rv_prod rk_p30, rv_bth false rv_no 73 129 (as) = true := by sorry
theorem rk_31 : ∀ as ∈ rv_prod rk_p31, rv_bth false rv_no 69 123 (as) = true := by sorry
def rk_p33 : List (List (Int32 × Int32)) := [[((-2147483648), (-1)), (0, 2147483647)]]
def rk_p34 : List (List (Int32 × Int32)) := [[((-2147483648), (-1)), (0, 0), (1, 1), (2, 2), (3, 3), (4, 2147483647)], [((-2147483648), 2147483647)], [((-2147483648), 2147483647)]]
def rk_p35 : List (List (Int32 × Int32)) := [[((-2147483648), (-1)), (0, 2147483647)]]
theorem rk_c33 : ∀ p ∈ rk_p33, rv_cov (-2147483648) p = true := List.all_eq_true.mp (show rk_p33.all (rv_cov (-2147483648)) = true by decide +kernel)
theorem rk_c34 : ∀ p ∈ rk_p34, rv_cov (-2147483648) p = true := List.all_eq_true.mp (show rk_p34.all (rv_cov (-2147483648)) = true by decide +kernel)
theorem rk_c35 : ∀ p ∈ rk_p35, rv_cov (-2147483648) p = true := List.all_eq_true.mp (show rk_p35.all (rv_cov (-2147483648)) = true by decide +kernel)
theorem rk_32 : ∀ as ∈ rv_prod rk_p32, rv_bth false rv_no 102 174 (as) = true := by sorry
theorem rk_33 : ∀ as ∈ rv_prod rk_p33, rv_bth false rv_no 101 173 (as) = true := by sorry
theorem rk_34 : ∀ as ∈ rv_prod rk_p34, rv_bth false rv_no 70 125 (as) = true := by sorry
theorem rk_35 : ∀ as ∈ rv_prod rk_p35, rv_bth false rv_no 71 128 (as) = true := by sorry
