set_option maxRecDepth 1000000 in
theorem rk_32_11 : rv_bth false rv_no 102 174 ([rv_mk (0, 3), rv_mk (4, 4)]) = true := by decide +kernel
set_option maxRecDepth 1000000 in
theorem rk_32_12 : rv_bth false rv_no 102 174 ([rv_mk (0, 3), rv_mk (5, 5)]) = true := by decide +kernel
set_option maxRecDepth 1000000 in
theorem rk_32_13 : rv_bth false rv_no 102 174 ([rv_mk (0, 3), rv_mk (6, 2147483647)]) = true := by decide +kernel
set_option maxRecDepth 1000000 in
theorem rk_32_14 : rv_bth false rv_no 102 174 ([rv_mk (4, 4), rv_mk ((-2147483648), 0)]) = true := by decide +kernel
set_option maxRecDepth 1000000 in
theorem rk_32_15 : rv_bth false rv_no 102 174 ([rv_mk (4, 4), rv_mk (1, 1)]) = true := by decide +kernel
