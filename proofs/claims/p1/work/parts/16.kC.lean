set_option maxRecDepth 1000000 in
theorem rk_22_7 : rv_bth false rv_no 97 168 ([rv_mk (0, 3), rv_mk (3, 2147483647)]) = true := by decide +kernel
set_option maxRecDepth 1000000 in
theorem rk_22_8 : rv_bth false rv_no 97 168 ([rv_mk (4, 4), rv_mk ((-2147483648), 0)]) = true := by decide +kernel
set_option maxRecDepth 1000000 in
theorem rk_22_9 : rv_bth false rv_no 97 168 ([rv_mk (4, 4), rv_mk (1, 1)]) = true := by decide +kernel
set_option maxRecDepth 1000000 in
theorem rk_22_10 : rv_bth false rv_no 97 168 ([rv_mk (4, 4), rv_mk (2, 2)]) = true := by decide +kernel
set_option maxRecDepth 1000000 in
theorem rk_22_11 : rv_bth false rv_no 97 168 ([rv_mk (4, 4), rv_mk (3, 2147483647)]) = true := by decide +kernel
set_option maxRecDepth 1000000 in
theorem rk_22_12 : rv_bth false rv_no 97 168 ([rv_mk (5, 5), rv_mk ((-2147483648), 0)]) = true := by decide +kernel
set_option maxRecDepth 1000000 in
theorem rk_22_13 : rv_bth false rv_no 97 168 ([rv_mk (5, 5), rv_mk (1, 1)]) = true := by decide +kernel
set_option maxRecDepth 1000000 in
theorem rk_22_14 : rv_bth false rv_no 97 168 ([rv_mk (5, 5), rv_mk (2, 2)]) = true := by decide +kernel
