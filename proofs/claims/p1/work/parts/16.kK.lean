set_option maxRecDepth 1000000 in
theorem rk_32_24 : rv_bth false rv_no 102 174 ([rv_mk (5, 5), rv_mk (3, 3)]) = true := by decide +kernel
set_option maxRecDepth 1000000 in
theorem rk_32_25 : rv_bth false rv_no 102 174 ([rv_mk (5, 5), rv_mk (4, 4)]) = true := by decide +kernel
set_option maxRecDepth 1000000 in
theorem rk_32_26 : rv_bth false rv_no 102 174 ([rv_mk (5, 5), rv_mk (5, 5)]) = true := by decide +kernel
