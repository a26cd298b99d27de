set_option maxRecDepth 1000000 in
theorem rk_32_16 : rv_bth false rv_no 102 174 ([rv_mk (4, 4), rv_mk (2, 2)]) = true := by decide +kernel
set_option maxRecDepth 1000000 in
theorem rk_32_17 : rv_bth false rv_no 102 174 ([rv_mk (4, 4), rv_mk (3, 3)]) = true := by decide +kernel
set_option maxRecDepth 1000000 in
theorem rk_32_18 : rv_bth false rv_no 102 174 ([rv_mk (4, 4), rv_mk (4, 4)]) = true := by decide +kernel
