/-! M.reads -/
theorem sx_k321_24 : sx_ckT sx_tc 2 2 5000 262 7 sx_c321 sx_z321 sx_t321_24 = true := by decide +kernel
theorem sx_k321_25 : sx_ckT sx_tc 2 2 5000 262 7 sx_c321 sx_z321 sx_t321_25 = true := by decide +kernel
theorem sx_k321_26 : sx_ckT sx_tc 2 2 5000 262 7 sx_c321 sx_z321 sx_t321_26 = true := by decide +kernel
theorem sx_k321_27 : sx_ckT sx_tc 2 2 5000 262 7 sx_c321 sx_z321 sx_t321_27 = true := by decide +kernel
theorem sx_k321_28 : sx_ckT sx_tc 2 2 5000 262 7 sx_c321 sx_z321 sx_t321_28 = true := by decide +kernel
