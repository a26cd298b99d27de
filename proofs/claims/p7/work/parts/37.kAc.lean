/-! M.reads -/
theorem sx_k321_4 : sx_ckT sx_tc 2 2 5000 262 7 sx_c321 sx_z321 sx_t321_4 = true := by decide +kernel
theorem sx_k321_5 : sx_ckT sx_tc 2 2 5000 262 7 sx_c321 sx_z321 sx_t321_5 = true := by decide +kernel
theorem sx_k321_6 : sx_ckT sx_tc 2 2 5000 262 7 sx_c321 sx_z321 sx_t321_6 = true := by decide +kernel
theorem sx_k321_7 : sx_ckT sx_tc 2 2 5000 262 7 sx_c321 sx_z321 sx_t321_7 = true := by decide +kernel
theorem sx_k321_8 : sx_ckT sx_tc 2 2 5000 262 7 sx_c321 sx_z321 sx_t321_8 = true := by decide +kernel
