/-! M.reads -/
theorem sx_k321_3 : sx_ckT sx_tc 2 2 5000 262 7 sx_c321 sx_z321 sx_t321_3 = true := by decide +kernel
theorem sx_k321_4 : sx_ckT sx_tc 2 2 5000 262 7 sx_c321 sx_z321 sx_t321_4 = true := by decide +kernel
theorem sx_k321_5 : sx_ckT sx_tc 2 2 5000 262 7 sx_c321 sx_z321 sx_t321_5 = true := by decide +kernel
theorem sx_k321_6 : sx_ckT sx_tc 2 2 5000 262 7 sx_c321 sx_z321 sx_t321_6 = true := by decide +kernel
