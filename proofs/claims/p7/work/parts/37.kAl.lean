/-! M.reads -/
theorem sx_k321_49 : sx_ckT sx_tc 2 2 5000 262 7 sx_c321 sx_z321 sx_t321_49 = true := by decide +kernel
theorem sx_k321_50 : sx_ckT sx_tc 2 2 5000 262 7 sx_c321 sx_z321 sx_t321_50 = true := by decide +kernel
theorem sx_k321_51 : sx_ckT sx_tc 2 2 5000 262 7 sx_c321 sx_z321 sx_t321_51 = true := by decide +kernel
theorem sx_k321_52 : sx_ckT sx_tc 2 2 5000 262 7 sx_c321 sx_z321 sx_t321_52 = true := by decide +kernel
theorem sx_k321_53 : sx_ckT sx_tc 2 2 5000 262 7 sx_c321 sx_z321 sx_t321_53 = true := by decide +kernel
