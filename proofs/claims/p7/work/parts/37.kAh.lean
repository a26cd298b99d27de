/-! M.reads -/
theorem sx_k321_29 : sx_ckT sx_tc 2 2 5000 262 7 sx_c321 sx_z321 sx_t321_29 = true := by decide +kernel
theorem sx_k321_30 : sx_ckT sx_tc 2 2 5000 262 7 sx_c321 sx_z321 sx_t321_30 = true := by decide +kernel
theorem sx_k321_31 : sx_ckT sx_tc 2 2 5000 262 7 sx_c321 sx_z321 sx_t321_31 = true := by decide +kernel
theorem sx_k321_32 : sx_ckT sx_tc 2 2 5000 262 7 sx_c321 sx_z321 sx_t321_32 = true := by decide +kernel
theorem sx_k321_33 : sx_ckT sx_tc 2 2 5000 262 7 sx_c321 sx_z321 sx_t321_33 = true := by decide +kernel
