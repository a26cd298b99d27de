/-! M.reads -/
theorem sx_k321_54 : sx_ckT sx_tc 2 2 5000 262 7 sx_c321 sx_z321 sx_t321_54 = true := by decide +kernel
theorem sx_k321_55 : sx_ckT sx_tc 2 2 5000 262 7 sx_c321 sx_z321 sx_t321_55 = true := by decide +kernel
theorem sx_k321_56 : sx_ckT sx_tc 2 2 5000 262 7 sx_c321 sx_z321 sx_t321_56 = true := by decide +kernel
theorem sx_k321_57 : sx_ckT sx_tc 2 2 5000 262 7 sx_c321 sx_z321 sx_t321_57 = true := by decide +kernel
theorem sx_k321_58 : sx_ckT sx_tc 2 2 5000 262 7 sx_c321 sx_z321 sx_t321_58 = true := by decide +kernel
