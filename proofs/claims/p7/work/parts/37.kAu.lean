/-! M.reads -/
theorem sx_k321_94 : sx_ckT sx_tc 2 2 5000 262 7 sx_c321 sx_z321 sx_t321_94 = true := by decide +kernel
theorem sx_k321_95 : sx_ckT sx_tc 2 2 5000 262 7 sx_c321 sx_z321 sx_t321_95 = true := by decide +kernel
theorem sx_k321_96 : sx_ckT sx_tc 2 2 5000 262 7 sx_c321 sx_z321 sx_t321_96 = true := by decide +kernel
theorem sx_k321_97 : sx_ckT sx_tc 2 2 5000 262 7 sx_c321 sx_z321 sx_t321_97 = true := by decide +kernel
