/-! M.reads -/
theorem sx_k321_64 : sx_ckT sx_tc 2 2 5000 262 7 sx_c321 sx_z321 sx_t321_64 = true := by decide +kernel
theorem sx_k321_65 : sx_ckT sx_tc 2 2 5000 262 7 sx_c321 sx_z321 sx_t321_65 = true := by decide +kernel
theorem sx_k321_66 : sx_ckT sx_tc 2 2 5000 262 7 sx_c321 sx_z321 sx_t321_66 = true := by decide +kernel
theorem sx_k321_67 : sx_ckT sx_tc 2 2 5000 262 7 sx_c321 sx_z321 sx_t321_67 = true := by decide +kernel
theorem sx_k321_68 : sx_ckT sx_tc 2 2 5000 262 7 sx_c321 sx_z321 sx_t321_68 = true := by decide +kernel
