/-! M.reads -/
theorem sx_k321_79 : sx_ckT sx_tc 2 2 5000 262 7 sx_c321 sx_z321 sx_t321_79 = true := by decide +kernel
theorem sx_k321_80 : sx_ckT sx_tc 2 2 5000 262 7 sx_c321 sx_z321 sx_t321_80 = true := by decide +kernel
theorem sx_k321_81 : sx_ckT sx_tc 2 2 5000 262 7 sx_c321 sx_z321 sx_t321_81 = true := by decide +kernel
theorem sx_k321_82 : sx_ckT sx_tc 2 2 5000 262 7 sx_c321 sx_z321 sx_t321_82 = true := by decide +kernel
theorem sx_k321_83 : sx_ckT sx_tc 2 2 5000 262 7 sx_c321 sx_z321 sx_t321_83 = true := by decide +kernel
