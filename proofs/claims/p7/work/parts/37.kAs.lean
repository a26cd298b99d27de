/-! M.reads -/
theorem sx_k321_84 : sx_ckT sx_tc 2 2 5000 262 7 sx_c321 sx_z321 sx_t321_84 = true := by decide +kernel
theorem sx_k321_85 : sx_ckT sx_tc 2 2 5000 262 7 sx_c321 sx_z321 sx_t321_85 = true := by decide +kernel
theorem sx_k321_86 : sx_ckT sx_tc 2 2 5000 262 7 sx_c321 sx_z321 sx_t321_86 = true := by decide +kernel
theorem sx_k321_87 : sx_ckT sx_tc 2 2 5000 262 7 sx_c321 sx_z321 sx_t321_87 = true := by decide +kernel
theorem sx_k321_88 : sx_ckT sx_tc 2 2 5000 262 7 sx_c321 sx_z321 sx_t321_88 = true := by decide +kernel
