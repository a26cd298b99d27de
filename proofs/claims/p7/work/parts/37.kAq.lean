/-! M.reads -/
theorem sx_k321_74 : sx_ckT sx_tc 2 2 5000 262 7 sx_c321 sx_z321 sx_t321_74 = true := by decide +kernel
theorem sx_k321_75 : sx_ckT sx_tc 2 2 5000 262 7 sx_c321 sx_z321 sx_t321_75 = true := by decide +kernel
theorem sx_k321_76 : sx_ckT sx_tc 2 2 5000 262 7 sx_c321 sx_z321 sx_t321_76 = true := by decide +kernel
theorem sx_k321_77 : sx_ckT sx_tc 2 2 5000 262 7 sx_c321 sx_z321 sx_t321_77 = true := by decide +kernel
theorem sx_k321_78 : sx_ckT sx_tc 2 2 5000 262 7 sx_c321 sx_z321 sx_t321_78 = true := by decide +kernel
