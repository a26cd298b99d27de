/-! M.reads -/
theorem sx_k321_89 : sx_ckT sx_tc 2 2 5000 262 7 sx_c321 sx_z321 sx_t321_89 = true := by decide +kernel
theorem sx_k321_90 : sx_ckT sx_tc 2 2 5000 262 7 sx_c321 sx_z321 sx_t321_90 = true := by decide +kernel
theorem sx_k321_91 : sx_ckT sx_tc 2 2 5000 262 7 sx_c321 sx_z321 sx_t321_91 = true := by decide +kernel
theorem sx_k321_92 : sx_ckT sx_tc 2 2 5000 262 7 sx_c321 sx_z321 sx_t321_92 = true := by decide +kernel
theorem sx_k321_93 : sx_ckT sx_tc 2 2 5000 262 7 sx_c321 sx_z321 sx_t321_93 = true := by decide +kernel
