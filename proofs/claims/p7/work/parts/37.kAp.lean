/-! M.reads -/
theorem sx_k321_69 : sx_ckT sx_tc 2 2 5000 262 7 sx_c321 sx_z321 sx_t321_69 = true := by decide +kernel
theorem sx_k321_70 : sx_ckT sx_tc 2 2 5000 262 7 sx_c321 sx_z321 sx_t321_70 = true := by decide +kernel
theorem sx_k321_71 : sx_ckT sx_tc 2 2 5000 262 7 sx_c321 sx_z321 sx_t321_71 = true := by decide +kernel
theorem sx_k321_72 : sx_ckT sx_tc 2 2 5000 262 7 sx_c321 sx_z321 sx_t321_72 = true := by decide +kernel
theorem sx_k321_73 : sx_ckT sx_tc 2 2 5000 262 7 sx_c321 sx_z321 sx_t321_73 = true := by decide +kernel
