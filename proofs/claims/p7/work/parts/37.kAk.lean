/-! M.reads -/
theorem sx_k321_44 : sx_ckT sx_tc 2 2 5000 262 7 sx_c321 sx_z321 sx_t321_44 = true := by decide +kernel
theorem sx_k321_45 : sx_ckT sx_tc 2 2 5000 262 7 sx_c321 sx_z321 sx_t321_45 = true := by decide +kernel
theorem sx_k321_46 : sx_ckT sx_tc 2 2 5000 262 7 sx_c321 sx_z321 sx_t321_46 = true := by decide +kernel
theorem sx_k321_47 : sx_ckT sx_tc 2 2 5000 262 7 sx_c321 sx_z321 sx_t321_47 = true := by decide +kernel
theorem sx_k321_48 : sx_ckT sx_tc 2 2 5000 262 7 sx_c321 sx_z321 sx_t321_48 = true := by decide +kernel
