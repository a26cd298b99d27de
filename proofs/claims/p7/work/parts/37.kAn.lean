/-! M.reads -/
theorem sx_k321_59 : sx_ckT sx_tc 2 2 5000 262 7 sx_c321 sx_z321 sx_t321_59 = true := by decide +kernel
theorem sx_k321_60 : sx_ckT sx_tc 2 2 5000 262 7 sx_c321 sx_z321 sx_t321_60 = true := by decide +kernel
theorem sx_k321_61 : sx_ckT sx_tc 2 2 5000 262 7 sx_c321 sx_z321 sx_t321_61 = true := by decide +kernel
theorem sx_k321_62 : sx_ckT sx_tc 2 2 5000 262 7 sx_c321 sx_z321 sx_t321_62 = true := by decide +kernel
theorem sx_k321_63 : sx_ckT sx_tc 2 2 5000 262 7 sx_c321 sx_z321 sx_t321_63 = true := by decide +kernel
