/-! M.reads -/
theorem sx_k321_34 : sx_ckT sx_tc 2 2 5000 262 7 sx_c321 sx_z321 sx_t321_34 = true := by decide +kernel
theorem sx_k321_35 : sx_ckT sx_tc 2 2 5000 262 7 sx_c321 sx_z321 sx_t321_35 = true := by decide +kernel
theorem sx_k321_36 : sx_ckT sx_tc 2 2 5000 262 7 sx_c321 sx_z321 sx_t321_36 = true := by decide +kernel
theorem sx_k321_37 : sx_ckT sx_tc 2 2 5000 262 7 sx_c321 sx_z321 sx_t321_37 = true := by decide +kernel
theorem sx_k321_38 : sx_ckT sx_tc 2 2 5000 262 7 sx_c321 sx_z321 sx_t321_38 = true := by decide +kernel
