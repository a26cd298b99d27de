/-! M.reads -/
theorem sx_k321_39 : sx_ckT sx_tc 2 2 5000 262 7 sx_c321 sx_z321 sx_t321_39 = true := by decide +kernel
theorem sx_k321_40 : sx_ckT sx_tc 2 2 5000 262 7 sx_c321 sx_z321 sx_t321_40 = true := by decide +kernel
theorem sx_k321_41 : sx_ckT sx_tc 2 2 5000 262 7 sx_c321 sx_z321 sx_t321_41 = true := by decide +kernel
theorem sx_k321_42 : sx_ckT sx_tc 2 2 5000 262 7 sx_c321 sx_z321 sx_t321_42 = true := by decide +kernel
theorem sx_k321_43 : sx_ckT sx_tc 2 2 5000 262 7 sx_c321 sx_z321 sx_t321_43 = true := by decide +kernel
