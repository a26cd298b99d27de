/-! M.reads -/
theorem sx_k321_27 : sx_ckT sx_tc 2 2 5000 262 7 sx_c321 sx_z321 sx_t321_27 = true := by decide +kernel
