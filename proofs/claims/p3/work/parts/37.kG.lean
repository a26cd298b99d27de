/-! M.worth -/
def sx_z340 : sx_Ce2 := ([], [], [], [])
theorem sx_k340 : sx_ckE sx_tc 2 3 5000 290 6 sx_c340 sx_z340 = true := by decide +kernel
/-! M.write -/
def sx_z341 : sx_Ce2 := ([], [], [], [])
theorem sx_k341 : sx_ckE sx_tc 2 2 5000 291 0 sx_c341 sx_z341 = true := by decide +kernel
