/-! M.person -/
def sx_z324 : sx_Ce2 := ([], [], [], [])
theorem sx_k324 : sx_ckE sx_tc 42 1 5000 256 4 sx_c324 sx_z324 = true := by decide +kernel
