/-! M.person -/
def sx_z325 : sx_Ce2 := ([], [], [], [])
theorem sx_k325 : sx_ckE sx_tc 42 1 5000 256 4 sx_c325 sx_z325 = true := by decide +kernel
