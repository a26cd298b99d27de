/-! M.person -/
def sx_z328 : sx_Ce2 := ([], [], [], [])
theorem sx_k328 : sx_ckE sx_tc 42 1 5000 256 4 sx_c328 sx_z328 = true := by decide +kernel
