/-! M.one -/
def sx_z323 : sx_Ce2 := ([], [], [], [])
theorem sx_k323 : sx_ckE sx_tc 2 1 5000 254 10 sx_c323 sx_z323 = true := by decide +kernel
/-! M.one -/
def sx_z322 : sx_Ce2 := ([], [], [], [])
theorem sx_k322 : sx_ckE sx_tc 2 1 5000 254 10 sx_c322 sx_z322 = true := by decide +kernel
