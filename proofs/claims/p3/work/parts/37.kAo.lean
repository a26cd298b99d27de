/-! CabinPeace.pour -/
def sx_z222 : sx_Ce2 := ([], [], [], [])
theorem sx_k222 : sx_ckE sx_tc 42 1 5000 165 0 sx_c222 sx_z222 = true := by decide +kernel
/-! M.one -/
def sx_z323 : sx_Ce2 := ([], [], [], [])
theorem sx_k323 : sx_ckE sx_tc 2 1 5000 254 10 sx_c323 sx_z323 = true := by decide +kernel
