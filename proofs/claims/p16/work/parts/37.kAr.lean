/-! CabinPeace.person -/
def sx_z222 : sx_Ce2 := ([], [], [], [])
theorem sx_k222 : sx_ckE sx_tc 42 2 5000 163 6 sx_c222 sx_z222 = true := by decide +kernel
