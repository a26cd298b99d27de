/-! CabinPeace.person -/
def sx_z221 : sx_Ce2 := ([], [], [], [])
theorem sx_k221 : sx_ckE sx_tc 42 2 5000 163 6 sx_c221 sx_z221 = true := by decide +kernel
