/-! CabinPeace.must -/
def sx_z219 : sx_Ce2 := ([], [], [], [])
theorem sx_k219 : sx_ckE sx_tc 52 2 5000 159 0 sx_c219 sx_z219 = true := by decide +kernel
