/-! Peace.canFill -/
def sx_z129 : sx_Ce2 := ([], [], [], [])
theorem sx_k129 : sx_ckE sx_tc 2 1 5000 37 0 sx_c129 sx_z129 = true := by decide +kernel
/-! Peace.canFill -/
def sx_z130 : sx_Ce2 := ([], [], [], [])
theorem sx_k130 : sx_ckE sx_tc 2 1 5000 37 0 sx_c130 sx_z130 = true := by decide +kernel
/-! Peace.canFill -/
def sx_z131 : sx_Ce2 := ([], [], [], [])
theorem sx_k131 : sx_ckE sx_tc 2 1 5000 37 0 sx_c131 sx_z131 = true := by decide +kernel
