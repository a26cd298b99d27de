/-! Tray.lay -/
def sx_t196_0 : sx_Tm := (8, 12, [(50003, 0, 60)], [(19001, 0, 3), (19002, 0, 60)], [], [(0, sx_vr [46]), (1, sx_vi (0, [(19001, 1)])), (2, sx_vi (0, [(19002, 1)])), (3, sx_vi (0, [(20000, 1)]))], [(5889, (0, [(19001, 1)])), (5890, (0, [(19002, 1)]))], (60, [(20000, (-1))]))
def sx_z196 : sx_Ce2 := ([], [12], [sx_t196_0], [])
theorem sx_k196 : sx_ckE sx_tc 2 0 5000 103 0 sx_c196 sx_z196 = true := by decide +kernel
theorem sx_k196_0 : sx_ckT sx_tc 2 0 5000 103 0 sx_c196 sx_z196 sx_t196_0 = true := by decide +kernel
/-! M.week -/
def sx_z343 : sx_Ce2 := ([], [], [], [])
theorem sx_k343 : sx_ckE sx_tc 2 1 5000 284 0 sx_c343 sx_z343 = true := by decide +kernel
/-! Tray.lay -/
def sx_t197_0 : sx_Tm := (8, 12, [(50003, 0, 60)], [(19001, 0, 3), (19002, 0, 60)], [], [(0, sx_vr [48]), (1, sx_vi (0, [(19001, 1)])), (2, sx_vi (0, [(19002, 1)])), (3, sx_vi (0, [(20000, 1)]))], [(6145, (0, [(19001, 1)])), (6146, (0, [(19002, 1)]))], (60, [(20000, (-1))]))
def sx_z197 : sx_Ce2 := ([], [12], [sx_t197_0], [])
theorem sx_k197 : sx_ckE sx_tc 2 0 5000 103 0 sx_c197 sx_z197 = true := by decide +kernel
theorem sx_k197_0 : sx_ckT sx_tc 2 0 5000 103 0 sx_c197 sx_z197 sx_t197_0 = true := by decide +kernel
/-! CabinPeace.week -/
def sx_z242 : sx_Ce2 := ([], [], [], [])
theorem sx_k242 : sx_ckE sx_tc 2 1 5000 182 0 sx_c242 sx_z242 = true := by decide +kernel
/-! M.wrongParting -/
def sx_z279 : sx_Ce2 := ([], [], [], [])
theorem sx_k279 : sx_ckE sx_tc 2 2 5000 292 0 sx_c279 sx_z279 = true := by decide +kernel
/-! M.fault -/
def sx_z294 : sx_Ce2 := ([], [], [], [])
theorem sx_k294 : sx_ckE sx_tc 2 0 5000 212 0 sx_c294 sx_z294 = true := by decide +kernel
/-! CabinPeace.fault -/
def sx_z208 : sx_Ce2 := ([], [], [], [])
theorem sx_k208 : sx_ckE sx_tc 2 0 5000 144 0 sx_c208 sx_z208 = true := by decide +kernel
/-! Peace.canFill -/
def sx_z127 : sx_Ce2 := ([], [], [], [])
theorem sx_k127 : sx_ckE sx_tc 2 1 5000 37 0 sx_c127 sx_z127 = true := by decide +kernel
/-! M.status -/
def sx_z338 : sx_Ce2 := ([], [], [], [])
theorem sx_k338 : sx_ckE sx_tc 2 0 5000 274 0 sx_c338 sx_z338 = true := by decide +kernel
/-! Peace.canFill -/
def sx_z128 : sx_Ce2 := ([], [], [], [])
theorem sx_k128 : sx_ckE sx_tc 2 1 5000 37 0 sx_c128 sx_z128 = true := by decide +kernel
/-! CabinPeace.status -/
def sx_z237 : sx_Ce2 := ([], [], [], [])
theorem sx_k237 : sx_ckE sx_tc 2 0 5000 174 0 sx_c237 sx_z237 = true := by decide +kernel
/-! Peace.canFill -/
def sx_z129 : sx_Ce2 := ([], [], [], [])
theorem sx_k129 : sx_ckE sx_tc 2 1 5000 37 0 sx_c129 sx_z129 = true := by decide +kernel
/-! Peace.canFill -/
def sx_z130 : sx_Ce2 := ([], [], [], [])
theorem sx_k130 : sx_ckE sx_tc 2 1 5000 37 0 sx_c130 sx_z130 = true := by decide +kernel
/-! Peace.canFill -/
def sx_z131 : sx_Ce2 := ([], [], [], [])
theorem sx_k131 : sx_ckE sx_tc 2 1 5000 37 0 sx_c131 sx_z131 = true := by decide +kernel
