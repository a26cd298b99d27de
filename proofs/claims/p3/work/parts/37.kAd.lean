/-! CabinPeace.gone -/
def sx_z212 : sx_Ce2 := ([], [], [], [])
theorem sx_k212 : sx_ckE sx_tc 2 1 5000 150 0 sx_c212 sx_z212 = true := by decide +kernel
/-! CabinPeace.greedy -/
def sx_z213 : sx_Ce2 := ([], [], [], [])
theorem sx_k213 : sx_ckE sx_tc 2 2 5000 152 7 sx_c213 sx_z213 = true := by decide +kernel
/-! CabinPeace.knot -/
def sx_z214 : sx_Ce2 := ([], [], [], [])
theorem sx_k214 : sx_ckE sx_tc 2 1 5000 156 10 sx_c214 sx_z214 = true := by decide +kernel
/-! CabinPeace.lawful -/
def sx_z215 : sx_Ce2 := ([], [], [], [])
theorem sx_k215 : sx_ckE sx_tc 2 2 5000 157 2 sx_c215 sx_z215 = true := by decide +kernel
/-! CabinPeace.mend -/
def sx_z216 : sx_Ce2 := ([], [], [], [])
theorem sx_k216 : sx_ckE sx_tc 2 1 5000 158 10 sx_c216 sx_z216 = true := by decide +kernel
/-! CabinPeace.must -/
def sx_z217 : sx_Ce2 := ([], [], [], [])
theorem sx_k217 : sx_ckE sx_tc 42 2 5000 159 0 sx_c217 sx_z217 = true := by decide +kernel
/-! CabinPeace.near -/
def sx_z218 : sx_Ce2 := ([], [], [], [])
theorem sx_k218 : sx_ckE sx_tc 2 1 5000 160 8 sx_c218 sx_z218 = true := by decide +kernel
/-! CabinPeace.nearRoom -/
def sx_z219 : sx_Ce2 := ([], [], [], [])
theorem sx_k219 : sx_ckE sx_tc 2 1 5000 161 8 sx_c219 sx_z219 = true := by decide +kernel
/-! CabinPeace.person -/
def sx_z220 : sx_Ce2 := ([], [], [], [])
theorem sx_k220 : sx_ckE sx_tc 42 2 5000 163 6 sx_c220 sx_z220 = true := by decide +kernel
/-! CabinPeace.pour -/
def sx_z221 : sx_Ce2 := ([], [], [], [])
theorem sx_k221 : sx_ckE sx_tc 42 1 5000 165 0 sx_c221 sx_z221 = true := by decide +kernel
/-! CabinPeace.ran -/
def sx_z222 : sx_Ce2 := ([], [], [], [])
theorem sx_k222 : sx_ckE sx_tc 2 1 5000 166 0 sx_c222 sx_z222 = true := by decide +kernel
/-! CabinPeace.rather -/
def sx_z223 : sx_Ce2 := ([], [], [], [])
theorem sx_k223 : sx_ckE sx_tc 2 3 5000 167 0 sx_c223 sx_z223 = true := by decide +kernel
/-! CabinPeace.read -/
def sx_z224 : sx_Ce2 := ([], [], [], [])
theorem sx_k224 : sx_ckE sx_tc 2 2 5000 168 0 sx_c224 sx_z224 = true := by decide +kernel
