/-! M.areLawful -/
def sx_t250_0 : sx_Tm := (4, 4, [(50001, 0, 1), (50002, 0, 8)], [], [(0, [(12804, 1), (20001, (-1))])], [(0, sx_vr [100]), (1, sx_vi (0, [(20000, 1)])), (2, sx_vi (0, [(20001, 1)]))], [], (8, [(20001, (-1))]))
def sx_z250 : sx_Ce2 := ([], [4], [sx_t250_0], [])
theorem sx_k250 : sx_ckE sx_tc 2 0 5000 189 0 sx_c250 sx_z250 = true := by decide +kernel
theorem sx_k250_0 : sx_ckT sx_tc 2 0 5000 189 0 sx_c250 sx_z250 sx_t250_0 = true := by decide +kernel
/-! CabinPeace.ran -/
def sx_z223 : sx_Ce2 := ([], [], [], [])
theorem sx_k223 : sx_ckE sx_tc 2 1 5000 166 0 sx_c223 sx_z223 = true := by decide +kernel
/-! CabinPeace.lawful -/
def sx_z216 : sx_Ce2 := ([], [], [], [])
theorem sx_k216 : sx_ckE sx_tc 2 2 5000 157 2 sx_c216 sx_z216 = true := by decide +kernel
/-! Worths.allBetter -/
def sx_t103_0 : sx_Tm := (2, 3, [(50004, 0, 8)], [(19001, 0, 255), (19002, 1, 255), (19003, 0, 255)], [], [(0, sx_vr [50]), (1, sx_vi (0, [(19001, 1)])), (2, sx_vi (0, [(19002, 1)])), (3, sx_vi (0, [(19003, 1)])), (4, sx_vi (0, [(20000, 1)]))], [], (8, [(20000, (-1))]))
def sx_z103 : sx_Ce2 := ([], [3], [sx_t103_0], [])
theorem sx_k103 : sx_ckE sx_tc 2 0 5000 122 0 sx_c103 sx_z103 = true := by decide +kernel
theorem sx_k103_0 : sx_ckT sx_tc 2 0 5000 122 0 sx_c103 sx_z103 sx_t103_0 = true := by decide +kernel
/-! World.isAllAlike -/
def sx_t199_0 : sx_Tm := (2, 2, [(50001, 1, 256)], [], [(1, [(8066, 1), (20000, (-1))])], [(0, sx_vr [63]), (1, sx_vi (0, [(20000, 1)]))], [], (256, [(20000, (-1))]))
def sx_z199 : sx_Ce2 := ([], [2], [sx_t199_0], [])
theorem sx_k199 : sx_ckE sx_tc 2 0 5000 117 5 sx_c199 sx_z199 = true := by decide +kernel
theorem sx_k199_0 : sx_ckT sx_tc 2 0 5000 117 5 sx_c199 sx_z199 sx_t199_0 = true := by decide +kernel
/-! M.lawful -/
def sx_z310 : sx_Ce2 := ([], [], [], [])
theorem sx_k310 : sx_ckE sx_tc 2 2 5000 243 2 sx_c310 sx_z310 = true := by decide +kernel
/-! Worths.anyBetter -/
def sx_t141_0 : sx_Tm := (2, 3, [(50004, 0, 8)], [(19001, 0, 255), (19002, 0, 255), (19003, 0, 255)], [], [(0, sx_vr [50]), (1, sx_vi (0, [(19001, 1)])), (2, sx_vi (0, [(19002, 1)])), (3, sx_vi (0, [(19003, 1)])), (4, sx_vi (0, [(20000, 1)]))], [], (8, [(20000, (-1))]))
def sx_z141 : sx_Ce2 := ([], [3], [sx_t141_0], [])
theorem sx_k141 : sx_ckE sx_tc 2 0 5000 123 0 sx_c141 sx_z141 = true := by decide +kernel
theorem sx_k141_0 : sx_ckT sx_tc 2 0 5000 123 0 sx_c141 sx_z141 sx_t141_0 = true := by decide +kernel
/-! M.borne -/
def sx_t265_0 : sx_Tm := (4, 4, [(50001, 0, 2147483647), (50002, 0, 300)], [], [(0, [(12856, 1), (20001, (-1))])], [(0, sx_vr [100]), (1, sx_vi (0, [(20000, 1)])), (2, sx_vi (0, [(20001, 1)]))], [], (300, [(20001, (-1))]))
def sx_z265 : sx_Ce2 := ([], [4], [sx_t265_0], [])
theorem sx_k265 : sx_ckE sx_tc 2 1 5000 199 0 sx_c265 sx_z265 = true := by decide +kernel
theorem sx_k265_0 : sx_ckT sx_tc 2 1 5000 199 0 sx_c265 sx_z265 sx_t265_0 = true := by decide +kernel
/-! M.bits -/
def sx_t251_0 : sx_Tm := (4, 4, [(50001, (-2147483648), 2147483647), (50002, 0, 255)], [(19000, 0, 255)], [(0, [(19000, 1), (20001, (-1))])], [(0, sx_vi (0, [(19000, 1)])), (1, sx_vi (0, [(20000, 1)])), (2, sx_vi (0, [(20001, 1)]))], [], (0, [(20001, 1)]))
def sx_z251 : sx_Ce2 := ([], [4], [sx_t251_0], [])
theorem sx_k251 : sx_ckE sx_tc 12 0 5000 198 0 sx_c251 sx_z251 = true := by decide +kernel
theorem sx_k251_0 : sx_ckT sx_tc 12 0 5000 198 0 sx_c251 sx_z251 sx_t251_0 = true := by decide +kernel
/-! CabinPeace.sizes -/
def sx_z235 : sx_Ce2 := ([], [], [], [])
theorem sx_k235 : sx_ckE sx_tc 2 2 5000 172 0 sx_c235 sx_z235 = true := by decide +kernel
/-! Wish.beginTest -/
def sx_z174 : sx_Ce2 := ([], [], [], [0])
theorem sx_k174 : sx_ckE sx_tc 2 0 5000 105 0 sx_c174 sx_z174 = true := by decide +kernel
/-! Partings.canGoOn -/
def sx_t124_0 : sx_Tm := (2, 2, [(50002, 0, 8)], [(19001, 0, 7)], [(0, [(8964, 1), (20000, (-1))])], [(0, sx_vr [69]), (1, sx_vi (0, [(19001, 1)])), (2, sx_vi (0, [(20000, 1)]))], [], (8, [(20000, (-1))]))
def sx_z124 : sx_Ce2 := ([], [2], [sx_t124_0], [])
theorem sx_k124 : sx_ckE sx_tc 2 0 5000 32 0 sx_c124 sx_z124 = true := by decide +kernel
theorem sx_k124_0 : sx_ckT sx_tc 2 0 5000 32 0 sx_c124 sx_z124 sx_t124_0 = true := by decide +kernel
/-! M.sizes -/
def sx_z336 : sx_Ce2 := ([], [], [], [])
theorem sx_k336 : sx_ckE sx_tc 2 1 5000 271 0 sx_c336 sx_z336 = true := by decide +kernel
/-! M.scans -/
def sx_t274_0 : sx_Tm := (15, 25, [(12856, 0, 255), (18432, 0, 255), (18433, 0, 255)], [(19001, 4, 4)], [], [(0, sx_vr [100]), (1, sx_vi (0, [(19001, 1)])), (2, sx_vi (0, []))], [(12856, (0, [(20000, 1)])), (18432, (0, [(20001, 1)])), (18433, (0, [(20002, 1)]))], (0, []))
def sx_z274 : sx_Ce2 := ([], [25], [sx_t274_0], [])
theorem sx_k274 : sx_ckE sx_tc 2 1 5000 269 2 sx_c274 sx_z274 = true := by decide +kernel
theorem sx_k274_0 : sx_ckT sx_tc 2 1 5000 269 2 sx_c274 sx_z274 sx_t274_0 = true := by decide +kernel
/-! M.does -/
def sx_z293 : sx_Ce2 := ([], [], [], [])
theorem sx_k293 : sx_ckE sx_tc 2 0 5000 209 2 sx_c293 sx_z293 = true := by decide +kernel
/-! Peace.hasSlimWithin -/
def sx_t146_0 : sx_Tm := (2, 2, [(50002, 0, 4140)], [(19001, (-2147483648), 2147483647)], [(0, [(11403, 1), (20000, (-1))])], [(0, sx_vr [89]), (1, sx_vi (0, [(19001, 1)])), (2, sx_vi (0, [(20000, 1)]))], [], (4140, [(20000, (-1))]))
def sx_z146 : sx_Ce2 := ([], [2], [sx_t146_0], [])
theorem sx_k146 : sx_ckE sx_tc 2 0 5000 42 0 sx_c146 sx_z146 = true := by decide +kernel
theorem sx_k146_0 : sx_ckT sx_tc 2 0 5000 42 0 sx_c146 sx_z146 sx_t146_0 = true := by decide +kernel
/-! CabinPeace.gone -/
def sx_z213 : sx_Ce2 := ([], [], [], [])
theorem sx_k213 : sx_ckE sx_tc 2 1 5000 150 0 sx_c213 sx_z213 = true := by decide +kernel
/-! Tray.lay -/
def sx_t194_0 : sx_Tm := (8, 12, [(50003, 0, 60)], [(19001, 0, 3), (19002, 0, 60)], [], [(0, sx_vr [42]), (1, sx_vi (0, [(19001, 1)])), (2, sx_vi (0, [(19002, 1)])), (3, sx_vi (0, [(20000, 1)]))], [(5377, (0, [(19001, 1)])), (5378, (0, [(19002, 1)]))], (60, [(20000, (-1))]))
def sx_z194 : sx_Ce2 := ([], [12], [sx_t194_0], [])
theorem sx_k194 : sx_ckE sx_tc 2 0 5000 103 0 sx_c194 sx_z194 = true := by decide +kernel
theorem sx_k194_0 : sx_ckT sx_tc 2 0 5000 103 0 sx_c194 sx_z194 sx_t194_0 = true := by decide +kernel
/-! M.keepsBest -/
def sx_t284_0 : sx_Tm := (2, 2, [(50001, 0, 8)], [], [(0, [(12804, 1), (20000, (-1))])], [(0, sx_vr [100]), (1, sx_vi (0, [(20000, 1)]))], [], (8, [(20000, (-1))]))
def sx_z284 : sx_Ce2 := ([], [2], [sx_t284_0], [])
theorem sx_k284 : sx_ckE sx_tc 2 0 5000 241 0 sx_c284 sx_z284 = true := by decide +kernel
theorem sx_k284_0 : sx_ckT sx_tc 2 0 5000 241 0 sx_c284 sx_z284 sx_t284_0 = true := by decide +kernel
/-! Tray.lay -/
def sx_t195_0 : sx_Tm := (8, 12, [(50003, 0, 60)], [(19001, 0, 3), (19002, 0, 60)], [], [(0, sx_vr [44]), (1, sx_vi (0, [(19001, 1)])), (2, sx_vi (0, [(19002, 1)])), (3, sx_vi (0, [(20000, 1)]))], [(5633, (0, [(19001, 1)])), (5634, (0, [(19002, 1)]))], (60, [(20000, (-1))]))
def sx_z195 : sx_Ce2 := ([], [12], [sx_t195_0], [])
theorem sx_k195 : sx_ckE sx_tc 2 0 5000 103 0 sx_c195 sx_z195 = true := by decide +kernel
theorem sx_k195_0 : sx_ckT sx_tc 2 0 5000 103 0 sx_c195 sx_z195 sx_t195_0 = true := by decide +kernel
/-! Search.keepGone -/
def sx_t181_0 : sx_Tm := (2, 2, [(50001, 0, 8)], [], [], [(0, sx_vr [55]), (1, sx_vi (0, [(20000, 1)]))], [], (8, [(20000, (-1))]))
def sx_z181 : sx_Ce2 := ([], [2], [sx_t181_0], [])
theorem sx_k181 : sx_ckE sx_tc 2 0 5000 84 0 sx_c181 sx_z181 = true := by decide +kernel
theorem sx_k181_0 : sx_ckT sx_tc 2 0 5000 84 0 sx_c181 sx_z181 sx_t181_0 = true := by decide +kernel
/-! Tray.lay -/
def sx_t196_0 : sx_Tm := (8, 12, [(50003, 0, 60)], [(19001, 0, 3), (19002, 0, 60)], [], [(0, sx_vr [46]), (1, sx_vi (0, [(19001, 1)])), (2, sx_vi (0, [(19002, 1)])), (3, sx_vi (0, [(20000, 1)]))], [(5889, (0, [(19001, 1)])), (5890, (0, [(19002, 1)]))], (60, [(20000, (-1))]))
def sx_z196 : sx_Ce2 := ([], [12], [sx_t196_0], [])
theorem sx_k196 : sx_ckE sx_tc 2 0 5000 103 0 sx_c196 sx_z196 = true := by decide +kernel
theorem sx_k196_0 : sx_ckT sx_tc 2 0 5000 103 0 sx_c196 sx_z196 sx_t196_0 = true := by decide +kernel
/-! Tray.lay -/
def sx_t197_0 : sx_Tm := (8, 12, [(50003, 0, 60)], [(19001, 0, 3), (19002, 0, 60)], [], [(0, sx_vr [48]), (1, sx_vi (0, [(19001, 1)])), (2, sx_vi (0, [(19002, 1)])), (3, sx_vi (0, [(20000, 1)]))], [(6145, (0, [(19001, 1)])), (6146, (0, [(19002, 1)]))], (60, [(20000, (-1))]))
def sx_z197 : sx_Ce2 := ([], [12], [sx_t197_0], [])
theorem sx_k197 : sx_ckE sx_tc 2 0 5000 103 0 sx_c197 sx_z197 = true := by decide +kernel
theorem sx_k197_0 : sx_ckT sx_tc 2 0 5000 103 0 sx_c197 sx_z197 sx_t197_0 = true := by decide +kernel
/-! M.week -/
def sx_z343 : sx_Ce2 := ([], [], [], [])
theorem sx_k343 : sx_ckE sx_tc 2 1 5000 284 0 sx_c343 sx_z343 = true := by decide +kernel
/-! CabinPeace.week -/
def sx_z242 : sx_Ce2 := ([], [], [], [])
theorem sx_k242 : sx_ckE sx_tc 2 1 5000 182 0 sx_c242 sx_z242 = true := by decide +kernel
/-! M.wrongParting -/
def sx_z279 : sx_Ce2 := ([], [], [], [])
theorem sx_k279 : sx_ckE sx_tc 2 2 5000 292 0 sx_c279 sx_z279 = true := by decide +kernel
/-! CabinPeace.fault -/
def sx_z208 : sx_Ce2 := ([], [], [], [])
theorem sx_k208 : sx_ckE sx_tc 2 0 5000 144 0 sx_c208 sx_z208 = true := by decide +kernel
/-! M.fault -/
def sx_z294 : sx_Ce2 := ([], [], [], [])
theorem sx_k294 : sx_ckE sx_tc 2 0 5000 212 0 sx_c294 sx_z294 = true := by decide +kernel
/-! Peace.canFill -/
def sx_z127 : sx_Ce2 := ([], [], [], [])
theorem sx_k127 : sx_ckE sx_tc 2 1 5000 37 0 sx_c127 sx_z127 = true := by decide +kernel
/-! Peace.canFill -/
def sx_z128 : sx_Ce2 := ([], [], [], [])
theorem sx_k128 : sx_ckE sx_tc 2 1 5000 37 0 sx_c128 sx_z128 = true := by decide +kernel
/-! M.status -/
def sx_z338 : sx_Ce2 := ([], [], [], [])
theorem sx_k338 : sx_ckE sx_tc 2 0 5000 274 0 sx_c338 sx_z338 = true := by decide +kernel
/-! CabinPeace.status -/
def sx_z237 : sx_Ce2 := ([], [], [], [])
theorem sx_k237 : sx_ckE sx_tc 2 0 5000 174 0 sx_c237 sx_z237 = true := by decide +kernel
/-! Peace.canFill -/
def sx_z129 : sx_Ce2 := ([], [], [], [])
theorem sx_k129 : sx_ckE sx_tc 2 1 5000 37 0 sx_c129 sx_z129 = true := by decide +kernel
/-! Peace.canFill -/
def sx_z131 : sx_Ce2 := ([], [], [], [])
theorem sx_k131 : sx_ckE sx_tc 2 1 5000 37 0 sx_c131 sx_z131 = true := by decide +kernel
/-! Peace.canFill -/
def sx_z130 : sx_Ce2 := ([], [], [], [])
theorem sx_k130 : sx_ckE sx_tc 2 1 5000 37 0 sx_c130 sx_z130 = true := by decide +kernel
