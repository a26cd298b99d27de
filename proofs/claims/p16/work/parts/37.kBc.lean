/-! Worths.bringBack -/
def sx_t191_0 : sx_Tm := (2, 2, [(50002, 1, 256)], [(19001, 0, 7)], [], [(0, sx_vr [50]), (1, sx_vi (0, [(19001, 1)])), (2, sx_vi (0, [(20000, 1)]))], [], (256, [(20000, (-1))]))
def sx_z191 : sx_Ce2 := ([], [2], [sx_t191_0], [])
theorem sx_k191 : sx_ckE sx_tc 2 2 5000 126 0 sx_c191 sx_z191 = true := by decide +kernel
theorem sx_k191_0 : sx_ckT sx_tc 2 2 5000 126 0 sx_c191 sx_z191 sx_t191_0 = true := by decide +kernel
/-! Worths.areFriends -/
def sx_t202_0 : sx_Tm := (11, 17, [(50001, 1, 255), (50002, 0, 8)], [], [(0, [(133, 1), (20001, (-1))])], [(0, sx_vr [50]), (1, sx_vi (0, [(20000, 1)])), (2, sx_vi (0, [(20001, 1)]))], [], (2568, [(20000, (-10)), (20001, (-1))]))
def sx_t202_1 : sx_Tm := (2, 2, [(50001, 1, 256)], [], [], [(0, sx_vr [50]), (1, sx_vi (0, [(20000, 1)]))], [], (2569, [(20000, (-10))]))
def sx_z202 : sx_Ce2 := ([], [2, 17], [sx_t202_0, sx_t202_1], [])
theorem sx_k202 : sx_ckE sx_tc 2 0 5000 124 4 sx_c202 sx_z202 = true := by decide +kernel
theorem sx_k202_0 : sx_ckT sx_tc 2 0 5000 124 4 sx_c202 sx_z202 sx_t202_0 = true := by decide +kernel
theorem sx_k202_1 : sx_ckT sx_tc 2 0 5000 124 4 sx_c202 sx_z202 sx_t202_1 = true := by decide +kernel
/-! Parting.labelRooms -/
def sx_t116_0 : sx_Tm := (19, 29, [(50001, 0, 255), (50002, 0, 8)], [(7172, 0, 8)], [], [(0, sx_vr [56]), (1, sx_vi (0, [(20000, 1)])), (2, sx_vi (0, [(20001, 1)]))], [], (8, [(20001, (-1))]))
def sx_t116_1 : sx_Tm := (4, 4, [(50001, 0, 255), (50002, 0, 8)], [], [(0, [(7172, 1), (20001, (-1))])], [(0, sx_vr [56]), (1, sx_vi (0, [(20000, 1)])), (2, sx_vi (0, [(20001, 1)]))], [], (17, [(20001, (-1))]))
def sx_z116 : sx_Ce2 := ([], [4, 29], [sx_t116_0, sx_t116_1], [])
theorem sx_k116 : sx_ckE sx_tc 2 0 5000 26 0 sx_c116 sx_z116 = true := by decide +kernel
theorem sx_k116_0 : sx_ckT sx_tc 2 0 5000 26 0 sx_c116 sx_z116 sx_t116_0 = true := by decide +kernel
theorem sx_k116_1 : sx_ckT sx_tc 2 0 5000 26 0 sx_c116 sx_z116 sx_t116_1 = true := by decide +kernel
/-! Parting.labelRooms -/
def sx_t117_0 : sx_Tm := (19, 29, [(50001, 0, 255), (50002, 0, 8)], [(12036, 0, 8)], [], [(0, sx_vr [94]), (1, sx_vi (0, [(20000, 1)])), (2, sx_vi (0, [(20001, 1)]))], [], (8, [(20001, (-1))]))
def sx_t117_1 : sx_Tm := (4, 4, [(50001, 0, 255), (50002, 0, 8)], [], [(0, [(12036, 1), (20001, (-1))])], [(0, sx_vr [94]), (1, sx_vi (0, [(20000, 1)])), (2, sx_vi (0, [(20001, 1)]))], [], (17, [(20001, (-1))]))
def sx_z117 : sx_Ce2 := ([], [4, 29], [sx_t117_0, sx_t117_1], [])
theorem sx_k117 : sx_ckE sx_tc 2 0 5000 26 0 sx_c117 sx_z117 = true := by decide +kernel
theorem sx_k117_0 : sx_ckT sx_tc 2 0 5000 26 0 sx_c117 sx_z117 sx_t117_0 = true := by decide +kernel
theorem sx_k117_1 : sx_ckT sx_tc 2 0 5000 26 0 sx_c117 sx_z117 sx_t117_1 = true := by decide +kernel
/-! M.scans -/
def sx_t277_0 : sx_Tm := (15, 25, [], [(19001, 5, 5)], [], [(0, sx_vr [100]), (1, sx_vi (0, [(19001, 1)])), (2, sx_vi (0, []))], [(12856, (0, []))], (0, []))
def sx_t277_1 : sx_Tm := (15, 25, [(12856, 1, 63), (18432, 0, 6), (18433, 1, 7)], [(19001, 5, 5)], [], [(0, sx_vr [100]), (1, sx_vi (0, [(19001, 1)])), (2, sx_vi (0, []))], [(12856, (0, [(20000, 1)])), (18432, (0, [(20001, 1)])), (18433, (0, [(20002, 1)]))], (1, []))
def sx_z277 : sx_Ce2 := ([], [25], [sx_t277_0, sx_t277_1], [])
theorem sx_k277 : sx_ckE sx_tc 2 1 5000 269 2 sx_c277 sx_z277 = true := by decide +kernel
theorem sx_k277_0 : sx_ckT sx_tc 2 1 5000 269 2 sx_c277 sx_z277 sx_t277_0 = true := by decide +kernel
theorem sx_k277_1 : sx_ckT sx_tc 2 1 5000 269 2 sx_c277 sx_z277 sx_t277_1 = true := by decide +kernel
/-! M.ran -/
def sx_z330 : sx_Ce2 := ([], [], [], [])
theorem sx_k330 : sx_ckE sx_tc 2 1 5000 259 0 sx_c330 sx_z330 = true := by decide +kernel
/-! M.areLawful -/
def sx_t251_0 : sx_Tm := (4, 4, [(50001, 0, 1), (50002, 0, 8)], [], [(0, [(12804, 1), (20001, (-1))])], [(0, sx_vr [100]), (1, sx_vi (0, [(20000, 1)])), (2, sx_vi (0, [(20001, 1)]))], [], (8, [(20001, (-1))]))
def sx_z251 : sx_Ce2 := ([], [4], [sx_t251_0], [])
theorem sx_k251 : sx_ckE sx_tc 2 0 5000 189 0 sx_c251 sx_z251 = true := by decide +kernel
theorem sx_k251_0 : sx_ckT sx_tc 2 0 5000 189 0 sx_c251 sx_z251 sx_t251_0 = true := by decide +kernel
/-! CabinPeace.ran -/
def sx_z224 : sx_Ce2 := ([], [], [], [])
theorem sx_k224 : sx_ckE sx_tc 2 1 5000 166 0 sx_c224 sx_z224 = true := by decide +kernel
/-! Parting.move -/
def sx_t118_0 : sx_Tm := (15, 26, [(50003, 0, 255), (50005, 0, 8)], [(19001, 1, 255), (19002, (-1), (-1))], [], [(0, sx_vr [56]), (1, sx_vi (0, [(19001, 1)])), (2, sx_vi (0, [(19002, 1)])), (3, sx_vi (0, [(20000, 1)])), (4, sx_vi (8, [])), (5, sx_vi (0, [(20001, 1)]))], [], (8, [(20001, (-1))]))
def sx_z118 : sx_Ce2 := ([], [26], [sx_t118_0], [])
theorem sx_k118 : sx_ckE sx_tc 2 0 5000 27 1 sx_c118 sx_z118 = true := by decide +kernel
theorem sx_k118_0 : sx_ckT sx_tc 2 0 5000 27 1 sx_c118 sx_z118 sx_t118_0 = true := by decide +kernel
/-! M.bestGroup -/
def sx_t279_0 : sx_Tm := (4, 4, [(50002, 0, 255), (50003, 0, 8)], [(19001, 0, 7)], [(0, [(12804, 1), (20001, (-1))])], [(0, sx_vr [100]), (1, sx_vi (0, [(19001, 1)])), (2, sx_vi (0, [(20000, 1)])), (3, sx_vi (0, [(20001, 1)]))], [], (8, [(20001, (-1))]))
def sx_z279 : sx_Ce2 := ([], [4], [sx_t279_0], [])
theorem sx_k279 : sx_ckE sx_tc 2 0 5000 197 0 sx_c279 sx_z279 = true := by decide +kernel
theorem sx_k279_0 : sx_ckT sx_tc 2 0 5000 197 0 sx_c279 sx_z279 sx_t279_0 = true := by decide +kernel
/-! M.gone -/
def sx_z301 : sx_Ce2 := ([], [], [], [])
theorem sx_k301 : sx_ckE sx_tc 2 1 5000 223 0 sx_c301 sx_z301 = true := by decide +kernel
/-! Worths.anyBetter -/
def sx_t141_0 : sx_Tm := (2, 3, [(50004, 0, 8)], [(19001, 0, 255), (19002, 0, 255), (19003, 0, 255)], [], [(0, sx_vr [50]), (1, sx_vi (0, [(19001, 1)])), (2, sx_vi (0, [(19002, 1)])), (3, sx_vi (0, [(19003, 1)])), (4, sx_vi (0, [(20000, 1)]))], [], (8, [(20000, (-1))]))
def sx_z141 : sx_Ce2 := ([], [3], [sx_t141_0], [])
theorem sx_k141 : sx_ckE sx_tc 2 0 5000 123 0 sx_c141 sx_z141 = true := by decide +kernel
theorem sx_k141_0 : sx_ckT sx_tc 2 0 5000 123 0 sx_c141 sx_z141 sx_t141_0 = true := by decide +kernel
/-! Worths.allBetter -/
def sx_t103_0 : sx_Tm := (2, 3, [(50004, 0, 8)], [(19001, 0, 255), (19002, 1, 255), (19003, 0, 255)], [], [(0, sx_vr [50]), (1, sx_vi (0, [(19001, 1)])), (2, sx_vi (0, [(19002, 1)])), (3, sx_vi (0, [(19003, 1)])), (4, sx_vi (0, [(20000, 1)]))], [], (8, [(20000, (-1))]))
def sx_z103 : sx_Ce2 := ([], [3], [sx_t103_0], [])
theorem sx_k103 : sx_ckE sx_tc 2 0 5000 122 0 sx_c103 sx_z103 = true := by decide +kernel
theorem sx_k103_0 : sx_ckT sx_tc 2 0 5000 122 0 sx_c103 sx_z103 sx_t103_0 = true := by decide +kernel
/-! M.borne -/
def sx_t266_0 : sx_Tm := (4, 4, [(50001, 0, 2147483647), (50002, 0, 300)], [], [(0, [(12856, 1), (20001, (-1))])], [(0, sx_vr [100]), (1, sx_vi (0, [(20000, 1)])), (2, sx_vi (0, [(20001, 1)]))], [], (300, [(20001, (-1))]))
def sx_z266 : sx_Ce2 := ([], [4], [sx_t266_0], [])
theorem sx_k266 : sx_ckE sx_tc 2 1 5000 199 0 sx_c266 sx_z266 = true := by decide +kernel
theorem sx_k266_0 : sx_ckT sx_tc 2 1 5000 199 0 sx_c266 sx_z266 sx_t266_0 = true := by decide +kernel
/-! M.bits -/
def sx_t252_0 : sx_Tm := (4, 4, [(50001, (-2147483648), 2147483647), (50002, 0, 255)], [(19000, 0, 255)], [(0, [(19000, 1), (20001, (-1))])], [(0, sx_vi (0, [(19000, 1)])), (1, sx_vi (0, [(20000, 1)])), (2, sx_vi (0, [(20001, 1)]))], [], (0, [(20001, 1)]))
def sx_z252 : sx_Ce2 := ([], [4], [sx_t252_0], [])
theorem sx_k252 : sx_ckE sx_tc 12 0 5000 198 0 sx_c252 sx_z252 = true := by decide +kernel
theorem sx_k252_0 : sx_ckT sx_tc 12 0 5000 198 0 sx_c252 sx_z252 sx_t252_0 = true := by decide +kernel
/-! M.tells -/
def sx_t334_0 : sx_Tm := (2, 2, [(50002, 0, 8)], [(19001, 0, 3)], [(0, [(12804, 1), (20000, (-1))])], [(0, sx_vr [100]), (1, sx_vi (0, [(19001, 1)])), (2, sx_vi (0, [(20000, 1)]))], [], (8, [(20000, (-1))]))
def sx_z334 : sx_Ce2 := ([], [2], [sx_t334_0], [])
theorem sx_k334 : sx_ckE sx_tc 2 0 5000 278 0 sx_c334 sx_z334 = true := by decide +kernel
theorem sx_k334_0 : sx_ckT sx_tc 2 0 5000 278 0 sx_c334 sx_z334 sx_t334_0 = true := by decide +kernel
/-! CabinPeace.sizes -/
def sx_z236 : sx_Ce2 := ([], [], [], [])
theorem sx_k236 : sx_ckE sx_tc 2 2 5000 172 0 sx_c236 sx_z236 = true := by decide +kernel
/-! Wish.beginTest -/
def sx_z175 : sx_Ce2 := ([], [], [], [0])
theorem sx_k175 : sx_ckE sx_tc 2 0 5000 105 0 sx_c175 sx_z175 = true := by decide +kernel
/-! World.isAllAlike -/
def sx_t200_0 : sx_Tm := (2, 2, [(50001, 1, 256)], [], [(1, [(8066, 1), (20000, (-1))])], [(0, sx_vr [63]), (1, sx_vi (0, [(20000, 1)]))], [], (256, [(20000, (-1))]))
def sx_z200 : sx_Ce2 := ([], [2], [sx_t200_0], [])
theorem sx_k200 : sx_ckE sx_tc 2 0 5000 117 5 sx_c200 sx_z200 = true := by decide +kernel
theorem sx_k200_0 : sx_ckT sx_tc 2 0 5000 117 5 sx_c200 sx_z200 sx_t200_0 = true := by decide +kernel
/-! Partings.canGoOn -/
def sx_t124_0 : sx_Tm := (2, 2, [(50002, 0, 8)], [(19001, 0, 7)], [(0, [(8964, 1), (20000, (-1))])], [(0, sx_vr [69]), (1, sx_vi (0, [(19001, 1)])), (2, sx_vi (0, [(20000, 1)]))], [], (8, [(20000, (-1))]))
def sx_z124 : sx_Ce2 := ([], [2], [sx_t124_0], [])
theorem sx_k124 : sx_ckE sx_tc 2 0 5000 32 0 sx_c124 sx_z124 = true := by decide +kernel
theorem sx_k124_0 : sx_ckT sx_tc 2 0 5000 32 0 sx_c124 sx_z124 sx_t124_0 = true := by decide +kernel
/-! M.scans -/
def sx_t275_0 : sx_Tm := (15, 25, [(12856, 0, 255), (18432, 0, 255), (18433, 0, 255)], [(19001, 4, 4)], [], [(0, sx_vr [100]), (1, sx_vi (0, [(19001, 1)])), (2, sx_vi (0, []))], [(12856, (0, [(20000, 1)])), (18432, (0, [(20001, 1)])), (18433, (0, [(20002, 1)]))], (0, []))
def sx_z275 : sx_Ce2 := ([], [25], [sx_t275_0], [])
theorem sx_k275 : sx_ckE sx_tc 2 1 5000 269 2 sx_c275 sx_z275 = true := by decide +kernel
theorem sx_k275_0 : sx_ckT sx_tc 2 1 5000 269 2 sx_c275 sx_z275 sx_t275_0 = true := by decide +kernel
/-! M.does -/
def sx_z295 : sx_Ce2 := ([], [], [], [])
theorem sx_k295 : sx_ckE sx_tc 2 0 5000 209 2 sx_c295 sx_z295 = true := by decide +kernel
/-! CabinPeace.gone -/
def sx_z214 : sx_Ce2 := ([], [], [], [])
theorem sx_k214 : sx_ckE sx_tc 2 1 5000 150 0 sx_c214 sx_z214 = true := by decide +kernel
/-! Peace.hasSlimWithin -/
def sx_t146_0 : sx_Tm := (2, 2, [(50002, 0, 4140)], [(19001, (-2147483648), 2147483647)], [(0, [(11403, 1), (20000, (-1))])], [(0, sx_vr [89]), (1, sx_vi (0, [(19001, 1)])), (2, sx_vi (0, [(20000, 1)]))], [], (4140, [(20000, (-1))]))
def sx_z146 : sx_Ce2 := ([], [2], [sx_t146_0], [])
theorem sx_k146 : sx_ckE sx_tc 2 0 5000 42 0 sx_c146 sx_z146 = true := by decide +kernel
theorem sx_k146_0 : sx_ckT sx_tc 2 0 5000 42 0 sx_c146 sx_z146 sx_t146_0 = true := by decide +kernel
/-! Tray.lay -/
def sx_t195_0 : sx_Tm := (8, 12, [(50003, 0, 60)], [(19001, 0, 3), (19002, 0, 60)], [], [(0, sx_vr [42]), (1, sx_vi (0, [(19001, 1)])), (2, sx_vi (0, [(19002, 1)])), (3, sx_vi (0, [(20000, 1)]))], [(5377, (0, [(19001, 1)])), (5378, (0, [(19002, 1)]))], (60, [(20000, (-1))]))
def sx_z195 : sx_Ce2 := ([], [12], [sx_t195_0], [])
theorem sx_k195 : sx_ckE sx_tc 2 0 5000 103 0 sx_c195 sx_z195 = true := by decide +kernel
theorem sx_k195_0 : sx_ckT sx_tc 2 0 5000 103 0 sx_c195 sx_z195 sx_t195_0 = true := by decide +kernel
/-! M.sizes -/
def sx_z339 : sx_Ce2 := ([], [], [], [])
theorem sx_k339 : sx_ckE sx_tc 2 1 5000 271 0 sx_c339 sx_z339 = true := by decide +kernel
/-! M.keepsBest -/
def sx_t286_0 : sx_Tm := (2, 2, [(50001, 0, 8)], [], [(0, [(12804, 1), (20000, (-1))])], [(0, sx_vr [100]), (1, sx_vi (0, [(20000, 1)]))], [], (8, [(20000, (-1))]))
def sx_z286 : sx_Ce2 := ([], [2], [sx_t286_0], [])
theorem sx_k286 : sx_ckE sx_tc 2 0 5000 241 0 sx_c286 sx_z286 = true := by decide +kernel
theorem sx_k286_0 : sx_ckT sx_tc 2 0 5000 241 0 sx_c286 sx_z286 sx_t286_0 = true := by decide +kernel
/-! Search.keepGone -/
def sx_t182_0 : sx_Tm := (2, 2, [(50001, 0, 8)], [], [], [(0, sx_vr [55]), (1, sx_vi (0, [(20000, 1)]))], [], (8, [(20000, (-1))]))
def sx_z182 : sx_Ce2 := ([], [2], [sx_t182_0], [])
theorem sx_k182 : sx_ckE sx_tc 2 0 5000 84 0 sx_c182 sx_z182 = true := by decide +kernel
theorem sx_k182_0 : sx_ckT sx_tc 2 0 5000 84 0 sx_c182 sx_z182 sx_t182_0 = true := by decide +kernel
/-! Tray.lay -/
def sx_t196_0 : sx_Tm := (8, 12, [(50003, 0, 60)], [(19001, 0, 3), (19002, 0, 60)], [], [(0, sx_vr [44]), (1, sx_vi (0, [(19001, 1)])), (2, sx_vi (0, [(19002, 1)])), (3, sx_vi (0, [(20000, 1)]))], [(5633, (0, [(19001, 1)])), (5634, (0, [(19002, 1)]))], (60, [(20000, (-1))]))
def sx_z196 : sx_Ce2 := ([], [12], [sx_t196_0], [])
theorem sx_k196 : sx_ckE sx_tc 2 0 5000 103 0 sx_c196 sx_z196 = true := by decide +kernel
theorem sx_k196_0 : sx_ckT sx_tc 2 0 5000 103 0 sx_c196 sx_z196 sx_t196_0 = true := by decide +kernel
/-! Tray.lay -/
def sx_t198_0 : sx_Tm := (8, 12, [(50003, 0, 60)], [(19001, 0, 3), (19002, 0, 60)], [], [(0, sx_vr [48]), (1, sx_vi (0, [(19001, 1)])), (2, sx_vi (0, [(19002, 1)])), (3, sx_vi (0, [(20000, 1)]))], [(6145, (0, [(19001, 1)])), (6146, (0, [(19002, 1)]))], (60, [(20000, (-1))]))
def sx_z198 : sx_Ce2 := ([], [12], [sx_t198_0], [])
theorem sx_k198 : sx_ckE sx_tc 2 0 5000 103 0 sx_c198 sx_z198 = true := by decide +kernel
theorem sx_k198_0 : sx_ckT sx_tc 2 0 5000 103 0 sx_c198 sx_z198 sx_t198_0 = true := by decide +kernel
/-! Tray.lay -/
def sx_t197_0 : sx_Tm := (8, 12, [(50003, 0, 60)], [(19001, 0, 3), (19002, 0, 60)], [], [(0, sx_vr [46]), (1, sx_vi (0, [(19001, 1)])), (2, sx_vi (0, [(19002, 1)])), (3, sx_vi (0, [(20000, 1)]))], [(5889, (0, [(19001, 1)])), (5890, (0, [(19002, 1)]))], (60, [(20000, (-1))]))
def sx_z197 : sx_Ce2 := ([], [12], [sx_t197_0], [])
theorem sx_k197 : sx_ckE sx_tc 2 0 5000 103 0 sx_c197 sx_z197 = true := by decide +kernel
theorem sx_k197_0 : sx_ckT sx_tc 2 0 5000 103 0 sx_c197 sx_z197 sx_t197_0 = true := by decide +kernel
/-! M.week -/
def sx_z346 : sx_Ce2 := ([], [], [], [])
theorem sx_k346 : sx_ckE sx_tc 2 1 5000 284 0 sx_c346 sx_z346 = true := by decide +kernel
/-! CabinPeace.week -/
def sx_z243 : sx_Ce2 := ([], [], [], [])
theorem sx_k243 : sx_ckE sx_tc 2 1 5000 182 0 sx_c243 sx_z243 = true := by decide +kernel
/-! M.wrongParting -/
def sx_z281 : sx_Ce2 := ([], [], [], [])
theorem sx_k281 : sx_ckE sx_tc 2 2 5000 292 0 sx_c281 sx_z281 = true := by decide +kernel
/-! CabinPeace.fault -/
def sx_z209 : sx_Ce2 := ([], [], [], [])
theorem sx_k209 : sx_ckE sx_tc 2 0 5000 144 0 sx_c209 sx_z209 = true := by decide +kernel
/-! M.fault -/
def sx_z296 : sx_Ce2 := ([], [], [], [])
theorem sx_k296 : sx_ckE sx_tc 2 0 5000 212 0 sx_c296 sx_z296 = true := by decide +kernel
/-! Peace.canFill -/
def sx_z127 : sx_Ce2 := ([], [], [], [])
theorem sx_k127 : sx_ckE sx_tc 2 1 5000 37 0 sx_c127 sx_z127 = true := by decide +kernel
/-! Peace.canFill -/
def sx_z128 : sx_Ce2 := ([], [], [], [])
theorem sx_k128 : sx_ckE sx_tc 2 1 5000 37 0 sx_c128 sx_z128 = true := by decide +kernel
/-! CabinPeace.status -/
def sx_z238 : sx_Ce2 := ([], [], [], [])
theorem sx_k238 : sx_ckE sx_tc 2 0 5000 174 0 sx_c238 sx_z238 = true := by decide +kernel
/-! M.status -/
def sx_z341 : sx_Ce2 := ([], [], [], [])
theorem sx_k341 : sx_ckE sx_tc 2 0 5000 274 0 sx_c341 sx_z341 = true := by decide +kernel
