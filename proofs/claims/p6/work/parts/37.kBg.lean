/-! Peace.canFill -/
def sx_t133_0 : sx_Tm := (29, 46, [(50004, 0, 63), (50005, 0, 4140)], [(11403, 1, 4140), (19001, (-2147483648), 2147483647), (19002, 2, 2), (19003, 0, 4139)], [(0, [(19003, (-1)), (20001, 1)])], [(0, sx_vr [89]), (1, sx_vi (0, [(19001, 1)])), (2, sx_vi (0, [(19002, 1)])), (3, sx_vi (0, [(19003, 1)])), (4, sx_vi (0, [(20000, 1)])), (5, sx_vi (0, [(20001, 1)]))], [], (4140, [(20001, (-1))]))
def sx_z133 : sx_Ce2 := ([], [46], [sx_t133_0], [])
theorem sx_k133 : sx_ckE sx_tc 2 1 5000 37 4 sx_c133 sx_z133 = true := by decide +kernel
theorem sx_k133_0 : sx_ckT sx_tc 2 1 5000 37 4 sx_c133 sx_z133 sx_t133_0 = true := by decide +kernel
/-! People.allows -/
def sx_t120_0 : sx_Tm := (15, 22, [(50004, 0, 8)], [(19001, 1, 255), (19002, (-2147483648), 2147483647), (19003, 0, 255)], [(0, [(133, 1), (20000, (-1))])], [(0, sx_vr [1]), (1, sx_vi (0, [(19001, 1)])), (2, sx_vi (0, [(19002, 1)])), (3, sx_vi (0, [(19003, 1)])), (4, sx_vi (0, [(20000, 1)]))], [], (8, [(20000, (-1))]))
def sx_z120 : sx_Ce2 := ([], [22], [sx_t120_0], [])
theorem sx_k120 : sx_ckE sx_tc 2 1 5000 50 0 sx_c120 sx_z120 = true := by decide +kernel
theorem sx_k120_0 : sx_ckT sx_tc 2 1 5000 50 0 sx_c120 sx_z120 sx_t120_0 = true := by decide +kernel
/-! Peace.canFill -/
def sx_t132_0 : sx_Tm := (29, 46, [(50004, 0, 63), (50005, 0, 4140)], [(11403, 1, 4140), (19001, (-2147483648), 2147483647), (19002, 1, 1), (19003, 0, 4139)], [(0, [(19003, (-1)), (20001, 1)])], [(0, sx_vr [89]), (1, sx_vi (0, [(19001, 1)])), (2, sx_vi (0, [(19002, 1)])), (3, sx_vi (0, [(19003, 1)])), (4, sx_vi (0, [(20000, 1)])), (5, sx_vi (0, [(20001, 1)]))], [], (4140, [(20001, (-1))]))
def sx_z132 : sx_Ce2 := ([], [46], [sx_t132_0], [])
theorem sx_k132 : sx_ckE sx_tc 2 1 5000 37 2 sx_c132 sx_z132 = true := by decide +kernel
theorem sx_k132_0 : sx_ckT sx_tc 2 1 5000 37 2 sx_c132 sx_z132 sx_t132_0 = true := by decide +kernel
/-! CabinPeace.bars -/
def sx_z204 : sx_Ce2 := ([], [], [], [])
theorem sx_k204 : sx_ckE sx_tc 2 3 5000 140 0 sx_c204 sx_z204 = true := by decide +kernel
/-! Parting.key -/
def sx_t114_0 : sx_Tm := (10, 14, [(50001, (-2147483648), 2147483647), (50002, 0, 7), (50003, 0, 8)], [(8964, 1, 8)], [((-1), [(8964, 1), (20001, (-1))])], [(0, sx_vr [70]), (1, sx_vi (0, [(20000, 1)])), (2, sx_vi (0, [(20001, 1)])), (3, sx_vi (0, [(20002, 1)]))], [], (88, [(20001, (-10)), (20002, (-1))]))
def sx_t114_1 : sx_Tm := (4, 4, [(50001, (-2147483648), 2147483647), (50002, 0, 8)], [], [(0, [(8964, 1), (20001, (-1))])], [(0, sx_vr [70]), (1, sx_vi (0, [(20000, 1)])), (2, sx_vi (0, [(20001, 1)]))], [], (89, [(20001, (-10))]))
def sx_z114 : sx_Ce2 := ([], [4, 14], [sx_t114_0, sx_t114_1], [])
theorem sx_k114 : sx_ckE sx_tc 2 0 5000 25 0 sx_c114 sx_z114 = true := by decide +kernel
theorem sx_k114_0 : sx_ckT sx_tc 2 0 5000 25 0 sx_c114 sx_z114 sx_t114_0 = true := by decide +kernel
theorem sx_k114_1 : sx_ckT sx_tc 2 0 5000 25 0 sx_c114 sx_z114 sx_t114_1 = true := by decide +kernel
/-! Peace.canFill -/
def sx_t136_0 : sx_Tm := (29, 46, [(50004, 0, 63), (50005, 0, 4140)], [(11403, 1, 4140), (19001, 0, 0), (19002, 5, 5), (19003, 0, 0)], [(0, [(11403, 1), (20001, (-1))])], [(0, sx_vr [89]), (1, sx_vi (0, [(19001, 1)])), (2, sx_vi (0, [(19002, 1)])), (3, sx_vi (0, [(19003, 1)])), (4, sx_vi (0, [(20000, 1)])), (5, sx_vi (0, [(20001, 1)]))], [], (4140, [(20001, (-1))]))
def sx_z136 : sx_Ce2 := ([], [46], [sx_t136_0], [])
theorem sx_k136 : sx_ckE sx_tc 2 1 5000 37 10 sx_c136 sx_z136 = true := by decide +kernel
theorem sx_k136_0 : sx_ckT sx_tc 2 1 5000 37 10 sx_c136 sx_z136 sx_t136_0 = true := by decide +kernel
/-! Worths.bringBack -/
def sx_t190_0 : sx_Tm := (2, 2, [(50002, 1, 256)], [(19001, 0, 7)], [], [(0, sx_vr [50]), (1, sx_vi (0, [(19001, 1)])), (2, sx_vi (0, [(20000, 1)]))], [], (256, [(20000, (-1))]))
def sx_z190 : sx_Ce2 := ([], [2], [sx_t190_0], [])
theorem sx_k190 : sx_ckE sx_tc 2 2 5000 126 0 sx_c190 sx_z190 = true := by decide +kernel
theorem sx_k190_0 : sx_ckT sx_tc 2 2 5000 126 0 sx_c190 sx_z190 sx_t190_0 = true := by decide +kernel
/-! Parting.key -/
def sx_t115_0 : sx_Tm := (10, 14, [(50001, (-2147483648), 2147483647), (50002, 0, 7), (50003, 0, 8)], [(12036, 1, 8)], [((-1), [(12036, 1), (20001, (-1))])], [(0, sx_vr [94]), (1, sx_vi (0, [(20000, 1)])), (2, sx_vi (0, [(20001, 1)])), (3, sx_vi (0, [(20002, 1)]))], [], (88, [(20001, (-10)), (20002, (-1))]))
def sx_t115_1 : sx_Tm := (4, 4, [(50001, (-2147483648), 2147483647), (50002, 0, 8)], [], [(0, [(12036, 1), (20001, (-1))])], [(0, sx_vr [94]), (1, sx_vi (0, [(20000, 1)])), (2, sx_vi (0, [(20001, 1)]))], [], (89, [(20001, (-10))]))
def sx_z115 : sx_Ce2 := ([], [4, 14], [sx_t115_0, sx_t115_1], [])
theorem sx_k115 : sx_ckE sx_tc 2 0 5000 25 0 sx_c115 sx_z115 = true := by decide +kernel
theorem sx_k115_0 : sx_ckT sx_tc 2 0 5000 25 0 sx_c115 sx_z115 sx_t115_0 = true := by decide +kernel
theorem sx_k115_1 : sx_ckT sx_tc 2 0 5000 25 0 sx_c115 sx_z115 sx_t115_1 = true := by decide +kernel
/-! Peace.sharing -/
def sx_t149_0 : sx_Tm := (4, 5, [(50003, 0, 4140), (50004, 0, 4140)], [(19001, 0, 7), (19002, 0, 7)], [(0, [(11397, 1), (20001, (-1))]), (0, [(20000, (-1)), (20001, 1)]), (0, [(11397, 1), (20000, (-1))])], [(0, sx_vr [89]), (1, sx_vi (0, [(19001, 1)])), (2, sx_vi (0, [(19002, 1)])), (3, sx_vi (0, [(20000, 1)])), (4, sx_vi (0, [(20001, 1)]))], [], (4140, [(20001, (-1))]))
def sx_z149 : sx_Ce2 := ([], [5], [sx_t149_0], [])
theorem sx_k149 : sx_ckE sx_tc 2 1 5000 48 0 sx_c149 sx_z149 = true := by decide +kernel
theorem sx_k149_0 : sx_ckT sx_tc 2 1 5000 48 0 sx_c149 sx_z149 sx_t149_0 = true := by decide +kernel
/-! Worths.areFriends -/
def sx_t201_0 : sx_Tm := (11, 17, [(50001, 1, 255), (50002, 0, 8)], [], [(0, [(133, 1), (20001, (-1))])], [(0, sx_vr [50]), (1, sx_vi (0, [(20000, 1)])), (2, sx_vi (0, [(20001, 1)]))], [], (2568, [(20000, (-10)), (20001, (-1))]))
def sx_t201_1 : sx_Tm := (2, 2, [(50001, 1, 256)], [], [], [(0, sx_vr [50]), (1, sx_vi (0, [(20000, 1)]))], [], (2569, [(20000, (-10))]))
def sx_z201 : sx_Ce2 := ([], [2, 17], [sx_t201_0, sx_t201_1], [])
theorem sx_k201 : sx_ckE sx_tc 2 0 5000 124 4 sx_c201 sx_z201 = true := by decide +kernel
theorem sx_k201_0 : sx_ckT sx_tc 2 0 5000 124 4 sx_c201 sx_z201 sx_t201_0 = true := by decide +kernel
theorem sx_k201_1 : sx_ckT sx_tc 2 0 5000 124 4 sx_c201 sx_z201 sx_t201_1 = true := by decide +kernel
/-! M.ran -/
def sx_z327 : sx_Ce2 := ([], [], [], [])
theorem sx_k327 : sx_ckE sx_tc 2 1 5000 259 0 sx_c327 sx_z327 = true := by decide +kernel
/-! Parting.move -/
def sx_t119_0 : sx_Tm := (15, 26, [(50003, 0, 255), (50004, 0, 8), (50005, 0, 8)], [(19001, (-2147483648), 2147483647), (19002, (-1), 7)], [], [(0, sx_vr [94]), (1, sx_vi (0, [(19001, 1)])), (2, sx_vi (0, [(19002, 1)])), (3, sx_vi (0, [(20000, 1)])), (4, sx_vi (0, [(20001, 1)])), (5, sx_vi (0, [(20002, 1)]))], [], (8, [(20002, (-1))]))
def sx_z119 : sx_Ce2 := ([], [26], [sx_t119_0], [])
theorem sx_k119 : sx_ckE sx_tc 2 0 5000 27 1 sx_c119 sx_z119 = true := by decide +kernel
theorem sx_k119_0 : sx_ckT sx_tc 2 0 5000 27 1 sx_c119 sx_z119 sx_t119_0 = true := by decide +kernel
/-! Parting.labelRooms -/
def sx_t116_0 : sx_Tm := (19, 29, [(50001, 0, 255), (50002, 0, 8)], [(7172, 0, 8)], [], [(0, sx_vr [56]), (1, sx_vi (0, [(20000, 1)])), (2, sx_vi (0, [(20001, 1)]))], [], (8, [(20001, (-1))]))
def sx_t116_1 : sx_Tm := (4, 4, [(50001, 0, 255), (50002, 0, 8)], [], [(0, [(7172, 1), (20001, (-1))])], [(0, sx_vr [56]), (1, sx_vi (0, [(20000, 1)])), (2, sx_vi (0, [(20001, 1)]))], [], (17, [(20001, (-1))]))
def sx_z116 : sx_Ce2 := ([], [4, 29], [sx_t116_0, sx_t116_1], [])
theorem sx_k116 : sx_ckE sx_tc 2 0 5000 26 0 sx_c116 sx_z116 = true := by decide +kernel
theorem sx_k116_0 : sx_ckT sx_tc 2 0 5000 26 0 sx_c116 sx_z116 sx_t116_0 = true := by decide +kernel
theorem sx_k116_1 : sx_ckT sx_tc 2 0 5000 26 0 sx_c116 sx_z116 sx_t116_1 = true := by decide +kernel
/-! Parting.labelRooms -/
def sx_t117_0 : sx_Tm := (19, 29, [(50001, 0, 255), (50002, 0, 8)], [(12036, 0, 8)], [], [(0, sx_vr [94]), (1, sx_vi (0, [(20000, 1)])), (2, sx_vi (0, [(20001, 1)]))], [], (8, [(20001, (-1))]))
def sx_t117_1 : sx_Tm := (4, 4, [(50001, 0, 255), (50002, 0, 8)], [], [(0, [(12036, 1), (20001, (-1))])], [(0, sx_vr [94]), (1, sx_vi (0, [(20000, 1)])), (2, sx_vi (0, [(20001, 1)]))], [], (17, [(20001, (-1))]))
def sx_z117 : sx_Ce2 := ([], [4, 29], [sx_t117_0, sx_t117_1], [])
theorem sx_k117 : sx_ckE sx_tc 2 0 5000 26 0 sx_c117 sx_z117 = true := by decide +kernel
theorem sx_k117_0 : sx_ckT sx_tc 2 0 5000 26 0 sx_c117 sx_z117 sx_t117_0 = true := by decide +kernel
theorem sx_k117_1 : sx_ckT sx_tc 2 0 5000 26 0 sx_c117 sx_z117 sx_t117_1 = true := by decide +kernel
/-! M.gone -/
def sx_z299 : sx_Ce2 := ([], [], [], [])
theorem sx_k299 : sx_ckE sx_tc 2 1 5000 223 0 sx_c299 sx_z299 = true := by decide +kernel
/-! M.scans -/
def sx_t276_0 : sx_Tm := (15, 25, [], [(19001, 5, 5)], [], [(0, sx_vr [100]), (1, sx_vi (0, [(19001, 1)])), (2, sx_vi (0, []))], [(12856, (0, []))], (0, []))
def sx_t276_1 : sx_Tm := (15, 25, [(12856, 1, 63), (18432, 0, 6), (18433, 1, 7)], [(19001, 5, 5)], [], [(0, sx_vr [100]), (1, sx_vi (0, [(19001, 1)])), (2, sx_vi (0, []))], [(12856, (0, [(20000, 1)])), (18432, (0, [(20001, 1)])), (18433, (0, [(20002, 1)]))], (1, []))
def sx_z276 : sx_Ce2 := ([], [25], [sx_t276_0, sx_t276_1], [])
theorem sx_k276 : sx_ckE sx_tc 2 1 5000 269 2 sx_c276 sx_z276 = true := by decide +kernel
theorem sx_k276_0 : sx_ckT sx_tc 2 1 5000 269 2 sx_c276 sx_z276 sx_t276_0 = true := by decide +kernel
theorem sx_k276_1 : sx_ckT sx_tc 2 1 5000 269 2 sx_c276 sx_z276 sx_t276_1 = true := by decide +kernel
/-! CabinPeace.ran -/
def sx_z223 : sx_Ce2 := ([], [], [], [])
theorem sx_k223 : sx_ckE sx_tc 2 1 5000 166 0 sx_c223 sx_z223 = true := by decide +kernel
/-! M.bestGroup -/
def sx_t278_0 : sx_Tm := (4, 4, [(50002, 0, 255), (50003, 0, 8)], [(19001, 0, 7)], [(0, [(12804, 1), (20001, (-1))])], [(0, sx_vr [100]), (1, sx_vi (0, [(19001, 1)])), (2, sx_vi (0, [(20000, 1)])), (3, sx_vi (0, [(20001, 1)]))], [], (8, [(20001, (-1))]))
def sx_z278 : sx_Ce2 := ([], [4], [sx_t278_0], [])
theorem sx_k278 : sx_ckE sx_tc 2 0 5000 197 0 sx_c278 sx_z278 = true := by decide +kernel
theorem sx_k278_0 : sx_ckT sx_tc 2 0 5000 197 0 sx_c278 sx_z278 sx_t278_0 = true := by decide +kernel
/-! Parting.move -/
def sx_t118_0 : sx_Tm := (15, 26, [(50003, 0, 255), (50005, 0, 8)], [(19001, 1, 255), (19002, (-1), (-1))], [], [(0, sx_vr [56]), (1, sx_vi (0, [(19001, 1)])), (2, sx_vi (0, [(19002, 1)])), (3, sx_vi (0, [(20000, 1)])), (4, sx_vi (8, [])), (5, sx_vi (0, [(20001, 1)]))], [], (8, [(20001, (-1))]))
def sx_z118 : sx_Ce2 := ([], [26], [sx_t118_0], [])
theorem sx_k118 : sx_ckE sx_tc 2 0 5000 27 1 sx_c118 sx_z118 = true := by decide +kernel
theorem sx_k118_0 : sx_ckT sx_tc 2 0 5000 27 1 sx_c118 sx_z118 sx_t118_0 = true := by decide +kernel
/-! M.areLawful -/
def sx_t250_0 : sx_Tm := (4, 4, [(50001, 0, 1), (50002, 0, 8)], [], [(0, [(12804, 1), (20001, (-1))])], [(0, sx_vr [100]), (1, sx_vi (0, [(20000, 1)])), (2, sx_vi (0, [(20001, 1)]))], [], (8, [(20001, (-1))]))
def sx_z250 : sx_Ce2 := ([], [4], [sx_t250_0], [])
theorem sx_k250 : sx_ckE sx_tc 2 0 5000 189 0 sx_c250 sx_z250 = true := by decide +kernel
theorem sx_k250_0 : sx_ckT sx_tc 2 0 5000 189 0 sx_c250 sx_z250 sx_t250_0 = true := by decide +kernel
/-! M.tells -/
def sx_t331_0 : sx_Tm := (2, 2, [(50002, 0, 8)], [(19001, 0, 3)], [(0, [(12804, 1), (20000, (-1))])], [(0, sx_vr [100]), (1, sx_vi (0, [(19001, 1)])), (2, sx_vi (0, [(20000, 1)]))], [], (8, [(20000, (-1))]))
def sx_z331 : sx_Ce2 := ([], [2], [sx_t331_0], [])
theorem sx_k331 : sx_ckE sx_tc 2 0 5000 278 0 sx_c331 sx_z331 = true := by decide +kernel
theorem sx_k331_0 : sx_ckT sx_tc 2 0 5000 278 0 sx_c331 sx_z331 sx_t331_0 = true := by decide +kernel
/-! Worths.anyBetter -/
def sx_t141_0 : sx_Tm := (2, 3, [(50004, 0, 8)], [(19001, 0, 255), (19002, 0, 255), (19003, 0, 255)], [], [(0, sx_vr [50]), (1, sx_vi (0, [(19001, 1)])), (2, sx_vi (0, [(19002, 1)])), (3, sx_vi (0, [(19003, 1)])), (4, sx_vi (0, [(20000, 1)]))], [], (8, [(20000, (-1))]))
def sx_z141 : sx_Ce2 := ([], [3], [sx_t141_0], [])
theorem sx_k141 : sx_ckE sx_tc 2 0 5000 123 0 sx_c141 sx_z141 = true := by decide +kernel
theorem sx_k141_0 : sx_ckT sx_tc 2 0 5000 123 0 sx_c141 sx_z141 sx_t141_0 = true := by decide +kernel
/-! Worths.allBetter -/
def sx_t103_0 : sx_Tm := (2, 3, [(50004, 0, 8)], [(19001, 0, 255), (19002, 1, 255), (19003, 0, 255)], [], [(0, sx_vr [50]), (1, sx_vi (0, [(19001, 1)])), (2, sx_vi (0, [(19002, 1)])), (3, sx_vi (0, [(19003, 1)])), (4, sx_vi (0, [(20000, 1)]))], [], (8, [(20000, (-1))]))
def sx_z103 : sx_Ce2 := ([], [3], [sx_t103_0], [])
theorem sx_k103 : sx_ckE sx_tc 2 0 5000 122 0 sx_c103 sx_z103 = true := by decide +kernel
theorem sx_k103_0 : sx_ckT sx_tc 2 0 5000 122 0 sx_c103 sx_z103 sx_t103_0 = true := by decide +kernel
/-! CabinPeace.sizes -/
def sx_z235 : sx_Ce2 := ([], [], [], [])
theorem sx_k235 : sx_ckE sx_tc 2 2 5000 172 0 sx_c235 sx_z235 = true := by decide +kernel
/-! M.bits -/
def sx_t251_0 : sx_Tm := (4, 4, [(50001, (-2147483648), 2147483647), (50002, 0, 255)], [(19000, 0, 255)], [(0, [(19000, 1), (20001, (-1))])], [(0, sx_vi (0, [(19000, 1)])), (1, sx_vi (0, [(20000, 1)])), (2, sx_vi (0, [(20001, 1)]))], [], (0, [(20001, 1)]))
def sx_z251 : sx_Ce2 := ([], [4], [sx_t251_0], [])
theorem sx_k251 : sx_ckE sx_tc 12 0 5000 198 0 sx_c251 sx_z251 = true := by decide +kernel
theorem sx_k251_0 : sx_ckT sx_tc 12 0 5000 198 0 sx_c251 sx_z251 sx_t251_0 = true := by decide +kernel
/-! M.borne -/
def sx_t265_0 : sx_Tm := (4, 4, [(50001, 0, 2147483647), (50002, 0, 300)], [], [(0, [(12856, 1), (20001, (-1))])], [(0, sx_vr [100]), (1, sx_vi (0, [(20000, 1)])), (2, sx_vi (0, [(20001, 1)]))], [], (300, [(20001, (-1))]))
def sx_z265 : sx_Ce2 := ([], [4], [sx_t265_0], [])
theorem sx_k265 : sx_ckE sx_tc 2 1 5000 199 0 sx_c265 sx_z265 = true := by decide +kernel
theorem sx_k265_0 : sx_ckT sx_tc 2 1 5000 199 0 sx_c265 sx_z265 sx_t265_0 = true := by decide +kernel
/-! M.lawful -/
def sx_z310 : sx_Ce2 := ([], [], [], [])
theorem sx_k310 : sx_ckE sx_tc 2 2 5000 243 2 sx_c310 sx_z310 = true := by decide +kernel
/-! CabinPeace.lawful -/
def sx_z216 : sx_Ce2 := ([], [], [], [])
theorem sx_k216 : sx_ckE sx_tc 2 2 5000 157 2 sx_c216 sx_z216 = true := by decide +kernel
/-! Wish.beginTest -/
def sx_z174 : sx_Ce2 := ([], [], [], [0])
theorem sx_k174 : sx_ckE sx_tc 2 0 5000 105 0 sx_c174 sx_z174 = true := by decide +kernel
/-! M.sizes -/
def sx_z336 : sx_Ce2 := ([], [], [], [])
theorem sx_k336 : sx_ckE sx_tc 2 1 5000 271 0 sx_c336 sx_z336 = true := by decide +kernel
/-! Partings.canGoOn -/
def sx_t124_0 : sx_Tm := (2, 2, [(50002, 0, 8)], [(19001, 0, 7)], [(0, [(8964, 1), (20000, (-1))])], [(0, sx_vr [69]), (1, sx_vi (0, [(19001, 1)])), (2, sx_vi (0, [(20000, 1)]))], [], (8, [(20000, (-1))]))
def sx_z124 : sx_Ce2 := ([], [2], [sx_t124_0], [])
theorem sx_k124 : sx_ckE sx_tc 2 0 5000 32 0 sx_c124 sx_z124 = true := by decide +kernel
theorem sx_k124_0 : sx_ckT sx_tc 2 0 5000 32 0 sx_c124 sx_z124 sx_t124_0 = true := by decide +kernel
/-! World.isAllAlike -/
def sx_t199_0 : sx_Tm := (2, 2, [(50001, 1, 256)], [], [(1, [(8066, 1), (20000, (-1))])], [(0, sx_vr [63]), (1, sx_vi (0, [(20000, 1)]))], [], (256, [(20000, (-1))]))
def sx_z199 : sx_Ce2 := ([], [2], [sx_t199_0], [])
theorem sx_k199 : sx_ckE sx_tc 2 0 5000 117 5 sx_c199 sx_z199 = true := by decide +kernel
theorem sx_k199_0 : sx_ckT sx_tc 2 0 5000 117 5 sx_c199 sx_z199 sx_t199_0 = true := by decide +kernel
/-! M.scans -/
def sx_t274_0 : sx_Tm := (15, 25, [(12856, 0, 255), (18432, 0, 255), (18433, 0, 255)], [(19001, 4, 4)], [], [(0, sx_vr [100]), (1, sx_vi (0, [(19001, 1)])), (2, sx_vi (0, []))], [(12856, (0, [(20000, 1)])), (18432, (0, [(20001, 1)])), (18433, (0, [(20002, 1)]))], (0, []))
def sx_z274 : sx_Ce2 := ([], [25], [sx_t274_0], [])
theorem sx_k274 : sx_ckE sx_tc 2 1 5000 269 2 sx_c274 sx_z274 = true := by decide +kernel
theorem sx_k274_0 : sx_ckT sx_tc 2 1 5000 269 2 sx_c274 sx_z274 sx_t274_0 = true := by decide +kernel
/-! M.does -/
def sx_z293 : sx_Ce2 := ([], [], [], [])
theorem sx_k293 : sx_ckE sx_tc 2 0 5000 209 2 sx_c293 sx_z293 = true := by decide +kernel
/-! Peace.hasSlimWithin -/
def sx_t146_0 : sx_Tm := (2, 2, [(50002, 0, 4140)], [(19001, (-2147483648), 2147483647)], [(0, [(11403, 1), (20000, (-1))])], [(0, sx_vr [89]), (1, sx_vi (0, [(19001, 1)])), (2, sx_vi (0, [(20000, 1)]))], [], (4140, [(20000, (-1))]))
def sx_z146 : sx_Ce2 := ([], [2], [sx_t146_0], [])
theorem sx_k146 : sx_ckE sx_tc 2 0 5000 42 0 sx_c146 sx_z146 = true := by decide +kernel
theorem sx_k146_0 : sx_ckT sx_tc 2 0 5000 42 0 sx_c146 sx_z146 sx_t146_0 = true := by decide +kernel
/-! CabinPeace.gone -/
def sx_z213 : sx_Ce2 := ([], [], [], [])
theorem sx_k213 : sx_ckE sx_tc 2 1 5000 150 0 sx_c213 sx_z213 = true := by decide +kernel
/-! Tray.lay -/
def sx_t194_0 : sx_Tm := (8, 12, [(50003, 0, 60)], [(19001, 0, 3), (19002, 0, 60)], [], [(0, sx_vr [42]), (1, sx_vi (0, [(19001, 1)])), (2, sx_vi (0, [(19002, 1)])), (3, sx_vi (0, [(20000, 1)]))], [(5377, (0, [(19001, 1)])), (5378, (0, [(19002, 1)]))], (60, [(20000, (-1))]))
def sx_z194 : sx_Ce2 := ([], [12], [sx_t194_0], [])
theorem sx_k194 : sx_ckE sx_tc 2 0 5000 103 0 sx_c194 sx_z194 = true := by decide +kernel
theorem sx_k194_0 : sx_ckT sx_tc 2 0 5000 103 0 sx_c194 sx_z194 sx_t194_0 = true := by decide +kernel
/-! M.keepsBest -/
def sx_t284_0 : sx_Tm := (2, 2, [(50001, 0, 8)], [], [(0, [(12804, 1), (20000, (-1))])], [(0, sx_vr [100]), (1, sx_vi (0, [(20000, 1)]))], [], (8, [(20000, (-1))]))
def sx_z284 : sx_Ce2 := ([], [2], [sx_t284_0], [])
theorem sx_k284 : sx_ckE sx_tc 2 0 5000 241 0 sx_c284 sx_z284 = true := by decide +kernel
theorem sx_k284_0 : sx_ckT sx_tc 2 0 5000 241 0 sx_c284 sx_z284 sx_t284_0 = true := by decide +kernel
/-! Search.keepGone -/
def sx_t181_0 : sx_Tm := (2, 2, [(50001, 0, 8)], [], [], [(0, sx_vr [55]), (1, sx_vi (0, [(20000, 1)]))], [], (8, [(20000, (-1))]))
def sx_z181 : sx_Ce2 := ([], [2], [sx_t181_0], [])
theorem sx_k181 : sx_ckE sx_tc 2 0 5000 84 0 sx_c181 sx_z181 = true := by decide +kernel
theorem sx_k181_0 : sx_ckT sx_tc 2 0 5000 84 0 sx_c181 sx_z181 sx_t181_0 = true := by decide +kernel
/-! Tray.lay -/
def sx_t195_0 : sx_Tm := (8, 12, [(50003, 0, 60)], [(19001, 0, 3), (19002, 0, 60)], [], [(0, sx_vr [44]), (1, sx_vi (0, [(19001, 1)])), (2, sx_vi (0, [(19002, 1)])), (3, sx_vi (0, [(20000, 1)]))], [(5633, (0, [(19001, 1)])), (5634, (0, [(19002, 1)]))], (60, [(20000, (-1))]))
def sx_z195 : sx_Ce2 := ([], [12], [sx_t195_0], [])
theorem sx_k195 : sx_ckE sx_tc 2 0 5000 103 0 sx_c195 sx_z195 = true := by decide +kernel
theorem sx_k195_0 : sx_ckT sx_tc 2 0 5000 103 0 sx_c195 sx_z195 sx_t195_0 = true := by decide +kernel
