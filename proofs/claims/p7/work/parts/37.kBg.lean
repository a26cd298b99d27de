/-! CabinPeace.worth -/
def sx_z245 : sx_Ce2 := ([], [], [], [])
theorem sx_k245 : sx_ckE sx_tc 2 3 5000 185 0 sx_c245 sx_z245 = true := by decide +kernel
/-! Parting.gatherLabels -/
def sx_t112_0 : sx_Tm := (17, 28, [(7172, 0, 8), (50002, 0, 8)], [(19001, 0, 255)], [(0, [(20000, (-1)), (20001, 1)])], [(0, sx_vr [56]), (1, sx_vi (0, [(19001, 1)])), (2, sx_vi (0, [(20001, 1)]))], [(7172, (0, [(20000, 1)]))], (8, [(20001, (-1))]))
def sx_t112_1 : sx_Tm := (5, 7, [(50002, 0, 9)], [(19001, 0, 255)], [], [(0, sx_vr [56]), (1, sx_vi (0, [(19001, 1)])), (2, sx_vi (0, [(20000, 1)]))], [(7172, (0, []))], (18, [(20000, (-1))]))
def sx_z112 : sx_Ce2 := ([], [7, 28], [sx_t112_0, sx_t112_1], [])
theorem sx_k112 : sx_ckE sx_tc 2 0 5000 22 0 sx_c112 sx_z112 = true := by decide +kernel
theorem sx_k112_0 : sx_ckT sx_tc 2 0 5000 22 0 sx_c112 sx_z112 sx_t112_0 = true := by decide +kernel
theorem sx_k112_1 : sx_ckT sx_tc 2 0 5000 22 0 sx_c112 sx_z112 sx_t112_1 = true := by decide +kernel
/-! M.beginsAll -/
def sx_t264_0 : sx_Tm := (2, 2, [], [], [], [(0, sx_vr [100]), (1, sx_vi (0, []))], [], (8, []))
def sx_t264_1 : sx_Tm := (2, 2, [(50001, 1, 8)], [(12804, 1, 8)], [(0, [(12804, 1), (20000, (-1))])], [(0, sx_vr [100]), (1, sx_vi (0, [(20000, 1)]))], [(18455, (0, [(20000, 1)])), (18456, (0, [])), (18457, (8, [])), (18458, (0, [])), (18459, ((-1), [])), (18460, (0, []))], (8, [(20000, (-1))]))
def sx_z264 : sx_Ce2 := ([], [2], [sx_t264_0, sx_t264_1], [])
theorem sx_k264 : sx_ckE sx_tc 2 0 5000 196 2 sx_c264 sx_z264 = true := by decide +kernel
theorem sx_k264_0 : sx_ckT sx_tc 2 0 5000 196 2 sx_c264 sx_z264 sx_t264_0 = true := by decide +kernel
theorem sx_k264_1 : sx_ckT sx_tc 2 0 5000 196 2 sx_c264 sx_z264 sx_t264_1 = true := by decide +kernel
/-! CabinPeace.knot -/
def sx_z215 : sx_Ce2 := ([], [], [], [])
theorem sx_k215 : sx_ckE sx_tc 2 1 5000 156 10 sx_c215 sx_z215 = true := by decide +kernel
/-! CabinPeace.bear -/
def sx_z205 : sx_Ce2 := ([], [], [], [])
theorem sx_k205 : sx_ckE sx_tc 2 1 5000 141 8 sx_c205 sx_z205 = true := by decide +kernel
/-! CabinPeace.greedy -/
def sx_z214 : sx_Ce2 := ([], [], [], [])
theorem sx_k214 : sx_ckE sx_tc 2 2 5000 152 7 sx_c214 sx_z214 = true := by decide +kernel
/-! Parting.takeFrom -/
def sx_t121_0 : sx_Tm := (2, 2, [(50003, 0, 8)], [], [(0, [(133, 1), (20000, (-1))])], [(0, sx_vr [94]), (1, sx_vr [42, 44, 46, 48]), (2, sx_vr [1]), (3, sx_vi (0, [(20000, 1)]))], [], (17, [(20000, (-1))]))
def sx_t121_1 : sx_Tm := (35, 61, [(12036, 0, 8), (50003, 0, 8)], [(133, 0, 8)], [(0, [(20000, 1), (20001, (-1))])], [(0, sx_vr [94]), (1, sx_vr [42, 44, 46, 48]), (2, sx_vr [1]), (3, sx_vi (0, [(20001, 1)]))], [(12036, (0, [(20000, 1)]))], (8, [(20001, (-1))]))
def sx_z121 : sx_Ce2 := ([], [2, 61], [sx_t121_0, sx_t121_1], [])
theorem sx_k121 : sx_ckE sx_tc 2 1 5000 30 2 sx_c121 sx_z121 = true := by decide +kernel
theorem sx_k121_0 : sx_ckT sx_tc 2 1 5000 30 2 sx_c121 sx_z121 sx_t121_0 = true := by decide +kernel
theorem sx_k121_1 : sx_ckT sx_tc 2 1 5000 30 2 sx_c121 sx_z121 sx_t121_1 = true := by decide +kernel
/-! Breaks.coreStrength -/
def sx_t100_0 : sx_Tm := (4, 6, [(50003, (-2147483648), 2147483647), (50004, 0, 8)], [(19002, 0, 255)], [], [(0, sx_vr [79]), (1, sx_vr [70, 94]), (2, sx_vi (0, [(19002, 1)])), (3, sx_vi (0, [(20000, 1)])), (4, sx_vi (0, [(20001, 1)]))], [], (8, [(20001, (-1))]))
def sx_z100 : sx_Ce2 := ([], [6], [sx_t100_0], [])
theorem sx_k100 : sx_ckE sx_tc 2 1 5000 11 0 sx_c100 sx_z100 = true := by decide +kernel
theorem sx_k100_0 : sx_ckT sx_tc 2 1 5000 11 0 sx_c100 sx_z100 sx_t100_0 = true := by decide +kernel
/-! java/lang/Integer.numberOfTrailingZeros -/
def sx_z101 : sx_Ce2 := ([], [], [], [])
theorem sx_k101 : sx_ckE sx_tc 2 0 5000 3 0 sx_c101 sx_z101 = true := by decide +kernel
/-! Reader.takeNumber -/
def sx_t153_0 : sx_Tm := (4, 5, [(50003, (-9223372036854775808), 9223372036854775807), (50005, 0, 300)], [(19001, 0, 299), (19002, 1, 300)], [(0, [(19001, (-1)), (20001, 1)])], [(0, sx_vr [80]), (1, sx_vi (0, [(19001, 1)])), (2, sx_vi (0, [(19002, 1)])), (3, sx_vl (0, [(20000, 1)])), (5, sx_vi (0, [(20001, 1)]))], [], (300, [(20001, (-1))]))
def sx_z153 : sx_Ce2 := ([], [5], [sx_t153_0], [])
theorem sx_k153 : sx_ckE sx_tc 2 0 5000 74 0 sx_c153 sx_z153 = true := by decide +kernel
theorem sx_k153_0 : sx_ckT sx_tc 2 0 5000 74 0 sx_c153 sx_z153 sx_t153_0 = true := by decide +kernel
/-! World.learnWants -/
def sx_t104_0 : sx_Tm := (17, 23, [(50003, 0, 4)], [(19001, 0, 255)], [], [(0, sx_vr [63]), (1, sx_vi (0, [(19001, 1)])), (2, sx_vi (0, [(19001, 4)])), (3, sx_vi (0, [(20000, 1)]))], [], (260, [(20000, (-1))]))
def sx_t104_1 : sx_Tm := (31, 45, [(50003, 1, 256)], [(19001, 0, 255)], [(1, [(8066, 1), (20000, (-1))])], [(0, sx_vr [63]), (1, sx_vi (0, [(19001, 1)])), (2, sx_vi (0, [(19001, 4)])), (3, sx_vi (0, [(20000, 1)]))], [], (256, [(20000, (-1))]))
def sx_z104 : sx_Ce2 := ([], [23, 45], [sx_t104_0, sx_t104_1], [])
theorem sx_k104 : sx_ckE sx_tc 2 0 5000 120 1 sx_c104 sx_z104 = true := by decide +kernel
theorem sx_k104_0 : sx_ckT sx_tc 2 0 5000 120 1 sx_c104 sx_z104 sx_t104_0 = true := by decide +kernel
theorem sx_k104_1 : sx_ckT sx_tc 2 0 5000 120 1 sx_c104 sx_z104 sx_t104_1 = true := by decide +kernel
/-! Search.takeGreatest -/
def sx_t187_0 : sx_Tm := (29, 52, [(7172, 0, 8), (50001, 0, 255), (50002, 0, 8)], [], [(7, [(20000, (-1)), (20002, 1)])], [(0, sx_vr [55]), (1, sx_vi (0, [(20001, 1)])), (2, sx_vi (0, [(20002, 1)]))], [(7172, (0, [(20000, 1)]))], (8, [(20002, (-1))]))
def sx_t187_1 : sx_Tm := (6, 10, [(50001, 0, 255), (50002, 0, 8)], [], [], [(0, sx_vr [55]), (1, sx_vi (0, [(20000, 1)])), (2, sx_vi (0, [(20001, 1)]))], [], (17, [(20001, (-1))]))
def sx_z187 : sx_Ce2 := ([], [10, 52], [sx_t187_0, sx_t187_1], [])
theorem sx_k187 : sx_ckE sx_tc 2 1 5000 93 5 sx_c187 sx_z187 = true := by decide +kernel
theorem sx_k187_0 : sx_ckT sx_tc 2 1 5000 93 5 sx_c187 sx_z187 sx_t187_0 = true := by decide +kernel
theorem sx_k187_1 : sx_ckT sx_tc 2 1 5000 93 5 sx_c187 sx_z187 sx_t187_1 = true := by decide +kernel
/-! Parting.gatherLabels -/
def sx_t113_0 : sx_Tm := (17, 28, [(12036, 0, 8), (50002, 0, 8)], [(19001, 0, 255)], [(0, [(20000, (-1)), (20001, 1)])], [(0, sx_vr [94]), (1, sx_vi (0, [(19001, 1)])), (2, sx_vi (0, [(20001, 1)]))], [(12036, (0, [(20000, 1)]))], (8, [(20001, (-1))]))
def sx_t113_1 : sx_Tm := (5, 7, [(50002, 0, 9)], [(19001, 0, 255)], [], [(0, sx_vr [94]), (1, sx_vi (0, [(19001, 1)])), (2, sx_vi (0, [(20000, 1)]))], [(12036, (0, []))], (18, [(20000, (-1))]))
def sx_z113 : sx_Ce2 := ([], [7, 28], [sx_t113_0, sx_t113_1], [])
theorem sx_k113 : sx_ckE sx_tc 2 0 5000 22 0 sx_c113 sx_z113 = true := by decide +kernel
theorem sx_k113_0 : sx_ckT sx_tc 2 0 5000 22 0 sx_c113 sx_z113 sx_t113_0 = true := by decide +kernel
theorem sx_k113_1 : sx_ckT sx_tc 2 0 5000 22 0 sx_c113 sx_z113 sx_t113_1 = true := by decide +kernel
/-! CabinPeace.sort -/
def sx_z236 : sx_Ce2 := ([], [], [], [])
theorem sx_k236 : sx_ckE sx_tc 2 2 5000 173 6 sx_c236 sx_z236 = true := by decide +kernel
/-! Peace.canFill -/
def sx_t135_0 : sx_Tm := (29, 46, [(50004, 0, 63), (50005, 0, 4140)], [(11403, 1, 4140), (19001, (-2147483648), 2147483647), (19002, 4, 4), (19003, 0, 4139)], [(0, [(19003, (-1)), (20001, 1)])], [(0, sx_vr [89]), (1, sx_vi (0, [(19001, 1)])), (2, sx_vi (0, [(19002, 1)])), (3, sx_vi (0, [(19003, 1)])), (4, sx_vi (0, [(20000, 1)])), (5, sx_vi (0, [(20001, 1)]))], [], (4140, [(20001, (-1))]))
def sx_z135 : sx_Ce2 := ([], [46], [sx_t135_0], [])
theorem sx_k135 : sx_ckE sx_tc 2 1 5000 37 8 sx_c135 sx_z135 = true := by decide +kernel
theorem sx_k135_0 : sx_ckT sx_tc 2 1 5000 37 8 sx_c135 sx_z135 sx_t135_0 = true := by decide +kernel
/-! Worths.refresh -/
def sx_t203_0 : sx_Tm := (18, 30, [(50001, 1, 256), (50002, 0, 7), (50003, 0, 256)], [(133, 1, 8)], [((-1), [(133, 1), (20001, (-1))])], [(0, sx_vr [50]), (1, sx_vi (0, [(20000, 1)])), (2, sx_vi (0, [(20001, 1)])), (3, sx_vi (0, [(20002, 1)]))], [], (2320, [(20001, (-258)), (20002, (-1))]))
def sx_t203_1 : sx_Tm := (8, 12, [(50001, 1, 256), (50002, 0, 8)], [], [(0, [(133, 1), (20001, (-1))])], [(0, sx_vr [50]), (1, sx_vi (0, [(20000, 1)])), (2, sx_vi (0, [(20001, 1)]))], [], (2321, [(20001, (-258))]))
def sx_z203 : sx_Ce2 := ([], [12, 30], [sx_t203_0, sx_t203_1], [])
theorem sx_k203 : sx_ckE sx_tc 2 0 5000 137 5 sx_c203 sx_z203 = true := by decide +kernel
theorem sx_k203_0 : sx_ckT sx_tc 2 0 5000 137 5 sx_c203 sx_z203 sx_t203_0 = true := by decide +kernel
theorem sx_k203_1 : sx_ckT sx_tc 2 0 5000 137 5 sx_c203 sx_z203 sx_t203_1 = true := by decide +kernel
/-! Reader.takeWord -/
def sx_t154_0 : sx_Tm := (4, 5, [(50003, (-9223372036854775808), 9223372036854775807), (50005, 0, 300)], [(19001, 0, 299), (19002, 1, 300)], [(0, [(19001, (-1)), (20001, 1)])], [(0, sx_vr [80]), (1, sx_vi (0, [(19001, 1)])), (2, sx_vi (0, [(19002, 1)])), (3, sx_vl (0, [(20000, 1)])), (5, sx_vi (0, [(20001, 1)]))], [], (300, [(20001, (-1))]))
def sx_z154 : sx_Ce2 := ([], [5], [sx_t154_0], [])
theorem sx_k154 : sx_ckE sx_tc 2 0 5000 76 0 sx_c154 sx_z154 = true := by decide +kernel
theorem sx_k154_0 : sx_ckT sx_tc 2 0 5000 76 0 sx_c154 sx_z154 sx_t154_0 = true := by decide +kernel
/-! Peace.canFill -/
def sx_t133_0 : sx_Tm := (29, 46, [(50004, 0, 63), (50005, 0, 4140)], [(11403, 1, 4140), (19001, (-2147483648), 2147483647), (19002, 2, 2), (19003, 0, 4139)], [(0, [(19003, (-1)), (20001, 1)])], [(0, sx_vr [89]), (1, sx_vi (0, [(19001, 1)])), (2, sx_vi (0, [(19002, 1)])), (3, sx_vi (0, [(19003, 1)])), (4, sx_vi (0, [(20000, 1)])), (5, sx_vi (0, [(20001, 1)]))], [], (4140, [(20001, (-1))]))
def sx_z133 : sx_Ce2 := ([], [46], [sx_t133_0], [])
theorem sx_k133 : sx_ckE sx_tc 2 1 5000 37 4 sx_c133 sx_z133 = true := by decide +kernel
theorem sx_k133_0 : sx_ckT sx_tc 2 1 5000 37 4 sx_c133 sx_z133 sx_t133_0 = true := by decide +kernel
/-! World.joiners -/
def sx_t142_0 : sx_Tm := (4, 4, [(50002, 0, 255), (50003, 0, 8)], [(19001, 0, 255)], [(0, [(133, 1), (20001, (-1))])], [(0, sx_vr [63]), (1, sx_vi (0, [(19001, 1)])), (2, sx_vi (0, [(20000, 1)])), (3, sx_vi (0, [(20001, 1)]))], [], (8, [(20001, (-1))]))
def sx_z142 : sx_Ce2 := ([], [4], [sx_t142_0], [])
theorem sx_k142 : sx_ckE sx_tc 2 0 5000 119 1 sx_c142 sx_z142 = true := by decide +kernel
theorem sx_k142_0 : sx_ckT sx_tc 2 0 5000 119 1 sx_c142 sx_z142 sx_t142_0 = true := by decide +kernel
/-! Search.movedFrom -/
def sx_t183_0 : sx_Tm := (4, 5, [(50003, 0, 8), (50004, 0, 8)], [(19002, 1, 128)], [(0, [(133, 1), (20001, (-1))]), (0, [(20000, (-1)), (20001, 1)]), (0, [(133, 1), (20000, (-1))])], [(0, sx_vr [55]), (1, sx_vr [94]), (2, sx_vi (0, [(19002, 1)])), (3, sx_vi (0, [(20000, 1)])), (4, sx_vi (0, [(20001, 1)]))], [], (8, [(20001, (-1))]))
def sx_z183 : sx_Ce2 := ([], [5], [sx_t183_0], [])
theorem sx_k183 : sx_ckE sx_tc 2 1 5000 86 0 sx_c183 sx_z183 = true := by decide +kernel
theorem sx_k183_0 : sx_ckT sx_tc 2 1 5000 86 0 sx_c183 sx_z183 sx_t183_0 = true := by decide +kernel
/-! Peace.canFill -/
def sx_t132_0 : sx_Tm := (29, 46, [(50004, 0, 63), (50005, 0, 4140)], [(11403, 1, 4140), (19001, (-2147483648), 2147483647), (19002, 1, 1), (19003, 0, 4139)], [(0, [(19003, (-1)), (20001, 1)])], [(0, sx_vr [89]), (1, sx_vi (0, [(19001, 1)])), (2, sx_vi (0, [(19002, 1)])), (3, sx_vi (0, [(19003, 1)])), (4, sx_vi (0, [(20000, 1)])), (5, sx_vi (0, [(20001, 1)]))], [], (4140, [(20001, (-1))]))
def sx_z132 : sx_Ce2 := ([], [46], [sx_t132_0], [])
theorem sx_k132 : sx_ckE sx_tc 2 1 5000 37 2 sx_c132 sx_z132 = true := by decide +kernel
theorem sx_k132_0 : sx_ckT sx_tc 2 1 5000 37 2 sx_c132 sx_z132 sx_t132_0 = true := by decide +kernel
/-! Peace.canFill -/
def sx_t134_0 : sx_Tm := (29, 46, [(50004, 0, 63), (50005, 0, 4140)], [(11403, 1, 4140), (19001, (-2147483648), 2147483647), (19002, 3, 3), (19003, 0, 4139)], [(0, [(19003, (-1)), (20001, 1)])], [(0, sx_vr [89]), (1, sx_vi (0, [(19001, 1)])), (2, sx_vi (0, [(19002, 1)])), (3, sx_vi (0, [(19003, 1)])), (4, sx_vi (0, [(20000, 1)])), (5, sx_vi (0, [(20001, 1)]))], [], (4140, [(20001, (-1))]))
def sx_z134 : sx_Ce2 := ([], [46], [sx_t134_0], [])
theorem sx_k134 : sx_ckE sx_tc 2 1 5000 37 6 sx_c134 sx_z134 = true := by decide +kernel
theorem sx_k134_0 : sx_ckT sx_tc 2 1 5000 37 6 sx_c134 sx_z134 sx_t134_0 = true := by decide +kernel
/-! World.leavers -/
def sx_t143_0 : sx_Tm := (4, 4, [(50002, 0, 255), (50003, 0, 8)], [(19001, 0, 255)], [(0, [(133, 1), (20001, (-1))])], [(0, sx_vr [63]), (1, sx_vi (0, [(19001, 1)])), (2, sx_vi (0, [(20000, 1)])), (3, sx_vi (0, [(20001, 1)]))], [], (8, [(20001, (-1))]))
def sx_z143 : sx_Ce2 := ([], [4], [sx_t143_0], [])
theorem sx_k143 : sx_ckE sx_tc 2 0 5000 121 1 sx_c143 sx_z143 = true := by decide +kernel
theorem sx_k143_0 : sx_ckT sx_tc 2 0 5000 121 1 sx_c143 sx_z143 sx_t143_0 = true := by decide +kernel
/-! Parting.key -/
def sx_t115_0 : sx_Tm := (10, 14, [(50001, (-2147483648), 2147483647), (50002, 0, 7), (50003, 0, 8)], [(12036, 1, 8)], [((-1), [(12036, 1), (20001, (-1))])], [(0, sx_vr [94]), (1, sx_vi (0, [(20000, 1)])), (2, sx_vi (0, [(20001, 1)])), (3, sx_vi (0, [(20002, 1)]))], [], (88, [(20001, (-10)), (20002, (-1))]))
def sx_t115_1 : sx_Tm := (4, 4, [(50001, (-2147483648), 2147483647), (50002, 0, 8)], [], [(0, [(12036, 1), (20001, (-1))])], [(0, sx_vr [94]), (1, sx_vi (0, [(20000, 1)])), (2, sx_vi (0, [(20001, 1)]))], [], (89, [(20001, (-10))]))
def sx_z115 : sx_Ce2 := ([], [4, 14], [sx_t115_0, sx_t115_1], [])
theorem sx_k115 : sx_ckE sx_tc 2 0 5000 25 0 sx_c115 sx_z115 = true := by decide +kernel
theorem sx_k115_0 : sx_ckT sx_tc 2 0 5000 25 0 sx_c115 sx_z115 sx_t115_0 = true := by decide +kernel
theorem sx_k115_1 : sx_ckT sx_tc 2 0 5000 25 0 sx_c115 sx_z115 sx_t115_1 = true := by decide +kernel
/-! Worths.bringBack -/
def sx_t190_0 : sx_Tm := (2, 2, [(50002, 1, 256)], [(19001, 0, 7)], [], [(0, sx_vr [50]), (1, sx_vi (0, [(19001, 1)])), (2, sx_vi (0, [(20000, 1)]))], [], (256, [(20000, (-1))]))
def sx_z190 : sx_Ce2 := ([], [2], [sx_t190_0], [])
theorem sx_k190 : sx_ckE sx_tc 2 2 5000 126 0 sx_c190 sx_z190 = true := by decide +kernel
theorem sx_k190_0 : sx_ckT sx_tc 2 2 5000 126 0 sx_c190 sx_z190 sx_t190_0 = true := by decide +kernel
/-! People.allows -/
def sx_t120_0 : sx_Tm := (15, 22, [(50004, 0, 8)], [(19001, 1, 255), (19002, (-2147483648), 2147483647), (19003, 0, 255)], [(0, [(133, 1), (20000, (-1))])], [(0, sx_vr [1]), (1, sx_vi (0, [(19001, 1)])), (2, sx_vi (0, [(19002, 1)])), (3, sx_vi (0, [(19003, 1)])), (4, sx_vi (0, [(20000, 1)]))], [], (8, [(20000, (-1))]))
def sx_z120 : sx_Ce2 := ([], [22], [sx_t120_0], [])
theorem sx_k120 : sx_ckE sx_tc 2 1 5000 50 0 sx_c120 sx_z120 = true := by decide +kernel
theorem sx_k120_0 : sx_ckT sx_tc 2 1 5000 50 0 sx_c120 sx_z120 sx_t120_0 = true := by decide +kernel
/-! Parting.key -/
def sx_t114_0 : sx_Tm := (10, 14, [(50001, (-2147483648), 2147483647), (50002, 0, 7), (50003, 0, 8)], [(8964, 1, 8)], [((-1), [(8964, 1), (20001, (-1))])], [(0, sx_vr [70]), (1, sx_vi (0, [(20000, 1)])), (2, sx_vi (0, [(20001, 1)])), (3, sx_vi (0, [(20002, 1)]))], [], (88, [(20001, (-10)), (20002, (-1))]))
def sx_t114_1 : sx_Tm := (4, 4, [(50001, (-2147483648), 2147483647), (50002, 0, 8)], [], [(0, [(8964, 1), (20001, (-1))])], [(0, sx_vr [70]), (1, sx_vi (0, [(20000, 1)])), (2, sx_vi (0, [(20001, 1)]))], [], (89, [(20001, (-10))]))
def sx_z114 : sx_Ce2 := ([], [4, 14], [sx_t114_0, sx_t114_1], [])
theorem sx_k114 : sx_ckE sx_tc 2 0 5000 25 0 sx_c114 sx_z114 = true := by decide +kernel
theorem sx_k114_0 : sx_ckT sx_tc 2 0 5000 25 0 sx_c114 sx_z114 sx_t114_0 = true := by decide +kernel
theorem sx_k114_1 : sx_ckT sx_tc 2 0 5000 25 0 sx_c114 sx_z114 sx_t114_1 = true := by decide +kernel
/-! Peace.canFill -/
def sx_t136_0 : sx_Tm := (29, 46, [(50004, 0, 63), (50005, 0, 4140)], [(11403, 1, 4140), (19001, 0, 0), (19002, 5, 5), (19003, 0, 0)], [(0, [(11403, 1), (20001, (-1))])], [(0, sx_vr [89]), (1, sx_vi (0, [(19001, 1)])), (2, sx_vi (0, [(19002, 1)])), (3, sx_vi (0, [(19003, 1)])), (4, sx_vi (0, [(20000, 1)])), (5, sx_vi (0, [(20001, 1)]))], [], (4140, [(20001, (-1))]))
def sx_z136 : sx_Ce2 := ([], [46], [sx_t136_0], [])
theorem sx_k136 : sx_ckE sx_tc 2 1 5000 37 10 sx_c136 sx_z136 = true := by decide +kernel
theorem sx_k136_0 : sx_ckT sx_tc 2 1 5000 37 10 sx_c136 sx_z136 sx_t136_0 = true := by decide +kernel
/-! CabinPeace.bars -/
def sx_z204 : sx_Ce2 := ([], [], [], [])
theorem sx_k204 : sx_ckE sx_tc 2 3 5000 140 0 sx_c204 sx_z204 = true := by decide +kernel
/-! Peace.sharing -/
def sx_t149_0 : sx_Tm := (4, 5, [(50003, 0, 4140), (50004, 0, 4140)], [(19001, 0, 7), (19002, 0, 7)], [(0, [(11397, 1), (20001, (-1))]), (0, [(20000, (-1)), (20001, 1)]), (0, [(11397, 1), (20000, (-1))])], [(0, sx_vr [89]), (1, sx_vi (0, [(19001, 1)])), (2, sx_vi (0, [(19002, 1)])), (3, sx_vi (0, [(20000, 1)])), (4, sx_vi (0, [(20001, 1)]))], [], (4140, [(20001, (-1))]))
def sx_z149 : sx_Ce2 := ([], [5], [sx_t149_0], [])
theorem sx_k149 : sx_ckE sx_tc 2 1 5000 48 0 sx_c149 sx_z149 = true := by decide +kernel
theorem sx_k149_0 : sx_ckT sx_tc 2 1 5000 48 0 sx_c149 sx_z149 sx_t149_0 = true := by decide +kernel
/-! Worths.areFriends -/
def sx_t201_0 : sx_Tm := (11, 17, [(50001, 1, 255), (50002, 0, 8)], [], [(0, [(133, 1), (20001, (-1))])], [(0, sx_vr [50]), (1, sx_vi (0, [(20000, 1)])), (2, sx_vi (0, [(20001, 1)]))], [], (2568, [(20000, (-10)), (20001, (-1))]))
def sx_t201_1 : sx_Tm := (2, 2, [(50001, 1, 256)], [], [], [(0, sx_vr [50]), (1, sx_vi (0, [(20000, 1)]))], [], (2569, [(20000, (-10))]))
def sx_z201 : sx_Ce2 := ([], [2, 17], [sx_t201_0, sx_t201_1], [])
theorem sx_k201 : sx_ckE sx_tc 2 0 5000 124 4 sx_c201 sx_z201 = true := by decide +kernel
theorem sx_k201_0 : sx_ckT sx_tc 2 0 5000 124 4 sx_c201 sx_z201 sx_t201_0 = true := by decide +kernel
theorem sx_k201_1 : sx_ckT sx_tc 2 0 5000 124 4 sx_c201 sx_z201 sx_t201_1 = true := by decide +kernel
/-! Parting.move -/
def sx_t119_0 : sx_Tm := (15, 26, [(50003, 0, 255), (50004, 0, 8), (50005, 0, 8)], [(19001, (-2147483648), 2147483647), (19002, (-1), 7)], [], [(0, sx_vr [94]), (1, sx_vi (0, [(19001, 1)])), (2, sx_vi (0, [(19002, 1)])), (3, sx_vi (0, [(20000, 1)])), (4, sx_vi (0, [(20001, 1)])), (5, sx_vi (0, [(20002, 1)]))], [], (8, [(20002, (-1))]))
def sx_z119 : sx_Ce2 := ([], [26], [sx_t119_0], [])
theorem sx_k119 : sx_ckE sx_tc 2 0 5000 27 1 sx_c119 sx_z119 = true := by decide +kernel
theorem sx_k119_0 : sx_ckT sx_tc 2 0 5000 27 1 sx_c119 sx_z119 sx_t119_0 = true := by decide +kernel
/-! Parting.labelRooms -/
def sx_t116_0 : sx_Tm := (19, 29, [(50001, 0, 255), (50002, 0, 8)], [(7172, 0, 8)], [], [(0, sx_vr [56]), (1, sx_vi (0, [(20000, 1)])), (2, sx_vi (0, [(20001, 1)]))], [], (8, [(20001, (-1))]))
def sx_t116_1 : sx_Tm := (4, 4, [(50001, 0, 255), (50002, 0, 8)], [], [(0, [(7172, 1), (20001, (-1))])], [(0, sx_vr [56]), (1, sx_vi (0, [(20000, 1)])), (2, sx_vi (0, [(20001, 1)]))], [], (17, [(20001, (-1))]))
def sx_z116 : sx_Ce2 := ([], [4, 29], [sx_t116_0, sx_t116_1], [])
theorem sx_k116 : sx_ckE sx_tc 2 0 5000 26 0 sx_c116 sx_z116 = true := by decide +kernel
theorem sx_k116_0 : sx_ckT sx_tc 2 0 5000 26 0 sx_c116 sx_z116 sx_t116_0 = true := by decide +kernel
theorem sx_k116_1 : sx_ckT sx_tc 2 0 5000 26 0 sx_c116 sx_z116 sx_t116_1 = true := by decide +kernel
/-! M.scans -/
def sx_t276_0 : sx_Tm := (15, 25, [], [(19001, 5, 5)], [], [(0, sx_vr [100]), (1, sx_vi (0, [(19001, 1)])), (2, sx_vi (0, []))], [(12856, (0, []))], (0, []))
def sx_t276_1 : sx_Tm := (15, 25, [(12856, 1, 63), (18432, 0, 6), (18433, 1, 7)], [(19001, 5, 5)], [], [(0, sx_vr [100]), (1, sx_vi (0, [(19001, 1)])), (2, sx_vi (0, []))], [(12856, (0, [(20000, 1)])), (18432, (0, [(20001, 1)])), (18433, (0, [(20002, 1)]))], (1, []))
def sx_z276 : sx_Ce2 := ([], [25], [sx_t276_0, sx_t276_1], [])
theorem sx_k276 : sx_ckE sx_tc 2 1 5000 269 2 sx_c276 sx_z276 = true := by decide +kernel
theorem sx_k276_0 : sx_ckT sx_tc 2 1 5000 269 2 sx_c276 sx_z276 sx_t276_0 = true := by decide +kernel
theorem sx_k276_1 : sx_ckT sx_tc 2 1 5000 269 2 sx_c276 sx_z276 sx_t276_1 = true := by decide +kernel
/-! Parting.labelRooms -/
def sx_t117_0 : sx_Tm := (19, 29, [(50001, 0, 255), (50002, 0, 8)], [(12036, 0, 8)], [], [(0, sx_vr [94]), (1, sx_vi (0, [(20000, 1)])), (2, sx_vi (0, [(20001, 1)]))], [], (8, [(20001, (-1))]))
def sx_t117_1 : sx_Tm := (4, 4, [(50001, 0, 255), (50002, 0, 8)], [], [(0, [(12036, 1), (20001, (-1))])], [(0, sx_vr [94]), (1, sx_vi (0, [(20000, 1)])), (2, sx_vi (0, [(20001, 1)]))], [], (17, [(20001, (-1))]))
def sx_z117 : sx_Ce2 := ([], [4, 29], [sx_t117_0, sx_t117_1], [])
theorem sx_k117 : sx_ckE sx_tc 2 0 5000 26 0 sx_c117 sx_z117 = true := by decide +kernel
theorem sx_k117_0 : sx_ckT sx_tc 2 0 5000 26 0 sx_c117 sx_z117 sx_t117_0 = true := by decide +kernel
theorem sx_k117_1 : sx_ckT sx_tc 2 0 5000 26 0 sx_c117 sx_z117 sx_t117_1 = true := by decide +kernel
/-! M.ran -/
def sx_z327 : sx_Ce2 := ([], [], [], [])
theorem sx_k327 : sx_ckE sx_tc 2 1 5000 259 0 sx_c327 sx_z327 = true := by decide +kernel
/-! Parting.move -/
def sx_t118_0 : sx_Tm := (15, 26, [(50003, 0, 255), (50005, 0, 8)], [(19001, 1, 255), (19002, (-1), (-1))], [], [(0, sx_vr [56]), (1, sx_vi (0, [(19001, 1)])), (2, sx_vi (0, [(19002, 1)])), (3, sx_vi (0, [(20000, 1)])), (4, sx_vi (8, [])), (5, sx_vi (0, [(20001, 1)]))], [], (8, [(20001, (-1))]))
def sx_z118 : sx_Ce2 := ([], [26], [sx_t118_0], [])
theorem sx_k118 : sx_ckE sx_tc 2 0 5000 27 1 sx_c118 sx_z118 = true := by decide +kernel
theorem sx_k118_0 : sx_ckT sx_tc 2 0 5000 27 1 sx_c118 sx_z118 sx_t118_0 = true := by decide +kernel
/-! M.bestGroup -/
def sx_t278_0 : sx_Tm := (4, 4, [(50002, 0, 255), (50003, 0, 8)], [(19001, 0, 7)], [(0, [(12804, 1), (20001, (-1))])], [(0, sx_vr [100]), (1, sx_vi (0, [(19001, 1)])), (2, sx_vi (0, [(20000, 1)])), (3, sx_vi (0, [(20001, 1)]))], [], (8, [(20001, (-1))]))
def sx_z278 : sx_Ce2 := ([], [4], [sx_t278_0], [])
theorem sx_k278 : sx_ckE sx_tc 2 0 5000 197 0 sx_c278 sx_z278 = true := by decide +kernel
theorem sx_k278_0 : sx_ckT sx_tc 2 0 5000 197 0 sx_c278 sx_z278 sx_t278_0 = true := by decide +kernel
/-! M.tells -/
def sx_t331_0 : sx_Tm := (2, 2, [(50002, 0, 8)], [(19001, 0, 3)], [(0, [(12804, 1), (20000, (-1))])], [(0, sx_vr [100]), (1, sx_vi (0, [(19001, 1)])), (2, sx_vi (0, [(20000, 1)]))], [], (8, [(20000, (-1))]))
def sx_z331 : sx_Ce2 := ([], [2], [sx_t331_0], [])
theorem sx_k331 : sx_ckE sx_tc 2 0 5000 278 0 sx_c331 sx_z331 = true := by decide +kernel
theorem sx_k331_0 : sx_ckT sx_tc 2 0 5000 278 0 sx_c331 sx_z331 sx_t331_0 = true := by decide +kernel
/-! M.gone -/
def sx_z299 : sx_Ce2 := ([], [], [], [])
theorem sx_k299 : sx_ckE sx_tc 2 1 5000 223 0 sx_c299 sx_z299 = true := by decide +kernel
