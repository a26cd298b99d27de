/-! Worths.leaveOut -/
def sx_t184_0 : sx_Tm := (11, 17, [(50004, 0, 1), (50005, 1, 256)], [(19001, 0, 7), (19002, 0, 11)], [], [(0, sx_vr [50]), (1, sx_vi (0, [(19001, 1)])), (2, sx_vi (0, [(19002, 1)])), (3, sx_vr [9, 13, 17, 21, 25, 29, 33, 37, 81]), (4, sx_vi (0, [(20000, 1)])), (5, sx_vi (0, [(20001, 1)]))], [], (256, [(20001, (-1))]))
def sx_z184 : sx_Ce2 := ([], [17], [sx_t184_0], [])
theorem sx_k184 : sx_ckE sx_tc 2 2 5000 135 2 sx_c184 sx_z184 = true := by decide +kernel
theorem sx_k184_0 : sx_ckT sx_tc 2 2 5000 135 2 sx_c184 sx_z184 sx_t184_0 = true := by decide +kernel
/-! Search.tryWords -/
def sx_t185_0 : sx_Tm := (2, 2, [(10114, (-2147483648), 2147483647), (10115, (-2147483648), 2147483647), (10116, (-2147483648), 2147483647), (10117, (-2147483648), 2147483647), (10118, (-2147483648), 2147483647), (10119, (-2147483648), 2147483647), (10120, 0, 1), (8066, 0, 255), (8067, (-2147483648), 2147483647), (8068, (-2), 5), (8069, 0, 1), (8838, 0, 8), (8839, 0, 1), (8964, 0, 8), (50001, 0, 8)], [], [(0, [(133, 1), (20014, (-1))])], [(0, sx_vr [55]), (1, sx_vi (0, [(20014, 1)]))], [(8066, (0, [(20007, 1)])), (8067, (0, [(20008, 1)])), (8068, (0, [(20009, 1)])), (8069, (0, [(20010, 1)])), (8838, (0, [(20011, 1)])), (8839, (0, [(20012, 1)])), (8964, (0, [(20013, 1)])), (10114, (0, [(20000, 1)])), (10115, (0, [(20001, 1)])), (10116, (0, [(20002, 1)])), (10117, (0, [(20003, 1)])), (10118, (0, [(20004, 1)])), (10119, (0, [(20005, 1)])), (10120, (0, [(20006, 1)]))], (125, [(20014, (-14))]))
def sx_t185_1 : sx_Tm := (9, 15, [(10114, (-2147483648), 2147483647), (10115, (-2147483648), 2147483647), (10116, (-2147483648), 2147483647), (10117, (-2147483648), 2147483647), (10118, (-2147483648), 2147483647), (10119, (-2147483648), 2147483647), (10120, 0, 1), (8066, 0, 255), (8067, (-2147483648), 2147483647), (8068, (-2), 5), (8069, 0, 1), (8838, 0, 8), (8839, 0, 1), (8964, 0, 8), (50001, 0, 7), (50002, 0, 12)], [(133, 1, 8)], [((-1), [(133, 1), (20014, (-1))])], [(0, sx_vr [55]), (1, sx_vi (0, [(20014, 1)])), (2, sx_vi (0, [(20015, 1)]))], [(8066, (0, [(20007, 1)])), (8067, (0, [(20008, 1)])), (8068, (0, [(20009, 1)])), (8069, (0, [(20010, 1)])), (8838, (0, [(20011, 1)])), (8839, (0, [(20012, 1)])), (8964, (0, [(20013, 1)])), (10114, (0, [(20000, 1)])), (10115, (0, [(20001, 1)])), (10116, (0, [(20002, 1)])), (10117, (0, [(20003, 1)])), (10118, (0, [(20004, 1)])), (10119, (0, [(20005, 1)])), (10120, (0, [(20006, 1)]))], (124, [(20014, (-14)), (20015, (-1))]))
def sx_z185 : sx_Ce2 := ([], [2, 15], [sx_t185_0, sx_t185_1], [])
theorem sx_k185 : sx_ckE sx_tc 2 1 5000 97 9 sx_c185 sx_z185 = true := by decide +kernel
theorem sx_k185_0 : sx_ckT sx_tc 2 1 5000 97 9 sx_c185 sx_z185 sx_t185_0 = true := by decide +kernel
theorem sx_k185_1 : sx_ckT sx_tc 2 1 5000 97 9 sx_c185 sx_z185 sx_t185_1 = true := by decide +kernel
/-! Tray.lay -/
def sx_t186_0 : sx_Tm := (8, 12, [(5377, (-1), 3), (5378, 0, 60), (5633, (-1), 3), (5634, 0, 60), (5889, (-1), 3), (5890, 0, 60), (6145, (-1), 3), (6146, 0, 60), (50003, 0, 60)], [(19001, 0, 3), (19002, 0, 60)], [], [(0, sx_vr [42, 44, 46, 48]), (1, sx_vi (0, [(19001, 1)])), (2, sx_vi (0, [(19002, 1)])), (3, sx_vi (0, [(20008, 1)]))], [(5377, (0, [(20000, 1)])), (5378, (0, [(20001, 1)])), (5633, (0, [(20002, 1)])), (5634, (0, [(20003, 1)])), (5889, (0, [(20004, 1)])), (5890, (0, [(20005, 1)])), (6145, (0, [(20006, 1)])), (6146, (0, [(20007, 1)]))], (60, [(20008, (-1))]))
def sx_z186 : sx_Ce2 := ([], [12], [sx_t186_0], [0])
theorem sx_k186 : sx_ckE sx_tc 2 0 5000 103 0 sx_c186 sx_z186 = true := by decide +kernel
theorem sx_k186_0 : sx_ckT sx_tc 2 0 5000 103 0 sx_c186 sx_z186 sx_t186_0 = true := by decide +kernel
/-! Worths.isAlike -/
def sx_t187_0 : sx_Tm := (7, 10, [(50002, 0, 7), (50003, 0, 8)], [(19001, 1, 255)], [(0, [(133, 1), (20001, (-1))])], [(0, sx_vr [50]), (1, sx_vi (0, [(19001, 1)])), (2, sx_vi (0, [(20000, 1)])), (3, sx_vi (0, [(20001, 1)]))], [], (8, [(20001, (-1))]))
def sx_z187 : sx_Ce2 := ([], [10], [sx_t187_0], [])
theorem sx_k187 : sx_ckE sx_tc 2 3 5000 131 0 sx_c187 sx_z187 = true := by decide +kernel
theorem sx_k187_0 : sx_ckT sx_tc 2 3 5000 131 0 sx_c187 sx_z187 sx_t187_0 = true := by decide +kernel
/-! World.isAllAlike -/
def sx_t188_0 : sx_Tm := (2, 2, [(50001, 1, 256)], [], [(1, [(8066, 1), (20000, (-1))])], [(0, sx_vr [63]), (1, sx_vi (0, [(20000, 1)]))], [], (256, [(20000, (-1))]))
def sx_z188 : sx_Ce2 := ([], [2], [sx_t188_0], [])
theorem sx_k188 : sx_ckE sx_tc 2 0 5000 117 4 sx_c188 sx_z188 = true := by decide +kernel
theorem sx_k188_0 : sx_ckT sx_tc 2 0 5000 117 4 sx_c188 sx_z188 sx_t188_0 = true := by decide +kernel
/-! Worths.isFriendly -/
def sx_t189_0 : sx_Tm := (11, 16, [(50003, (-2147483648), 2147483647), (50004, 0, 8)], [(19001, 1, 255), (19002, 0, 7)], [(0, [(133, 1), (20001, (-1))])], [(0, sx_vr [50]), (1, sx_vi (0, [(19001, 1)])), (2, sx_vi (0, [(19002, 1)])), (3, sx_vi (0, [(20000, 1)])), (4, sx_vi (0, [(20001, 1)]))], [], (8, [(20001, (-1))]))
def sx_z189 : sx_Ce2 := ([], [16], [sx_t189_0], [])
theorem sx_k189 : sx_ckE sx_tc 2 3 5000 133 0 sx_c189 sx_z189 = true := by decide +kernel
theorem sx_k189_0 : sx_ckT sx_tc 2 3 5000 133 0 sx_c189 sx_z189 sx_t189_0 = true := by decide +kernel
/-! Worths.areFriends -/
def sx_t190_0 : sx_Tm := (11, 17, [(50001, 1, 255), (50002, 0, 8)], [], [(0, [(133, 1), (20001, (-1))])], [(0, sx_vr [50]), (1, sx_vi (0, [(20000, 1)])), (2, sx_vi (0, [(20001, 1)]))], [], (2568, [(20000, (-10)), (20001, (-1))]))
def sx_t190_1 : sx_Tm := (2, 2, [(50001, 1, 256)], [], [], [(0, sx_vr [50]), (1, sx_vi (0, [(20000, 1)]))], [], (2569, [(20000, (-10))]))
def sx_z190 : sx_Ce2 := ([], [2, 17], [sx_t190_0, sx_t190_1], [])
theorem sx_k190 : sx_ckE sx_tc 2 0 5000 124 4 sx_c190 sx_z190 = true := by decide +kernel
theorem sx_k190_0 : sx_ckT sx_tc 2 0 5000 124 4 sx_c190 sx_z190 sx_t190_0 = true := by decide +kernel
theorem sx_k190_1 : sx_ckT sx_tc 2 0 5000 124 4 sx_c190 sx_z190 sx_t190_1 = true := by decide +kernel
/-! Worths.weigh -/
def sx_t191_0 : sx_Tm := (20, 32, [(50004, 0, 63), (50005, (-9223372036854775808), 9223372036854775807), (50007, 0, 65535), (50008, 0, 12)], [(19001, 0, 7), (19002, 0, 255)], [], [(0, sx_vr [50]), (1, sx_vi (0, [(19001, 1)])), (2, sx_vi (0, [(19002, 1)])), (3, sx_vr [9, 13, 17, 21, 25, 29, 33, 37, 81]), (4, sx_vi (0, [(20000, 1)])), (5, sx_vl (0, [(20001, 1)])), (7, sx_vi (0, [(20002, 1)])), (8, sx_vi (0, [(20003, 1)]))], [], (12, [(20003, (-1))]))
def sx_z191 : sx_Ce2 := ([], [32], [sx_t191_0], [])
theorem sx_k191 : sx_ckE sx_tc 2 2 5000 138 2 sx_c191 sx_z191 = true := by decide +kernel
theorem sx_k191_0 : sx_ckT sx_tc 2 2 5000 138 2 sx_c191 sx_z191 sx_t191_0 = true := by decide +kernel
/-! Worths.refresh -/
def sx_t192_0 : sx_Tm := (18, 30, [(50001, 1, 256), (50002, 0, 7), (50003, 0, 256)], [(133, 1, 8)], [((-1), [(133, 1), (20001, (-1))])], [(0, sx_vr [50]), (1, sx_vi (0, [(20000, 1)])), (2, sx_vi (0, [(20001, 1)])), (3, sx_vi (0, [(20002, 1)]))], [], (2320, [(20001, (-258)), (20002, (-1))]))
def sx_t192_1 : sx_Tm := (8, 12, [(50001, 1, 256), (50002, 0, 8)], [], [(0, [(133, 1), (20001, (-1))])], [(0, sx_vr [50]), (1, sx_vi (0, [(20000, 1)])), (2, sx_vi (0, [(20001, 1)]))], [], (2321, [(20001, (-258))]))
def sx_z192 : sx_Ce2 := ([], [12, 30], [sx_t192_0, sx_t192_1], [])
theorem sx_k192 : sx_ckE sx_tc 2 0 5000 137 5 sx_c192 sx_z192 = true := by decide +kernel
theorem sx_k192_0 : sx_ckT sx_tc 2 0 5000 137 5 sx_c192 sx_z192 sx_t192_0 = true := by decide +kernel
theorem sx_k192_1 : sx_ckT sx_tc 2 0 5000 137 5 sx_c192 sx_z192 sx_t192_1 = true := by decide +kernel
/-! CabinPeace.bars -/
def sx_z193 : sx_Ce2 := ([], [], [], [])
theorem sx_k193 : sx_ckE sx_tc 2 3 5000 140 0 sx_c193 sx_z193 = true := by decide +kernel
/-! CabinPeace.bear -/
def sx_z194 : sx_Ce2 := ([], [], [], [])
theorem sx_k194 : sx_ckE sx_tc 2 1 5000 141 9 sx_c194 sx_z194 = true := by decide +kernel
/-! CabinPeace.breaks -/
def sx_z195 : sx_Ce2 := ([], [], [], [])
theorem sx_k195 : sx_ckE sx_tc 2 2 5000 142 7 sx_c195 sx_z195 = true := by decide +kernel
/-! CabinPeace.count -/
def sx_z196 : sx_Ce2 := ([], [], [], [])
theorem sx_k196 : sx_ckE sx_tc 2 1 5000 143 11 sx_c196 sx_z196 = true := by decide +kernel
/-! CabinPeace.fault -/
def sx_z197 : sx_Ce2 := ([], [], [], [])
theorem sx_k197 : sx_ckE sx_tc 2 0 5000 144 0 sx_c197 sx_z197 = true := by decide +kernel
/-! CabinPeace.feed -/
def sx_z198 : sx_Ce2 := ([], [], [], [])
theorem sx_k198 : sx_ckE sx_tc 2 1 5000 145 0 sx_c198 sx_z198 = true := by decide +kernel
/-! CabinPeace.first -/
def sx_z199 : sx_Ce2 := ([], [], [], [])
theorem sx_k199 : sx_ckE sx_tc 2 2 5000 146 7 sx_c199 sx_z199 = true := by decide +kernel
/-! CabinPeace.gain -/
def sx_z200 : sx_Ce2 := ([], [], [], [])
theorem sx_k200 : sx_ckE sx_tc 2 5 5000 148 9 sx_c200 sx_z200 = true := by decide +kernel
/-! CabinPeace.goes -/
def sx_z201 : sx_Ce2 := ([], [], [], [])
theorem sx_k201 : sx_ckE sx_tc 2 2 5000 149 9 sx_c201 sx_z201 = true := by decide +kernel
/-! CabinPeace.gone -/
def sx_z202 : sx_Ce2 := ([], [], [], [])
theorem sx_k202 : sx_ckE sx_tc 2 1 5000 150 0 sx_c202 sx_z202 = true := by decide +kernel
/-! CabinPeace.greedy -/
def sx_z203 : sx_Ce2 := ([], [], [], [])
theorem sx_k203 : sx_ckE sx_tc 2 2 5000 152 6 sx_c203 sx_z203 = true := by decide +kernel
/-! CabinPeace.knot -/
def sx_z204 : sx_Ce2 := ([], [], [], [])
theorem sx_k204 : sx_ckE sx_tc 2 1 5000 156 11 sx_c204 sx_z204 = true := by decide +kernel
/-! CabinPeace.lawful -/
def sx_z205 : sx_Ce2 := ([], [], [], [])
theorem sx_k205 : sx_ckE sx_tc 2 2 5000 157 2 sx_c205 sx_z205 = true := by decide +kernel
/-! CabinPeace.mend -/
def sx_z206 : sx_Ce2 := ([], [], [], [])
theorem sx_k206 : sx_ckE sx_tc 2 1 5000 158 11 sx_c206 sx_z206 = true := by decide +kernel
/-! CabinPeace.must -/
def sx_z207 : sx_Ce2 := ([], [], [], [])
theorem sx_k207 : sx_ckE sx_tc 2 2 5000 159 0 sx_c207 sx_z207 = true := by decide +kernel
/-! CabinPeace.near -/
def sx_z208 : sx_Ce2 := ([], [], [], [])
theorem sx_k208 : sx_ckE sx_tc 2 1 5000 160 9 sx_c208 sx_z208 = true := by decide +kernel
/-! CabinPeace.nearRoom -/
def sx_z209 : sx_Ce2 := ([], [], [], [])
theorem sx_k209 : sx_ckE sx_tc 2 1 5000 161 9 sx_c209 sx_z209 = true := by decide +kernel
/-! CabinPeace.person -/
def sx_z210 : sx_Ce2 := ([], [], [], [])
theorem sx_k210 : sx_ckE sx_tc 2 2 5000 163 6 sx_c210 sx_z210 = true := by decide +kernel
/-! CabinPeace.pour -/
def sx_z211 : sx_Ce2 := ([], [], [], [])
theorem sx_k211 : sx_ckE sx_tc 2 1 5000 165 0 sx_c211 sx_z211 = true := by decide +kernel
/-! CabinPeace.ran -/
def sx_z212 : sx_Ce2 := ([], [], [], [])
theorem sx_k212 : sx_ckE sx_tc 2 1 5000 166 0 sx_c212 sx_z212 = true := by decide +kernel
/-! CabinPeace.rather -/
def sx_z213 : sx_Ce2 := ([], [], [], [])
theorem sx_k213 : sx_ckE sx_tc 2 3 5000 167 0 sx_c213 sx_z213 = true := by decide +kernel
/-! CabinPeace.read -/
def sx_z214 : sx_Ce2 := ([], [], [], [])
theorem sx_k214 : sx_ckE sx_tc 2 2 5000 168 0 sx_c214 sx_z214 = true := by decide +kernel
/-! CabinPeace.room -/
def sx_z215 : sx_Ce2 := ([], [], [], [])
theorem sx_k215 : sx_ckE sx_tc 2 1 5000 170 11 sx_c215 sx_z215 = true := by decide +kernel
/-! CabinPeace.tellTray -/
def sx_t216_0 : sx_Tm := (2, 2, [(50002, 0, 8)], [(19001, 0, 3)], [(0, [(133, 1), (20000, (-1))])], [(0, sx_vr [0]), (1, sx_vi (0, [(19001, 1)])), (2, sx_vi (0, [(20000, 1)]))], [], (8, [(20000, (-1))]))
def sx_z216 : sx_Ce2 := ([], [2], [sx_t216_0], [])
theorem sx_k216 : sx_ckE sx_tc 2 2 5000 177 0 sx_c216 sx_z216 = true := by decide +kernel
theorem sx_k216_0 : sx_ckT sx_tc 2 2 5000 177 0 sx_c216 sx_z216 sx_t216_0 = true := by decide +kernel
/-! CabinPeace.walk -/
def sx_t217_0 : sx_Tm := (40, 74, [(10114, (-2147483648), 2147483647), (10115, (-2147483648), 2147483647), (10116, (-2147483648), 2147483647), (10117, (-2147483648), 2147483647), (12036, 0, 8), (8066, 0, 255), (8067, (-2147483648), 2147483647), (8068, 0, 5), (50003, 0, 199), (50004, (-2147483648), 2147483647), (50005, 0, 200)], [(19001, 0, 5), (19002, 1, 200)], [(0, [(19002, 1), (20010, (-1))]), ((-1), [(19002, 1), (20008, (-1))]), (1, [(20008, 1), (20010, (-1))])], [(0, sx_vr [0]), (1, sx_vi (0, [(19001, 1)])), (2, sx_vi (0, [(19002, 1)])), (3, sx_vi (0, [(20008, 1)])), (4, sx_vi (0, [(20009, 1)])), (5, sx_vi (0, [(20010, 1)]))], [(8066, (0, [(20005, 1)])), (8067, (0, [(20006, 1)])), (8068, (0, [(20007, 1)])), (8069, (1, [])), (10114, (0, [(20000, 1)])), (10115, (0, [(20001, 1)])), (10116, (0, [(20002, 1)])), (10117, (0, [(20003, 1)])), (10118, (1, [])), (10119, ((-1), [])), (10120, (0, [])), (12036, (0, [(20004, 1)]))], (40802, [(20008, (-202)), (20010, (-1))]))
def sx_t217_1 : sx_Tm := (9, 15, [(10114, (-2147483648), 2147483647), (10115, (-2147483648), 2147483647), (10116, (-2147483648), 2147483647), (10117, (-2147483648), 2147483647), (10118, (-2147483648), 2147483647), (10119, (-2147483648), 2147483647), (10120, 0, 1), (12036, 0, 8), (8066, 0, 255), (8067, (-2147483648), 2147483647), (8068, (-2), 5), (8069, 0, 1), (50003, 0, 201)], [(19001, 0, 5), (19002, 1, 200)], [(1, [(19002, 1), (20012, (-1))])], [(0, sx_vr [0]), (1, sx_vi (0, [(19001, 1)])), (2, sx_vi (0, [(19002, 1)])), (3, sx_vi (0, [(20012, 1)]))], [(8066, (0, [(20008, 1)])), (8067, (0, [(20009, 1)])), (8068, (0, [(20010, 1)])), (8069, (0, [(20011, 1)])), (10114, (0, [(20000, 1)])), (10115, (0, [(20001, 1)])), (10116, (0, [(20002, 1)])), (10117, (0, [(20003, 1)])), (10118, (0, [(20004, 1)])), (10119, (0, [(20005, 1)])), (10120, (0, [(20006, 1)])), (12036, (0, [(20007, 1)]))], (40803, [(20012, (-202))]))
def sx_z217 : sx_Ce2 := ([], [15, 74], [sx_t217_0, sx_t217_1], [])
theorem sx_k217 : sx_ckE sx_tc 2 2 5000 181 7 sx_c217 sx_z217 = true := by decide +kernel
theorem sx_k217_0 : sx_ckT sx_tc 2 2 5000 181 7 sx_c217 sx_z217 sx_t217_0 = true := by decide +kernel
theorem sx_k217_1 : sx_ckT sx_tc 2 2 5000 181 7 sx_c217 sx_z217 sx_t217_1 = true := by decide +kernel
/-! CabinPeace.run -/
def sx_z218 : sx_Ce2 := ([], [], [], [])
theorem sx_k218 : sx_ckE sx_tc 2 2 5000 171 10 sx_c218 sx_z218 = true := by decide +kernel
/-! CabinPeace.sizes -/
def sx_z219 : sx_Ce2 := ([], [], [], [])
theorem sx_k219 : sx_ckE sx_tc 2 2 5000 172 0 sx_c219 sx_z219 = true := by decide +kernel
/-! CabinPeace.sort -/
def sx_z220 : sx_Ce2 := ([], [], [], [])
theorem sx_k220 : sx_ckE sx_tc 2 2 5000 173 5 sx_c220 sx_z220 = true := by decide +kernel
/-! CabinPeace.status -/
def sx_z221 : sx_Ce2 := ([], [], [], [])
theorem sx_k221 : sx_ckE sx_tc 2 0 5000 174 0 sx_c221 sx_z221 = true := by decide +kernel
/-! CabinPeace.step -/
def sx_z222 : sx_Ce2 := ([], [], [], [])
theorem sx_k222 : sx_ckE sx_tc 2 2 5000 175 7 sx_c222 sx_z222 = true := by decide +kernel
/-! CabinPeace.sum -/
def sx_z223 : sx_Ce2 := ([], [], [], [])
theorem sx_k223 : sx_ckE sx_tc 2 1 5000 176 11 sx_c223 sx_z223 = true := by decide +kernel
