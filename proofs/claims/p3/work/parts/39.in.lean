/-! EVERY CONTRACT HOLDS -/
section SXIN
variable {l : Launch} {ρ : rv_ρ}
theorem sx_w100 (h : sx_TcOK l ρ sx_tc 100) : sx_CtOK l ρ 11 sx_c100 := sx_ck_ok (z := sx_z100) h sx_k100 (fun t ht => match t, ht with
  | _, List.Mem.head _ => sx_k100_0)
theorem sx_w101 (h : sx_TcOK l ρ sx_tc 101) : sx_CtOK l ρ 3 sx_c101 := sx_ck_ok (z := sx_z101) h sx_k101 (fun t ht => (by cases ht))
theorem sx_w102 (h : sx_TcOK l ρ sx_tc 102) : sx_CtOK l ρ 21 sx_c102 := sx_ck_ok (z := sx_z102) h sx_k102 (fun t ht => match t, ht with
  | _, List.Mem.head _ => sx_k102_0)
theorem sx_w103 (h : sx_TcOK l ρ sx_tc 103) : sx_CtOK l ρ 122 sx_c103 := sx_ck_ok (z := sx_z103) h sx_k103 (fun t ht => match t, ht with
  | _, List.Mem.head _ => sx_k103_0)
theorem sx_w104 (h : sx_TcOK l ρ sx_tc 104) : sx_CtOK l ρ 120 sx_c104 := sx_ck_ok (z := sx_z104) h sx_k104 (fun t ht => match t, ht with
  | _, List.Mem.head _ => sx_k104_0
  | _, List.Mem.tail _ (List.Mem.head _) => sx_k104_1)
theorem sx_w105 (h : sx_TcOK l ρ sx_tc 105) : sx_CtOK l ρ 17 sx_c105 := sx_ck_ok (z := sx_z105) h sx_k105 (fun t ht => match t, ht with
  | _, List.Mem.head _ => sx_k105_0
  | _, List.Mem.tail _ (List.Mem.head _) => sx_k105_1
  | _, List.Mem.tail _ (List.Mem.tail _ (List.Mem.head _)) => sx_k105_2
  | _, List.Mem.tail _ (List.Mem.tail _ (List.Mem.tail _ (List.Mem.head _))) => sx_k105_3
  | _, List.Mem.tail _ (List.Mem.tail _ (List.Mem.tail _ (List.Mem.tail _ (List.Mem.head _)))) => sx_k105_4)
theorem sx_w106 (h : sx_TcOK l ρ sx_tc 106) : sx_CtOK l ρ 18 sx_c106 := sx_ck_ok (z := sx_z106) h sx_k106 (fun t ht => match t, ht with
  | _, List.Mem.head _ => sx_k106_0
  | _, List.Mem.tail _ (List.Mem.head _) => sx_k106_1
  | _, List.Mem.tail _ (List.Mem.tail _ (List.Mem.head _)) => sx_k106_2
  | _, List.Mem.tail _ (List.Mem.tail _ (List.Mem.tail _ (List.Mem.head _))) => sx_k106_3)
theorem sx_w107 (h : sx_TcOK l ρ sx_tc 107) : sx_CtOK l ρ 18 sx_c107 := sx_ck_ok (z := sx_z107) h sx_k107 (fun t ht => match t, ht with
  | _, List.Mem.head _ => sx_k107_0
  | _, List.Mem.tail _ (List.Mem.head _) => sx_k107_1
  | _, List.Mem.tail _ (List.Mem.tail _ (List.Mem.head _)) => sx_k107_2
  | _, List.Mem.tail _ (List.Mem.tail _ (List.Mem.tail _ (List.Mem.head _))) => sx_k107_3)
theorem sx_w108 (h : sx_TcOK l ρ sx_tc 108) : sx_CtOK l ρ 18 sx_c108 := sx_ck_ok (z := sx_z108) h sx_k108 (fun t ht => match t, ht with
  | _, List.Mem.head _ => sx_k108_0
  | _, List.Mem.tail _ (List.Mem.head _) => sx_k108_1
  | _, List.Mem.tail _ (List.Mem.tail _ (List.Mem.head _)) => sx_k108_2
  | _, List.Mem.tail _ (List.Mem.tail _ (List.Mem.tail _ (List.Mem.head _))) => sx_k108_3)
theorem sx_w109 (h : sx_TcOK l ρ sx_tc 109) : sx_CtOK l ρ 18 sx_c109 := sx_ck_ok (z := sx_z109) h sx_k109 (fun t ht => match t, ht with
  | _, List.Mem.head _ => sx_k109_0
  | _, List.Mem.tail _ (List.Mem.head _) => sx_k109_1
  | _, List.Mem.tail _ (List.Mem.tail _ (List.Mem.head _)) => sx_k109_2
  | _, List.Mem.tail _ (List.Mem.tail _ (List.Mem.tail _ (List.Mem.head _))) => sx_k109_3)
theorem sx_w110 (h : sx_TcOK l ρ sx_tc 110) : sx_CtOK l ρ 18 sx_c110 := sx_ck_ok (z := sx_z110) h sx_k110 (fun t ht => match t, ht with
  | _, List.Mem.head _ => sx_k110_0
  | _, List.Mem.tail _ (List.Mem.head _) => sx_k110_1
  | _, List.Mem.tail _ (List.Mem.tail _ (List.Mem.head _)) => sx_k110_2
  | _, List.Mem.tail _ (List.Mem.tail _ (List.Mem.tail _ (List.Mem.head _))) => sx_k110_3)
theorem sx_w111 (h : sx_TcOK l ρ sx_tc 111) : sx_CtOK l ρ 19 sx_c111 := sx_ck_ok (z := sx_z111) h sx_k111 (fun t ht => match t, ht with
  | _, List.Mem.head _ => sx_k111_0
  | _, List.Mem.tail _ (List.Mem.head _) => sx_k111_1
  | _, List.Mem.tail _ (List.Mem.tail _ (List.Mem.head _)) => sx_k111_2
  | _, List.Mem.tail _ (List.Mem.tail _ (List.Mem.tail _ (List.Mem.head _))) => sx_k111_3)
theorem sx_w112 (h : sx_TcOK l ρ sx_tc 112) : sx_CtOK l ρ 22 sx_c112 := sx_ck_ok (z := sx_z112) h sx_k112 (fun t ht => match t, ht with
  | _, List.Mem.head _ => sx_k112_0
  | _, List.Mem.tail _ (List.Mem.head _) => sx_k112_1)
theorem sx_w113 (h : sx_TcOK l ρ sx_tc 113) : sx_CtOK l ρ 22 sx_c113 := sx_ck_ok (z := sx_z113) h sx_k113 (fun t ht => match t, ht with
  | _, List.Mem.head _ => sx_k113_0
  | _, List.Mem.tail _ (List.Mem.head _) => sx_k113_1)
theorem sx_w114 (h : sx_TcOK l ρ sx_tc 114) : sx_CtOK l ρ 25 sx_c114 := sx_ck_ok (z := sx_z114) h sx_k114 (fun t ht => match t, ht with
  | _, List.Mem.head _ => sx_k114_0
  | _, List.Mem.tail _ (List.Mem.head _) => sx_k114_1)
theorem sx_w115 (h : sx_TcOK l ρ sx_tc 115) : sx_CtOK l ρ 25 sx_c115 := sx_ck_ok (z := sx_z115) h sx_k115 (fun t ht => match t, ht with
  | _, List.Mem.head _ => sx_k115_0
  | _, List.Mem.tail _ (List.Mem.head _) => sx_k115_1)
theorem sx_w116 (h : sx_TcOK l ρ sx_tc 116) : sx_CtOK l ρ 26 sx_c116 := sx_ck_ok (z := sx_z116) h sx_k116 (fun t ht => match t, ht with
  | _, List.Mem.head _ => sx_k116_0
  | _, List.Mem.tail _ (List.Mem.head _) => sx_k116_1)
theorem sx_w117 (h : sx_TcOK l ρ sx_tc 117) : sx_CtOK l ρ 26 sx_c117 := sx_ck_ok (z := sx_z117) h sx_k117 (fun t ht => match t, ht with
  | _, List.Mem.head _ => sx_k117_0
  | _, List.Mem.tail _ (List.Mem.head _) => sx_k117_1)
theorem sx_w118 (h : sx_TcOK l ρ sx_tc 118) : sx_CtOK l ρ 27 sx_c118 := sx_ck_ok (z := sx_z118) h sx_k118 (fun t ht => match t, ht with
  | _, List.Mem.head _ => sx_k118_0)
theorem sx_w119 (h : sx_TcOK l ρ sx_tc 119) : sx_CtOK l ρ 27 sx_c119 := sx_ck_ok (z := sx_z119) h sx_k119 (fun t ht => match t, ht with
  | _, List.Mem.head _ => sx_k119_0)
theorem sx_w120 (h : sx_TcOK l ρ sx_tc 120) : sx_CtOK l ρ 50 sx_c120 := sx_ck_ok (z := sx_z120) h sx_k120 (fun t ht => match t, ht with
  | _, List.Mem.head _ => sx_k120_0)
theorem sx_w121 (h : sx_TcOK l ρ sx_tc 121) : sx_CtOK l ρ 30 sx_c121 := sx_ck_ok (z := sx_z121) h sx_k121 (fun t ht => match t, ht with
  | _, List.Mem.head _ => sx_k121_0
  | _, List.Mem.tail _ (List.Mem.head _) => sx_k121_1)
theorem sx_w122 (h : sx_TcOK l ρ sx_tc 122) : sx_CtOK l ρ 118 sx_c122 := sx_ck_ok (z := sx_z122) h sx_k122 (fun t ht => match t, ht with
  | _, List.Mem.head _ => sx_k122_0
  | _, List.Mem.tail _ (List.Mem.head _) => sx_k122_1)
theorem sx_w123 (h : sx_TcOK l ρ sx_tc 123) : sx_CtOK l ρ 31 sx_c123 := sx_ck_ok (z := sx_z123) h sx_k123 (fun t ht => match t, ht with
  | _, List.Mem.head _ => sx_k123_0
  | _, List.Mem.tail _ (List.Mem.head _) => sx_k123_1
  | _, List.Mem.tail _ (List.Mem.tail _ (List.Mem.head _)) => sx_k123_2
  | _, List.Mem.tail _ (List.Mem.tail _ (List.Mem.tail _ (List.Mem.head _))) => sx_k123_3)
theorem sx_w124 (h : sx_TcOK l ρ sx_tc 124) : sx_CtOK l ρ 32 sx_c124 := sx_ck_ok (z := sx_z124) h sx_k124 (fun t ht => match t, ht with
  | _, List.Mem.head _ => sx_k124_0)
theorem sx_w125 (h : sx_TcOK l ρ sx_tc 125) : sx_CtOK l ρ 35 sx_c125 := sx_ck_ok (z := sx_z125) h sx_k125 (fun t ht => match t, ht with
  | _, List.Mem.head _ => sx_k125_0)
theorem sx_w126 (h : sx_TcOK l ρ sx_tc 126) : sx_CtOK l ρ 34 sx_c126 := sx_ck_ok (z := sx_z126) h sx_k126 (fun t ht => match t, ht with
  | _, List.Mem.head _ => sx_k126_0)
theorem sx_w127 (h : sx_TcOK l ρ sx_tc 127) : sx_CtOK l ρ 37 sx_c127 := sx_ck_ok (z := sx_z127) h sx_k127 (fun t ht => (by cases ht))
theorem sx_w128 (h : sx_TcOK l ρ sx_tc 128) : sx_CtOK l ρ 37 sx_c128 := sx_ck_ok (z := sx_z128) h sx_k128 (fun t ht => (by cases ht))
theorem sx_w129 (h : sx_TcOK l ρ sx_tc 129) : sx_CtOK l ρ 37 sx_c129 := sx_ck_ok (z := sx_z129) h sx_k129 (fun t ht => (by cases ht))
theorem sx_w130 (h : sx_TcOK l ρ sx_tc 130) : sx_CtOK l ρ 37 sx_c130 := sx_ck_ok (z := sx_z130) h sx_k130 (fun t ht => (by cases ht))
theorem sx_w131 (h : sx_TcOK l ρ sx_tc 131) : sx_CtOK l ρ 37 sx_c131 := sx_ck_ok (z := sx_z131) h sx_k131 (fun t ht => (by cases ht))
theorem sx_w132 (h : sx_TcOK l ρ sx_tc 132) : sx_CtOK l ρ 37 sx_c132 := sx_ck_ok (z := sx_z132) h sx_k132 (fun t ht => match t, ht with
  | _, List.Mem.head _ => sx_k132_0)
theorem sx_w133 (h : sx_TcOK l ρ sx_tc 133) : sx_CtOK l ρ 37 sx_c133 := sx_ck_ok (z := sx_z133) h sx_k133 (fun t ht => match t, ht with
  | _, List.Mem.head _ => sx_k133_0)
theorem sx_w134 (h : sx_TcOK l ρ sx_tc 134) : sx_CtOK l ρ 37 sx_c134 := sx_ck_ok (z := sx_z134) h sx_k134 (fun t ht => match t, ht with
  | _, List.Mem.head _ => sx_k134_0)
theorem sx_w135 (h : sx_TcOK l ρ sx_tc 135) : sx_CtOK l ρ 37 sx_c135 := sx_ck_ok (z := sx_z135) h sx_k135 (fun t ht => match t, ht with
  | _, List.Mem.head _ => sx_k135_0)
theorem sx_w136 (h : sx_TcOK l ρ sx_tc 136) : sx_CtOK l ρ 37 sx_c136 := sx_ck_ok (z := sx_z136) h sx_k136 (fun t ht => match t, ht with
  | _, List.Mem.head _ => sx_k136_0)
theorem sx_w137 (h : sx_TcOK l ρ sx_tc 137) : sx_CtOK l ρ 38 sx_c137 := sx_ck_ok (z := sx_z137) h sx_k137 (fun t ht => match t, ht with
  | _, List.Mem.head _ => sx_k137_0)
theorem sx_w138 (h : sx_TcOK l ρ sx_tc 138) : sx_CtOK l ρ 46 sx_c138 := sx_ck_ok (z := sx_z138) h sx_k138 (fun t ht => match t, ht with
  | _, List.Mem.head _ => sx_k138_0
  | _, List.Mem.tail _ (List.Mem.head _) => sx_k138_1)
theorem sx_w139 (h : sx_TcOK l ρ sx_tc 139) : sx_CtOK l ρ 39 sx_c139 := sx_ck_ok (z := sx_z139) h sx_k139 (fun t ht => match t, ht with
  | _, List.Mem.head _ => sx_k139_0)
theorem sx_w140 (h : sx_TcOK l ρ sx_tc 140) : sx_CtOK l ρ 87 sx_c140 := sx_ck_ok (z := sx_z140) h sx_k140 (fun t ht => match t, ht with
  | _, List.Mem.head _ => sx_k140_0)
theorem sx_w141 (h : sx_TcOK l ρ sx_tc 141) : sx_CtOK l ρ 123 sx_c141 := sx_ck_ok (z := sx_z141) h sx_k141 (fun t ht => match t, ht with
  | _, List.Mem.head _ => sx_k141_0)
theorem sx_w142 (h : sx_TcOK l ρ sx_tc 142) : sx_CtOK l ρ 119 sx_c142 := sx_ck_ok (z := sx_z142) h sx_k142 (fun t ht => match t, ht with
  | _, List.Mem.head _ => sx_k142_0)
theorem sx_w143 (h : sx_TcOK l ρ sx_tc 143) : sx_CtOK l ρ 121 sx_c143 := sx_ck_ok (z := sx_z143) h sx_k143 (fun t ht => match t, ht with
  | _, List.Mem.head _ => sx_k143_0)
theorem sx_w144 (h : sx_TcOK l ρ sx_tc 144) : sx_CtOK l ρ 115 sx_c144 := sx_ck_ok (z := sx_z144) h sx_k144 (fun t ht => match t, ht with
  | _, List.Mem.head _ => sx_k144_0
  | _, List.Mem.tail _ (List.Mem.head _) => sx_k144_1)
theorem sx_w145 (h : sx_TcOK l ρ sx_tc 145) : sx_CtOK l ρ 41 sx_c145 := sx_ck_ok (z := sx_z145) h sx_k145 (fun t ht => match t, ht with
  | _, List.Mem.head _ => sx_k145_0)
theorem sx_w146 (h : sx_TcOK l ρ sx_tc 146) : sx_CtOK l ρ 42 sx_c146 := sx_ck_ok (z := sx_z146) h sx_k146 (fun t ht => match t, ht with
  | _, List.Mem.head _ => sx_k146_0)
theorem sx_w147 (h : sx_TcOK l ρ sx_tc 147) : sx_CtOK l ρ 45 sx_c147 := sx_ck_ok (z := sx_z147) h sx_k147 (fun t ht => match t, ht with
  | _, List.Mem.head _ => sx_k147_0)
theorem sx_w148 (h : sx_TcOK l ρ sx_tc 148) : sx_CtOK l ρ 47 sx_c148 := sx_ck_ok (z := sx_z148) h sx_k148 (fun t ht => match t, ht with
  | _, List.Mem.head _ => sx_k148_0
  | _, List.Mem.tail _ (List.Mem.head _) => sx_k148_1)
theorem sx_w149 (h : sx_TcOK l ρ sx_tc 149) : sx_CtOK l ρ 48 sx_c149 := sx_ck_ok (z := sx_z149) h sx_k149 (fun t ht => match t, ht with
  | _, List.Mem.head _ => sx_k149_0)
theorem sx_w150 (h : sx_TcOK l ρ sx_tc 150) : sx_CtOK l ρ 49 sx_c150 := sx_ck_ok (z := sx_z150) h sx_k150 (fun t ht => match t, ht with
  | _, List.Mem.head _ => sx_k150_0
  | _, List.Mem.tail _ (List.Mem.head _) => sx_k150_1
  | _, List.Mem.tail _ (List.Mem.tail _ (List.Mem.head _)) => sx_k150_2
  | _, List.Mem.tail _ (List.Mem.tail _ (List.Mem.tail _ (List.Mem.head _))) => sx_k150_3
  | _, List.Mem.tail _ (List.Mem.tail _ (List.Mem.tail _ (List.Mem.tail _ (List.Mem.head _)))) => sx_k150_4
  | _, List.Mem.tail _ (List.Mem.tail _ (List.Mem.tail _ (List.Mem.tail _ (List.Mem.tail _ (List.Mem.head _))))) => sx_k150_5
  | _, List.Mem.tail _ (List.Mem.tail _ (List.Mem.tail _ (List.Mem.tail _ (List.Mem.tail _ (List.Mem.tail _ (List.Mem.head _)))))) => sx_k150_6
  | _, List.Mem.tail _ (List.Mem.tail _ (List.Mem.tail _ (List.Mem.tail _ (List.Mem.tail _ (List.Mem.tail _ (List.Mem.tail _ (List.Mem.head _))))))) => sx_k150_7)
theorem sx_w151 (h : sx_TcOK l ρ sx_tc 151) : sx_CtOK l ρ 51 sx_c151 := sx_ck_ok (z := sx_z151) h sx_k151 (fun t ht => match t, ht with
  | _, List.Mem.head _ => sx_k151_0
  | _, List.Mem.tail _ (List.Mem.head _) => sx_k151_1
  | _, List.Mem.tail _ (List.Mem.tail _ (List.Mem.head _)) => sx_k151_2
  | _, List.Mem.tail _ (List.Mem.tail _ (List.Mem.tail _ (List.Mem.head _))) => sx_k151_3
  | _, List.Mem.tail _ (List.Mem.tail _ (List.Mem.tail _ (List.Mem.tail _ (List.Mem.head _)))) => sx_k151_4
  | _, List.Mem.tail _ (List.Mem.tail _ (List.Mem.tail _ (List.Mem.tail _ (List.Mem.tail _ (List.Mem.head _))))) => sx_k151_5
  | _, List.Mem.tail _ (List.Mem.tail _ (List.Mem.tail _ (List.Mem.tail _ (List.Mem.tail _ (List.Mem.tail _ (List.Mem.head _)))))) => sx_k151_6
  | _, List.Mem.tail _ (List.Mem.tail _ (List.Mem.tail _ (List.Mem.tail _ (List.Mem.tail _ (List.Mem.tail _ (List.Mem.tail _ (List.Mem.head _))))))) => sx_k151_7
  | _, List.Mem.tail _ (List.Mem.tail _ (List.Mem.tail _ (List.Mem.tail _ (List.Mem.tail _ (List.Mem.tail _ (List.Mem.tail _ (List.Mem.tail _ (List.Mem.head _)))))))) => sx_k151_8)
theorem sx_w152 (h : sx_TcOK l ρ sx_tc 152) : sx_CtOK l ρ 53 sx_c152 := sx_ck_ok (z := sx_z152) h sx_k152 (fun t ht => match t, ht with
  | _, List.Mem.head _ => sx_k152_0)
theorem sx_w153 (h : sx_TcOK l ρ sx_tc 153) : sx_CtOK l ρ 74 sx_c153 := sx_ck_ok (z := sx_z153) h sx_k153 (fun t ht => match t, ht with
  | _, List.Mem.head _ => sx_k153_0)
theorem sx_w154 (h : sx_TcOK l ρ sx_tc 154) : sx_CtOK l ρ 76 sx_c154 := sx_ck_ok (z := sx_z154) h sx_k154 (fun t ht => match t, ht with
  | _, List.Mem.head _ => sx_k154_0)
theorem sx_w155 (h : sx_TcOK l ρ sx_tc 155) : sx_CtOK l ρ 75 sx_c155 := sx_ck_ok (z := sx_z155) h sx_k155 (fun t ht => (by cases ht))
theorem sx_w156 (h : sx_TcOK l ρ sx_tc 156) : sx_CtOK l ρ 61 sx_c156 := sx_ck_ok (z := sx_z156) h sx_k156 (fun t ht => match t, ht with
  | _, List.Mem.head _ => sx_k156_0
  | _, List.Mem.tail _ (List.Mem.head _) => sx_k156_1)
theorem sx_w157 (h : sx_TcOK l ρ sx_tc 157) : sx_CtOK l ρ 107 sx_c157 := sx_ck_ok (z := sx_z157) h sx_k157 (fun t ht => (by cases ht))
theorem sx_w158 (h : sx_TcOK l ρ sx_tc 158) : sx_CtOK l ρ 68 sx_c158 := sx_ck_ok (z := sx_z158) h sx_k158 (fun t ht => (by cases ht))
theorem sx_w159 (h : sx_TcOK l ρ sx_tc 159) : sx_CtOK l ρ 71 sx_c159 := sx_ck_ok (z := sx_z159) h sx_k159 (fun t ht => match t, ht with
  | _, List.Mem.head _ => sx_k159_0)
theorem sx_w160 (h : sx_TcOK l ρ sx_tc 160) : sx_CtOK l ρ 68 sx_c160 := sx_ck_ok (z := sx_z160) h sx_k160 (fun t ht => (by cases ht))
theorem sx_w161 (h : sx_TcOK l ρ sx_tc 161) : sx_CtOK l ρ 71 sx_c161 := sx_ck_ok (z := sx_z161) h sx_k161 (fun t ht => match t, ht with
  | _, List.Mem.head _ => sx_k161_0)
theorem sx_w162 (h : sx_TcOK l ρ sx_tc 162) : sx_CtOK l ρ 68 sx_c162 := sx_ck_ok (z := sx_z162) h sx_k162 (fun t ht => (by cases ht))
theorem sx_w163 (h : sx_TcOK l ρ sx_tc 163) : sx_CtOK l ρ 71 sx_c163 := sx_ck_ok (z := sx_z163) h sx_k163 (fun t ht => match t, ht with
  | _, List.Mem.head _ => sx_k163_0)
theorem sx_w164 (h : sx_TcOK l ρ sx_tc 164) : sx_CtOK l ρ 68 sx_c164 := sx_ck_ok (z := sx_z164) h sx_k164 (fun t ht => (by cases ht))
theorem sx_w165 (h : sx_TcOK l ρ sx_tc 165) : sx_CtOK l ρ 71 sx_c165 := sx_ck_ok (z := sx_z165) h sx_k165 (fun t ht => match t, ht with
  | _, List.Mem.head _ => sx_k165_0)
theorem sx_w166 (h : sx_TcOK l ρ sx_tc 166) : sx_CtOK l ρ 68 sx_c166 := sx_ck_ok (z := sx_z166) h sx_k166 (fun t ht => (by cases ht))
theorem sx_w167 (h : sx_TcOK l ρ sx_tc 167) : sx_CtOK l ρ 71 sx_c167 := sx_ck_ok (z := sx_z167) h sx_k167 (fun t ht => match t, ht with
  | _, List.Mem.head _ => sx_k167_0)
theorem sx_w168 (h : sx_TcOK l ρ sx_tc 168) : sx_CtOK l ρ 68 sx_c168 := sx_ck_ok (z := sx_z168) h sx_k168 (fun t ht => (by cases ht))
theorem sx_w169 (h : sx_TcOK l ρ sx_tc 169) : sx_CtOK l ρ 71 sx_c169 := sx_ck_ok (z := sx_z169) h sx_k169 (fun t ht => match t, ht with
  | _, List.Mem.head _ => sx_k169_0)
theorem sx_w170 (h : sx_TcOK l ρ sx_tc 170) : sx_CtOK l ρ 68 sx_c170 := sx_ck_ok (z := sx_z170) h sx_k170 (fun t ht => (by cases ht))
theorem sx_w171 (h : sx_TcOK l ρ sx_tc 171) : sx_CtOK l ρ 71 sx_c171 := sx_ck_ok (z := sx_z171) h sx_k171 (fun t ht => match t, ht with
  | _, List.Mem.head _ => sx_k171_0)
theorem sx_w172 (h : sx_TcOK l ρ sx_tc 172) : sx_CtOK l ρ 69 sx_c172 := sx_ck_ok (z := sx_z172) h sx_k172 (fun t ht => (by cases ht))
theorem sx_w173 (h : sx_TcOK l ρ sx_tc 173) : sx_CtOK l ρ 72 sx_c173 := sx_ck_ok (z := sx_z173) h sx_k173 (fun t ht => match t, ht with
  | _, List.Mem.head _ => sx_k173_0)
theorem sx_w174 (h : sx_TcOK l ρ sx_tc 174) : sx_CtOK l ρ 105 sx_c174 := sx_ck_ok (z := sx_z174) h sx_k174 (fun t ht => (by cases ht))
theorem sx_w175 (h : sx_TcOK l ρ sx_tc 175) : sx_CtOK l ρ 106 sx_c175 := sx_ck_ok (z := sx_z175) h sx_k175 (fun t ht => (by cases ht))
theorem sx_w176 (h : sx_TcOK l ρ sx_tc 176) : sx_CtOK l ρ 108 sx_c176 := sx_ck_ok (z := sx_z176) h sx_k176 (fun t ht => (by cases ht))
theorem sx_w177 (h : sx_TcOK l ρ sx_tc 177) : sx_CtOK l ρ 73 sx_c177 := sx_ck_ok (z := sx_z177) h sx_k177 (fun t ht => match t, ht with
  | _, List.Mem.head _ => sx_k177_0)
theorem sx_w178 (h : sx_TcOK l ρ sx_tc 178) : sx_CtOK l ρ 78 sx_c178 := sx_ck_ok (z := sx_z178) h sx_k178 (fun t ht => match t, ht with
  | _, List.Mem.head _ => sx_k178_0)
theorem sx_w179 (h : sx_TcOK l ρ sx_tc 179) : sx_CtOK l ρ 3 sx_c179 := sx_ck_ok (z := sx_z179) h sx_k179 (fun t ht => (by cases ht))
theorem sx_w180 (h : sx_TcOK l ρ sx_tc 180) : sx_CtOK l ρ 82 sx_c180 := sx_ck_ok (z := sx_z180) h sx_k180 (fun t ht => match t, ht with
  | _, List.Mem.head _ => sx_k180_0)
theorem sx_w181 (h : sx_TcOK l ρ sx_tc 181) : sx_CtOK l ρ 84 sx_c181 := sx_ck_ok (z := sx_z181) h sx_k181 (fun t ht => match t, ht with
  | _, List.Mem.head _ => sx_k181_0)
theorem sx_w182 (h : sx_TcOK l ρ sx_tc 182) : sx_CtOK l ρ 85 sx_c182 := sx_ck_ok (z := sx_z182) h sx_k182 (fun t ht => match t, ht with
  | _, List.Mem.head _ => sx_k182_0)
theorem sx_w183 (h : sx_TcOK l ρ sx_tc 183) : sx_CtOK l ρ 86 sx_c183 := sx_ck_ok (z := sx_z183) h sx_k183 (fun t ht => match t, ht with
  | _, List.Mem.head _ => sx_k183_0)
theorem sx_w184 (h : sx_TcOK l ρ sx_tc 184) : sx_CtOK l ρ 90 sx_c184 := sx_ck_ok (z := sx_z184) h sx_k184 (fun t ht => match t, ht with
  | _, List.Mem.head _ => sx_k184_0)
theorem sx_w185 (h : sx_TcOK l ρ sx_tc 185) : sx_CtOK l ρ 91 sx_c185 := sx_ck_ok (z := sx_z185) h sx_k185 (fun t ht => match t, ht with
  | _, List.Mem.head _ => sx_k185_0)
theorem sx_w186 (h : sx_TcOK l ρ sx_tc 186) : sx_CtOK l ρ 92 sx_c186 := sx_ck_ok (z := sx_z186) h sx_k186 (fun t ht => match t, ht with
  | _, List.Mem.head _ => sx_k186_0
  | _, List.Mem.tail _ (List.Mem.head _) => sx_k186_1)
theorem sx_w187 (h : sx_TcOK l ρ sx_tc 187) : sx_CtOK l ρ 93 sx_c187 := sx_ck_ok (z := sx_z187) h sx_k187 (fun t ht => match t, ht with
  | _, List.Mem.head _ => sx_k187_0
  | _, List.Mem.tail _ (List.Mem.head _) => sx_k187_1)
theorem sx_w188 (h : sx_TcOK l ρ sx_tc 188) : sx_CtOK l ρ 95 sx_c188 := sx_ck_ok (z := sx_z188) h sx_k188 (fun t ht => match t, ht with
  | _, List.Mem.head _ => sx_k188_0)
theorem sx_w189 (h : sx_TcOK l ρ sx_tc 189) : sx_CtOK l ρ 96 sx_c189 := sx_ck_ok (z := sx_z189) h sx_k189 (fun t ht => match t, ht with
  | _, List.Mem.head _ => sx_k189_0)
theorem sx_w190 (h : sx_TcOK l ρ sx_tc 190) : sx_CtOK l ρ 126 sx_c190 := sx_ck_ok (z := sx_z190) h sx_k190 (fun t ht => match t, ht with
  | _, List.Mem.head _ => sx_k190_0)
theorem sx_w191 (h : sx_TcOK l ρ sx_tc 191) : sx_CtOK l ρ 114 sx_c191 := sx_ck_ok (z := sx_z191) h sx_k191 (fun t ht => match t, ht with
  | _, List.Mem.head _ => sx_k191_0)
theorem sx_w192 (h : sx_TcOK l ρ sx_tc 192) : sx_CtOK l ρ 135 sx_c192 := sx_ck_ok (z := sx_z192) h sx_k192 (fun t ht => match t, ht with
  | _, List.Mem.head _ => sx_k192_0)
theorem sx_w193 (h : sx_TcOK l ρ sx_tc 193) : sx_CtOK l ρ 97 sx_c193 := sx_ck_ok (z := sx_z193) h sx_k193 (fun t ht => match t, ht with
  | _, List.Mem.head _ => sx_k193_0
  | _, List.Mem.tail _ (List.Mem.head _) => sx_k193_1)
theorem sx_w194 (h : sx_TcOK l ρ sx_tc 194) : sx_CtOK l ρ 103 sx_c194 := sx_ck_ok (z := sx_z194) h sx_k194 (fun t ht => match t, ht with
  | _, List.Mem.head _ => sx_k194_0)
theorem sx_w195 (h : sx_TcOK l ρ sx_tc 195) : sx_CtOK l ρ 103 sx_c195 := sx_ck_ok (z := sx_z195) h sx_k195 (fun t ht => match t, ht with
  | _, List.Mem.head _ => sx_k195_0)
theorem sx_w196 (h : sx_TcOK l ρ sx_tc 196) : sx_CtOK l ρ 103 sx_c196 := sx_ck_ok (z := sx_z196) h sx_k196 (fun t ht => match t, ht with
  | _, List.Mem.head _ => sx_k196_0)
theorem sx_w197 (h : sx_TcOK l ρ sx_tc 197) : sx_CtOK l ρ 103 sx_c197 := sx_ck_ok (z := sx_z197) h sx_k197 (fun t ht => match t, ht with
  | _, List.Mem.head _ => sx_k197_0)
theorem sx_w198 (h : sx_TcOK l ρ sx_tc 198) : sx_CtOK l ρ 131 sx_c198 := sx_ck_ok (z := sx_z198) h sx_k198 (fun t ht => match t, ht with
  | _, List.Mem.head _ => sx_k198_0)
theorem sx_w199 (h : sx_TcOK l ρ sx_tc 199) : sx_CtOK l ρ 117 sx_c199 := sx_ck_ok (z := sx_z199) h sx_k199 (fun t ht => match t, ht with
  | _, List.Mem.head _ => sx_k199_0)
theorem sx_w200 (h : sx_TcOK l ρ sx_tc 200) : sx_CtOK l ρ 133 sx_c200 := sx_ck_ok (z := sx_z200) h sx_k200 (fun t ht => match t, ht with
  | _, List.Mem.head _ => sx_k200_0)
theorem sx_w201 (h : sx_TcOK l ρ sx_tc 201) : sx_CtOK l ρ 124 sx_c201 := sx_ck_ok (z := sx_z201) h sx_k201 (fun t ht => match t, ht with
  | _, List.Mem.head _ => sx_k201_0
  | _, List.Mem.tail _ (List.Mem.head _) => sx_k201_1)
theorem sx_w202 (h : sx_TcOK l ρ sx_tc 202) : sx_CtOK l ρ 138 sx_c202 := sx_ck_ok (z := sx_z202) h sx_k202 (fun t ht => match t, ht with
  | _, List.Mem.head _ => sx_k202_0)
theorem sx_w203 (h : sx_TcOK l ρ sx_tc 203) : sx_CtOK l ρ 137 sx_c203 := sx_ck_ok (z := sx_z203) h sx_k203 (fun t ht => match t, ht with
  | _, List.Mem.head _ => sx_k203_0
  | _, List.Mem.tail _ (List.Mem.head _) => sx_k203_1)
theorem sx_w204 (h : sx_TcOK l ρ sx_tc 204) : sx_CtOK l ρ 140 sx_c204 := sx_ck_ok (z := sx_z204) h sx_k204 (fun t ht => (by cases ht))
theorem sx_w205 (h : sx_TcOK l ρ sx_tc 205) : sx_CtOK l ρ 141 sx_c205 := sx_ck_ok (z := sx_z205) h sx_k205 (fun t ht => (by cases ht))
theorem sx_w206 (h : sx_TcOK l ρ sx_tc 206) : sx_CtOK l ρ 142 sx_c206 := sx_ck_ok (z := sx_z206) h sx_k206 (fun t ht => (by cases ht))
theorem sx_w207 (h : sx_TcOK l ρ sx_tc 207) : sx_CtOK l ρ 143 sx_c207 := sx_ck_ok (z := sx_z207) h sx_k207 (fun t ht => (by cases ht))
theorem sx_w208 (h : sx_TcOK l ρ sx_tc 208) : sx_CtOK l ρ 144 sx_c208 := sx_ck_ok (z := sx_z208) h sx_k208 (fun t ht => (by cases ht))
theorem sx_w209 (h : sx_TcOK l ρ sx_tc 209) : sx_CtOK l ρ 145 sx_c209 := sx_ck_ok (z := sx_z209) h sx_k209 (fun t ht => (by cases ht))
theorem sx_w210 (h : sx_TcOK l ρ sx_tc 210) : sx_CtOK l ρ 146 sx_c210 := sx_ck_ok (z := sx_z210) h sx_k210 (fun t ht => (by cases ht))
theorem sx_w211 (h : sx_TcOK l ρ sx_tc 211) : sx_CtOK l ρ 148 sx_c211 := sx_ck_ok (z := sx_z211) h sx_k211 (fun t ht => (by cases ht))
theorem sx_w212 (h : sx_TcOK l ρ sx_tc 212) : sx_CtOK l ρ 149 sx_c212 := sx_ck_ok (z := sx_z212) h sx_k212 (fun t ht => (by cases ht))
theorem sx_w213 (h : sx_TcOK l ρ sx_tc 213) : sx_CtOK l ρ 150 sx_c213 := sx_ck_ok (z := sx_z213) h sx_k213 (fun t ht => (by cases ht))
theorem sx_w214 (h : sx_TcOK l ρ sx_tc 214) : sx_CtOK l ρ 152 sx_c214 := sx_ck_ok (z := sx_z214) h sx_k214 (fun t ht => (by cases ht))
theorem sx_w215 (h : sx_TcOK l ρ sx_tc 215) : sx_CtOK l ρ 156 sx_c215 := sx_ck_ok (z := sx_z215) h sx_k215 (fun t ht => (by cases ht))
theorem sx_w216 (h : sx_TcOK l ρ sx_tc 216) : sx_CtOK l ρ 157 sx_c216 := sx_ck_ok (z := sx_z216) h sx_k216 (fun t ht => (by cases ht))
theorem sx_w217 (h : sx_TcOK l ρ sx_tc 217) : sx_CtOK l ρ 158 sx_c217 := sx_ck_ok (z := sx_z217) h sx_k217 (fun t ht => (by cases ht))
theorem sx_w218 (h : sx_TcOK l ρ sx_tc 218) : sx_CtOK l ρ 159 sx_c218 := sx_ck_ok (z := sx_z218) h sx_k218 (fun t ht => (by cases ht))
theorem sx_w219 (h : sx_TcOK l ρ sx_tc 219) : sx_CtOK l ρ 160 sx_c219 := sx_ck_ok (z := sx_z219) h sx_k219 (fun t ht => (by cases ht))
theorem sx_w220 (h : sx_TcOK l ρ sx_tc 220) : sx_CtOK l ρ 161 sx_c220 := sx_ck_ok (z := sx_z220) h sx_k220 (fun t ht => (by cases ht))
theorem sx_w221 (h : sx_TcOK l ρ sx_tc 221) : sx_CtOK l ρ 163 sx_c221 := sx_ck_ok (z := sx_z221) h sx_k221 (fun t ht => (by cases ht))
theorem sx_w222 (h : sx_TcOK l ρ sx_tc 222) : sx_CtOK l ρ 165 sx_c222 := sx_ck_ok (z := sx_z222) h sx_k222 (fun t ht => (by cases ht))
theorem sx_w223 (h : sx_TcOK l ρ sx_tc 223) : sx_CtOK l ρ 166 sx_c223 := sx_ck_ok (z := sx_z223) h sx_k223 (fun t ht => (by cases ht))
theorem sx_w224 (h : sx_TcOK l ρ sx_tc 224) : sx_CtOK l ρ 167 sx_c224 := sx_ck_ok (z := sx_z224) h sx_k224 (fun t ht => (by cases ht))
theorem sx_w225 (h : sx_TcOK l ρ sx_tc 225) : sx_CtOK l ρ 168 sx_c225 := sx_ck_ok (z := sx_z225) h sx_k225 (fun t ht => (by cases ht))
theorem sx_w226 (h : sx_TcOK l ρ sx_tc 226) : sx_CtOK l ρ 170 sx_c226 := sx_ck_ok (z := sx_z226) h sx_k226 (fun t ht => (by cases ht))
theorem sx_w227 (h : sx_TcOK l ρ sx_tc 227) : sx_CtOK l ρ 177 sx_c227 := sx_ck_ok (z := sx_z227) h sx_k227 (fun t ht => match t, ht with
  | _, List.Mem.head _ => sx_k227_0)
theorem sx_w228 (h : sx_TcOK l ρ sx_tc 228) : sx_CtOK l ρ 181 sx_c228 := sx_ck_ok (z := sx_z228) h sx_k228 (fun t ht => match t, ht with
  | _, List.Mem.head _ => sx_k228_0
  | _, List.Mem.tail _ (List.Mem.head _) => sx_k228_1)
theorem sx_w229 (h : sx_TcOK l ρ sx_tc 229) : sx_CtOK l ρ 181 sx_c229 := sx_ck_ok (z := sx_z229) h sx_k229 (fun t ht => match t, ht with
  | _, List.Mem.head _ => sx_k229_0
  | _, List.Mem.tail _ (List.Mem.head _) => sx_k229_1)
theorem sx_w230 (h : sx_TcOK l ρ sx_tc 230) : sx_CtOK l ρ 181 sx_c230 := sx_ck_ok (z := sx_z230) h sx_k230 (fun t ht => match t, ht with
  | _, List.Mem.head _ => sx_k230_0
  | _, List.Mem.tail _ (List.Mem.head _) => sx_k230_1)
theorem sx_w231 (h : sx_TcOK l ρ sx_tc 231) : sx_CtOK l ρ 181 sx_c231 := sx_ck_ok (z := sx_z231) h sx_k231 (fun t ht => match t, ht with
  | _, List.Mem.head _ => sx_k231_0
  | _, List.Mem.tail _ (List.Mem.head _) => sx_k231_1)
theorem sx_w232 (h : sx_TcOK l ρ sx_tc 232) : sx_CtOK l ρ 181 sx_c232 := sx_ck_ok (z := sx_z232) h sx_k232 (fun t ht => match t, ht with
  | _, List.Mem.head _ => sx_k232_0
  | _, List.Mem.tail _ (List.Mem.head _) => sx_k232_1)
theorem sx_w233 (h : sx_TcOK l ρ sx_tc 233) : sx_CtOK l ρ 181 sx_c233 := sx_ck_ok (z := sx_z233) h sx_k233 (fun t ht => match t, ht with
  | _, List.Mem.head _ => sx_k233_0
  | _, List.Mem.tail _ (List.Mem.head _) => sx_k233_1)
theorem sx_w234 (h : sx_TcOK l ρ sx_tc 234) : sx_CtOK l ρ 171 sx_c234 := sx_ck_ok (z := sx_z234) h sx_k234 (fun t ht => (by cases ht))
theorem sx_w235 (h : sx_TcOK l ρ sx_tc 235) : sx_CtOK l ρ 172 sx_c235 := sx_ck_ok (z := sx_z235) h sx_k235 (fun t ht => (by cases ht))
theorem sx_w236 (h : sx_TcOK l ρ sx_tc 236) : sx_CtOK l ρ 173 sx_c236 := sx_ck_ok (z := sx_z236) h sx_k236 (fun t ht => (by cases ht))
theorem sx_w237 (h : sx_TcOK l ρ sx_tc 237) : sx_CtOK l ρ 174 sx_c237 := sx_ck_ok (z := sx_z237) h sx_k237 (fun t ht => (by cases ht))
theorem sx_w238 (h : sx_TcOK l ρ sx_tc 238) : sx_CtOK l ρ 175 sx_c238 := sx_ck_ok (z := sx_z238) h sx_k238 (fun t ht => (by cases ht))
theorem sx_w239 (h : sx_TcOK l ρ sx_tc 239) : sx_CtOK l ρ 176 sx_c239 := sx_ck_ok (z := sx_z239) h sx_k239 (fun t ht => (by cases ht))
theorem sx_w240 (h : sx_TcOK l ρ sx_tc 240) : sx_CtOK l ρ 178 sx_c240 := sx_ck_ok (z := sx_z240) h sx_k240 (fun t ht => (by cases ht))
theorem sx_w241 (h : sx_TcOK l ρ sx_tc 241) : sx_CtOK l ρ 180 sx_c241 := sx_ck_ok (z := sx_z241) h sx_k241 (fun t ht => (by cases ht))
theorem sx_w242 (h : sx_TcOK l ρ sx_tc 242) : sx_CtOK l ρ 182 sx_c242 := sx_ck_ok (z := sx_z242) h sx_k242 (fun t ht => (by cases ht))
theorem sx_w243 (h : sx_TcOK l ρ sx_tc 243) : sx_CtOK l ρ 183 sx_c243 := sx_ck_ok (z := sx_z243) h sx_k243 (fun t ht => (by cases ht))
theorem sx_w244 (h : sx_TcOK l ρ sx_tc 244) : sx_CtOK l ρ 184 sx_c244 := sx_ck_ok (z := sx_z244) h sx_k244 (fun t ht => (by cases ht))
theorem sx_w245 (h : sx_TcOK l ρ sx_tc 245) : sx_CtOK l ρ 185 sx_c245 := sx_ck_ok (z := sx_z245) h sx_k245 (fun t ht => (by cases ht))
theorem sx_w246 (h : sx_TcOK l ρ sx_tc 246) : sx_CtOK l ρ 186 sx_c246 := sx_ck_ok (z := sx_z246) h sx_k246 (fun t ht => (by cases ht))
theorem sx_w247 (h : sx_TcOK l ρ sx_tc 247) : sx_CtOK l ρ 252 sx_c247 := sx_ck_ok (z := sx_z247) h sx_k247 (fun t ht => match t, ht with
  | _, List.Mem.head _ => sx_k247_0
  | _, List.Mem.tail _ (List.Mem.head _) => sx_k247_1)
theorem sx_w248 (h : sx_TcOK l ρ sx_tc 248) : sx_CtOK l ρ 187 sx_c248 := sx_ck_ok (z := sx_z248) h sx_k248 (fun t ht => match t, ht with
  | _, List.Mem.head _ => sx_k248_0
  | _, List.Mem.tail _ (List.Mem.head _) => sx_k248_1)
theorem sx_w249 (h : sx_TcOK l ρ sx_tc 249) : sx_CtOK l ρ 188 sx_c249 := sx_ck_ok (z := sx_z249) h sx_k249 (fun t ht => match t, ht with
  | _, List.Mem.head _ => sx_k249_0
  | _, List.Mem.tail _ (List.Mem.head _) => sx_k249_1
  | _, List.Mem.tail _ (List.Mem.tail _ (List.Mem.head _)) => sx_k249_2
  | _, List.Mem.tail _ (List.Mem.tail _ (List.Mem.tail _ (List.Mem.head _))) => sx_k249_3)
theorem sx_w250 (h : sx_TcOK l ρ sx_tc 250) : sx_CtOK l ρ 189 sx_c250 := sx_ck_ok (z := sx_z250) h sx_k250 (fun t ht => match t, ht with
  | _, List.Mem.head _ => sx_k250_0)
theorem sx_w251 (h : sx_TcOK l ρ sx_tc 251) : sx_CtOK l ρ 198 sx_c251 := sx_ck_ok (z := sx_z251) h sx_k251 (fun t ht => match t, ht with
  | _, List.Mem.head _ => sx_k251_0)
theorem sx_w252 (h : sx_TcOK l ρ sx_tc 252) : sx_CtOK l ρ 192 sx_c252 := sx_ck_ok (z := sx_z252) h sx_k252 (fun t ht => match t, ht with
  | _, List.Mem.head _ => sx_k252_0)
theorem sx_w253 (h : sx_TcOK l ρ sx_tc 253) : sx_CtOK l ρ 289 sx_c253 := sx_ck_ok (z := sx_z253) h sx_k253 (fun t ht => match t, ht with
  | _, List.Mem.head _ => sx_k253_0)
theorem sx_w254 (h : sx_TcOK l ρ sx_tc 254) : sx_CtOK l ρ 226 sx_c254 := sx_ck_ok (z := sx_z254) h sx_k254 (fun t ht => match t, ht with
  | _, List.Mem.head _ => sx_k254_0)
theorem sx_w255 (h : sx_TcOK l ρ sx_tc 255) : sx_CtOK l ρ 190 sx_c255 := sx_ck_ok (z := sx_z255) h sx_k255 (fun t ht => match t, ht with
  | _, List.Mem.head _ => sx_k255_0
  | _, List.Mem.tail _ (List.Mem.head _) => sx_k255_1)
theorem sx_w256 (h : sx_TcOK l ρ sx_tc 256) : sx_CtOK l ρ 191 sx_c256 := sx_ck_ok (z := sx_z256) h sx_k256 (fun t ht => match t, ht with
  | _, List.Mem.head _ => sx_k256_0)
theorem sx_w257 (h : sx_TcOK l ρ sx_tc 257) : sx_CtOK l ρ 232 sx_c257 := sx_ck_ok (z := sx_z257) h sx_k257 (fun t ht => (by cases ht))
theorem sx_w258 (h : sx_TcOK l ρ sx_tc 258) : sx_CtOK l ρ 240 sx_c258 := sx_ck_ok (z := sx_z258) h sx_k258 (fun t ht => match t, ht with
  | _, List.Mem.head _ => sx_k258_0
  | _, List.Mem.tail _ (List.Mem.head _) => sx_k258_1)
theorem sx_w259 (h : sx_TcOK l ρ sx_tc 259) : sx_CtOK l ρ 240 sx_c259 := sx_ck_ok (z := sx_z259) h sx_k259 (fun t ht => match t, ht with
  | _, List.Mem.head _ => sx_k259_0
  | _, List.Mem.tail _ (List.Mem.head _) => sx_k259_1)
theorem sx_w260 (h : sx_TcOK l ρ sx_tc 260) : sx_CtOK l ρ 247 sx_c260 := sx_ck_ok (z := sx_z260) h sx_k260 (fun t ht => match t, ht with
  | _, List.Mem.head _ => sx_k260_0)
theorem sx_w261 (h : sx_TcOK l ρ sx_tc 261) : sx_CtOK l ρ 193 sx_c261 := sx_ck_ok (z := sx_z261) h sx_k261 (fun t ht => match t, ht with
  | _, List.Mem.head _ => sx_k261_0)
theorem sx_w262 (h : sx_TcOK l ρ sx_tc 262) : sx_CtOK l ρ 194 sx_c262 := sx_ck_ok (z := sx_z262) h sx_k262 (fun t ht => (by cases ht))
theorem sx_w263 (h : sx_TcOK l ρ sx_tc 263) : sx_CtOK l ρ 270 sx_c263 := sx_ck_ok (z := sx_z263) h sx_k263 (fun t ht => match t, ht with
  | _, List.Mem.head _ => sx_k263_0
  | _, List.Mem.tail _ (List.Mem.head _) => sx_k263_1)
theorem sx_w264 (h : sx_TcOK l ρ sx_tc 264) : sx_CtOK l ρ 196 sx_c264 := sx_ck_ok (z := sx_z264) h sx_k264 (fun t ht => match t, ht with
  | _, List.Mem.head _ => sx_k264_0
  | _, List.Mem.tail _ (List.Mem.head _) => sx_k264_1)
theorem sx_w265 (h : sx_TcOK l ρ sx_tc 265) : sx_CtOK l ρ 199 sx_c265 := sx_ck_ok (z := sx_z265) h sx_k265 (fun t ht => match t, ht with
  | _, List.Mem.head _ => sx_k265_0)
theorem sx_w266 (h : sx_TcOK l ρ sx_tc 266) : sx_CtOK l ρ 221 sx_c266 := sx_ck_ok (z := sx_z266) h sx_k266 (fun t ht => match t, ht with
  | _, List.Mem.head _ => sx_k266_0
  | _, List.Mem.tail _ (List.Mem.head _) => sx_k266_1
  | _, List.Mem.tail _ (List.Mem.tail _ (List.Mem.head _)) => sx_k266_2)
theorem sx_w267 (h : sx_TcOK l ρ sx_tc 267) : sx_CtOK l ρ 266 sx_c267 := sx_ck_ok (z := sx_z267) h sx_k267 (fun t ht => match t, ht with
  | _, List.Mem.head _ => sx_k267_0
  | _, List.Mem.tail _ (List.Mem.head _) => sx_k267_1)
theorem sx_w268 (h : sx_TcOK l ρ sx_tc 268) : sx_CtOK l ρ 245 sx_c268 := sx_ck_ok (z := sx_z268) h sx_k268 (fun t ht => match t, ht with
  | _, List.Mem.head _ => sx_k268_0)
theorem sx_w269 (h : sx_TcOK l ρ sx_tc 269) : sx_CtOK l ρ 269 sx_c269 := sx_ck_ok (z := sx_z269) h sx_k269 (fun t ht => match t, ht with
  | _, List.Mem.head _ => sx_k269_0
  | _, List.Mem.tail _ (List.Mem.head _) => sx_k269_1
  | _, List.Mem.tail _ (List.Mem.tail _ (List.Mem.head _)) => sx_k269_2
  | _, List.Mem.tail _ (List.Mem.tail _ (List.Mem.tail _ (List.Mem.head _))) => sx_k269_3)
theorem sx_w270 (h : sx_TcOK l ρ sx_tc 270) : sx_CtOK l ρ 269 sx_c270 := sx_ck_ok (z := sx_z270) h sx_k270 (fun t ht => match t, ht with
  | _, List.Mem.head _ => sx_k270_0
  | _, List.Mem.tail _ (List.Mem.head _) => sx_k270_1
  | _, List.Mem.tail _ (List.Mem.tail _ (List.Mem.head _)) => sx_k270_2
  | _, List.Mem.tail _ (List.Mem.tail _ (List.Mem.tail _ (List.Mem.head _))) => sx_k270_3)
theorem sx_w271 (h : sx_TcOK l ρ sx_tc 271) : sx_CtOK l ρ 269 sx_c271 := sx_ck_ok (z := sx_z271) h sx_k271 (fun t ht => match t, ht with
  | _, List.Mem.head _ => sx_k271_0
  | _, List.Mem.tail _ (List.Mem.head _) => sx_k271_1
  | _, List.Mem.tail _ (List.Mem.tail _ (List.Mem.head _)) => sx_k271_2
  | _, List.Mem.tail _ (List.Mem.tail _ (List.Mem.tail _ (List.Mem.head _))) => sx_k271_3)
theorem sx_w272 (h : sx_TcOK l ρ sx_tc 272) : sx_CtOK l ρ 269 sx_c272 := sx_ck_ok (z := sx_z272) h sx_k272 (fun t ht => match t, ht with
  | _, List.Mem.head _ => sx_k272_0
  | _, List.Mem.tail _ (List.Mem.head _) => sx_k272_1
  | _, List.Mem.tail _ (List.Mem.tail _ (List.Mem.head _)) => sx_k272_2
  | _, List.Mem.tail _ (List.Mem.tail _ (List.Mem.tail _ (List.Mem.head _))) => sx_k272_3)
theorem sx_w273 (h : sx_TcOK l ρ sx_tc 273) : sx_CtOK l ρ 205 sx_c273 := sx_ck_ok (z := sx_z273) h sx_k273 (fun t ht => match t, ht with
  | _, List.Mem.head _ => sx_k273_0
  | _, List.Mem.tail _ (List.Mem.head _) => sx_k273_1)
theorem sx_w274 (h : sx_TcOK l ρ sx_tc 274) : sx_CtOK l ρ 269 sx_c274 := sx_ck_ok (z := sx_z274) h sx_k274 (fun t ht => match t, ht with
  | _, List.Mem.head _ => sx_k274_0)
theorem sx_w275 (h : sx_TcOK l ρ sx_tc 275) : sx_CtOK l ρ 277 sx_c275 := sx_ck_ok (z := sx_z275) h sx_k275 (fun t ht => match t, ht with
  | _, List.Mem.head _ => sx_k275_0
  | _, List.Mem.tail _ (List.Mem.head _) => sx_k275_1
  | _, List.Mem.tail _ (List.Mem.tail _ (List.Mem.head _)) => sx_k275_2
  | _, List.Mem.tail _ (List.Mem.tail _ (List.Mem.tail _ (List.Mem.head _))) => sx_k275_3)
theorem sx_w276 (h : sx_TcOK l ρ sx_tc 276) : sx_CtOK l ρ 269 sx_c276 := sx_ck_ok (z := sx_z276) h sx_k276 (fun t ht => match t, ht with
  | _, List.Mem.head _ => sx_k276_0
  | _, List.Mem.tail _ (List.Mem.head _) => sx_k276_1)
theorem sx_w277 (h : sx_TcOK l ρ sx_tc 277) : sx_CtOK l ρ 195 sx_c277 := sx_ck_ok (z := sx_z277) h sx_k277 (fun t ht => match t, ht with
  | _, List.Mem.head _ => sx_k277_0)
theorem sx_w278 (h : sx_TcOK l ρ sx_tc 278) : sx_CtOK l ρ 197 sx_c278 := sx_ck_ok (z := sx_z278) h sx_k278 (fun t ht => match t, ht with
  | _, List.Mem.head _ => sx_k278_0)
theorem sx_w279 (h : sx_TcOK l ρ sx_tc 279) : sx_CtOK l ρ 292 sx_c279 := sx_ck_ok (z := sx_z279) h sx_k279 (fun t ht => (by cases ht))
theorem sx_w280 (h : sx_TcOK l ρ sx_tc 280) : sx_CtOK l ρ 253 sx_c280 := sx_ck_ok (z := sx_z280) h sx_k280 (fun t ht => match t, ht with
  | _, List.Mem.head _ => sx_k280_0
  | _, List.Mem.tail _ (List.Mem.head _) => sx_k280_1)
theorem sx_w281 (h : sx_TcOK l ρ sx_tc 281) : sx_CtOK l ρ 292 sx_c281 := sx_ck_ok (z := sx_z281) h sx_k281 (fun t ht => match t, ht with
  | _, List.Mem.head _ => sx_k281_0)
theorem sx_w282 (h : sx_TcOK l ρ sx_tc 282) : sx_CtOK l ρ 201 sx_c282 := sx_ck_ok (z := sx_z282) h sx_k282 (fun t ht => (by cases ht))
theorem sx_w283 (h : sx_TcOK l ρ sx_tc 283) : sx_CtOK l ρ 204 sx_c283 := sx_ck_ok (z := sx_z283) h sx_k283 (fun t ht => match t, ht with
  | _, List.Mem.head _ => sx_k283_0
  | _, List.Mem.tail _ (List.Mem.head _) => sx_k283_1)
theorem sx_w284 (h : sx_TcOK l ρ sx_tc 284) : sx_CtOK l ρ 241 sx_c284 := sx_ck_ok (z := sx_z284) h sx_k284 (fun t ht => match t, ht with
  | _, List.Mem.head _ => sx_k284_0)
theorem sx_w285 (h : sx_TcOK l ρ sx_tc 285) : sx_CtOK l ρ 282 sx_c285 := sx_ck_ok (z := sx_z285) h sx_k285 (fun t ht => match t, ht with
  | _, List.Mem.head _ => sx_k285_0)
theorem sx_w286 (h : sx_TcOK l ρ sx_tc 286) : sx_CtOK l ρ 222 sx_c286 := sx_ck_ok (z := sx_z286) h sx_k286 (fun t ht => match t, ht with
  | _, List.Mem.head _ => sx_k286_0)
theorem sx_w287 (h : sx_TcOK l ρ sx_tc 287) : sx_CtOK l ρ 206 sx_c287 := sx_ck_ok (z := sx_z287) h sx_k287 (fun t ht => (by cases ht))
theorem sx_w288 (h : sx_TcOK l ρ sx_tc 288) : sx_CtOK l ρ 209 sx_c288 := sx_ck_ok (z := sx_z288) h sx_k288 (fun t ht => match t, ht with
  | _, List.Mem.head _ => sx_k288_0
  | _, List.Mem.tail _ (List.Mem.head _) => sx_k288_1)
theorem sx_w289 (h : sx_TcOK l ρ sx_tc 289) : sx_CtOK l ρ 209 sx_c289 := sx_ck_ok (z := sx_z289) h sx_k289 (fun t ht => match t, ht with
  | _, List.Mem.head _ => sx_k289_0
  | _, List.Mem.tail _ (List.Mem.head _) => sx_k289_1)
theorem sx_w290 (h : sx_TcOK l ρ sx_tc 290) : sx_CtOK l ρ 209 sx_c290 := sx_ck_ok (z := sx_z290) h sx_k290 (fun t ht => match t, ht with
  | _, List.Mem.head _ => sx_k290_0
  | _, List.Mem.tail _ (List.Mem.head _) => sx_k290_1)
theorem sx_w291 (h : sx_TcOK l ρ sx_tc 291) : sx_CtOK l ρ 209 sx_c291 := sx_ck_ok (z := sx_z291) h sx_k291 (fun t ht => match t, ht with
  | _, List.Mem.head _ => sx_k291_0
  | _, List.Mem.tail _ (List.Mem.head _) => sx_k291_1)
theorem sx_w292 (h : sx_TcOK l ρ sx_tc 292) : sx_CtOK l ρ 209 sx_c292 := sx_ck_ok (z := sx_z292) h sx_k292 (fun t ht => match t, ht with
  | _, List.Mem.head _ => sx_k292_0
  | _, List.Mem.tail _ (List.Mem.head _) => sx_k292_1)
theorem sx_w293 (h : sx_TcOK l ρ sx_tc 293) : sx_CtOK l ρ 209 sx_c293 := sx_ck_ok (z := sx_z293) h sx_k293 (fun t ht => (by cases ht))
theorem sx_w294 (h : sx_TcOK l ρ sx_tc 294) : sx_CtOK l ρ 212 sx_c294 := sx_ck_ok (z := sx_z294) h sx_k294 (fun t ht => (by cases ht))
theorem sx_w295 (h : sx_TcOK l ρ sx_tc 295) : sx_CtOK l ρ 213 sx_c295 := sx_ck_ok (z := sx_z295) h sx_k295 (fun t ht => (by cases ht))
theorem sx_w296 (h : sx_TcOK l ρ sx_tc 296) : sx_CtOK l ρ 215 sx_c296 := sx_ck_ok (z := sx_z296) h sx_k296 (fun t ht => (by cases ht))
theorem sx_w297 (h : sx_TcOK l ρ sx_tc 297) : sx_CtOK l ρ 217 sx_c297 := sx_ck_ok (z := sx_z297) h sx_k297 (fun t ht => (by cases ht))
theorem sx_w298 (h : sx_TcOK l ρ sx_tc 298) : sx_CtOK l ρ 220 sx_c298 := sx_ck_ok (z := sx_z298) h sx_k298 (fun t ht => match t, ht with
  | _, List.Mem.head _ => sx_k298_0
  | _, List.Mem.tail _ (List.Mem.head _) => sx_k298_1
  | _, List.Mem.tail _ (List.Mem.tail _ (List.Mem.head _)) => sx_k298_2
  | _, List.Mem.tail _ (List.Mem.tail _ (List.Mem.tail _ (List.Mem.head _))) => sx_k298_3)
theorem sx_w299 (h : sx_TcOK l ρ sx_tc 299) : sx_CtOK l ρ 223 sx_c299 := sx_ck_ok (z := sx_z299) h sx_k299 (fun t ht => (by cases ht))
theorem sx_w300 (h : sx_TcOK l ρ sx_tc 300) : sx_CtOK l ρ 224 sx_c300 := sx_ck_ok (z := sx_z300) h sx_k300 (fun t ht => match t, ht with
  | _, List.Mem.head _ => sx_k300_0
  | _, List.Mem.tail _ (List.Mem.head _) => sx_k300_1
  | _, List.Mem.tail _ (List.Mem.tail _ (List.Mem.head _)) => sx_k300_2
  | _, List.Mem.tail _ (List.Mem.tail _ (List.Mem.tail _ (List.Mem.head _))) => sx_k300_3
  | _, List.Mem.tail _ (List.Mem.tail _ (List.Mem.tail _ (List.Mem.tail _ (List.Mem.head _)))) => sx_k300_4
  | _, List.Mem.tail _ (List.Mem.tail _ (List.Mem.tail _ (List.Mem.tail _ (List.Mem.tail _ (List.Mem.head _))))) => sx_k300_5
  | _, List.Mem.tail _ (List.Mem.tail _ (List.Mem.tail _ (List.Mem.tail _ (List.Mem.tail _ (List.Mem.tail _ (List.Mem.head _)))))) => sx_k300_6
  | _, List.Mem.tail _ (List.Mem.tail _ (List.Mem.tail _ (List.Mem.tail _ (List.Mem.tail _ (List.Mem.tail _ (List.Mem.tail _ (List.Mem.head _))))))) => sx_k300_7
  | _, List.Mem.tail _ (List.Mem.tail _ (List.Mem.tail _ (List.Mem.tail _ (List.Mem.tail _ (List.Mem.tail _ (List.Mem.tail _ (List.Mem.tail _ (List.Mem.head _)))))))) => sx_k300_8
  | _, List.Mem.tail _ (List.Mem.tail _ (List.Mem.tail _ (List.Mem.tail _ (List.Mem.tail _ (List.Mem.tail _ (List.Mem.tail _ (List.Mem.tail _ (List.Mem.tail _ (List.Mem.head _))))))))) => sx_k300_9
  | _, List.Mem.tail _ (List.Mem.tail _ (List.Mem.tail _ (List.Mem.tail _ (List.Mem.tail _ (List.Mem.tail _ (List.Mem.tail _ (List.Mem.tail _ (List.Mem.tail _ (List.Mem.tail _ (List.Mem.head _)))))))))) => sx_k300_10
  | _, List.Mem.tail _ (List.Mem.tail _ (List.Mem.tail _ (List.Mem.tail _ (List.Mem.tail _ (List.Mem.tail _ (List.Mem.tail _ (List.Mem.tail _ (List.Mem.tail _ (List.Mem.tail _ (List.Mem.tail _ (List.Mem.head _))))))))))) => sx_k300_11
  | _, List.Mem.tail _ (List.Mem.tail _ (List.Mem.tail _ (List.Mem.tail _ (List.Mem.tail _ (List.Mem.tail _ (List.Mem.tail _ (List.Mem.tail _ (List.Mem.tail _ (List.Mem.tail _ (List.Mem.tail _ (List.Mem.tail _ (List.Mem.head _)))))))))))) => sx_k300_12
  | _, List.Mem.tail _ (List.Mem.tail _ (List.Mem.tail _ (List.Mem.tail _ (List.Mem.tail _ (List.Mem.tail _ (List.Mem.tail _ (List.Mem.tail _ (List.Mem.tail _ (List.Mem.tail _ (List.Mem.tail _ (List.Mem.tail _ (List.Mem.tail _ (List.Mem.head _))))))))))))) => sx_k300_13
  | _, List.Mem.tail _ (List.Mem.tail _ (List.Mem.tail _ (List.Mem.tail _ (List.Mem.tail _ (List.Mem.tail _ (List.Mem.tail _ (List.Mem.tail _ (List.Mem.tail _ (List.Mem.tail _ (List.Mem.tail _ (List.Mem.tail _ (List.Mem.tail _ (List.Mem.tail _ (List.Mem.head _)))))))))))))) => sx_k300_14
  | _, List.Mem.tail _ (List.Mem.tail _ (List.Mem.tail _ (List.Mem.tail _ (List.Mem.tail _ (List.Mem.tail _ (List.Mem.tail _ (List.Mem.tail _ (List.Mem.tail _ (List.Mem.tail _ (List.Mem.tail _ (List.Mem.tail _ (List.Mem.tail _ (List.Mem.tail _ (List.Mem.tail _ (List.Mem.head _))))))))))))))) => sx_k300_15
  | _, List.Mem.tail _ (List.Mem.tail _ (List.Mem.tail _ (List.Mem.tail _ (List.Mem.tail _ (List.Mem.tail _ (List.Mem.tail _ (List.Mem.tail _ (List.Mem.tail _ (List.Mem.tail _ (List.Mem.tail _ (List.Mem.tail _ (List.Mem.tail _ (List.Mem.tail _ (List.Mem.tail _ (List.Mem.tail _ (List.Mem.head _)))))))))))))))) => sx_k300_16
  | _, List.Mem.tail _ (List.Mem.tail _ (List.Mem.tail _ (List.Mem.tail _ (List.Mem.tail _ (List.Mem.tail _ (List.Mem.tail _ (List.Mem.tail _ (List.Mem.tail _ (List.Mem.tail _ (List.Mem.tail _ (List.Mem.tail _ (List.Mem.tail _ (List.Mem.tail _ (List.Mem.tail _ (List.Mem.tail _ (List.Mem.tail _ (List.Mem.head _))))))))))))))))) => sx_k300_17
  | _, List.Mem.tail _ (List.Mem.tail _ (List.Mem.tail _ (List.Mem.tail _ (List.Mem.tail _ (List.Mem.tail _ (List.Mem.tail _ (List.Mem.tail _ (List.Mem.tail _ (List.Mem.tail _ (List.Mem.tail _ (List.Mem.tail _ (List.Mem.tail _ (List.Mem.tail _ (List.Mem.tail _ (List.Mem.tail _ (List.Mem.tail _ (List.Mem.tail _ (List.Mem.head _)))))))))))))))))) => sx_k300_18
  | _, List.Mem.tail _ (List.Mem.tail _ (List.Mem.tail _ (List.Mem.tail _ (List.Mem.tail _ (List.Mem.tail _ (List.Mem.tail _ (List.Mem.tail _ (List.Mem.tail _ (List.Mem.tail _ (List.Mem.tail _ (List.Mem.tail _ (List.Mem.tail _ (List.Mem.tail _ (List.Mem.tail _ (List.Mem.tail _ (List.Mem.tail _ (List.Mem.tail _ (List.Mem.tail _ (List.Mem.head _))))))))))))))))))) => sx_k300_19)
theorem sx_w301 (h : sx_TcOK l ρ sx_tc 301) : sx_CtOK l ρ 234 sx_c301 := sx_ck_ok (z := sx_z301) h sx_k301 (fun t ht => match t, ht with
  | _, List.Mem.head _ => sx_k301_0
  | _, List.Mem.tail _ (List.Mem.head _) => sx_k301_1
  | _, List.Mem.tail _ (List.Mem.tail _ (List.Mem.head _)) => sx_k301_2)
theorem sx_w302 (h : sx_TcOK l ρ sx_tc 302) : sx_CtOK l ρ 240 sx_c302 := sx_ck_ok (z := sx_z302) h sx_k302 (fun t ht => match t, ht with
  | _, List.Mem.head _ => sx_k302_0
  | _, List.Mem.tail _ (List.Mem.head _) => sx_k302_1)
theorem sx_w303 (h : sx_TcOK l ρ sx_tc 303) : sx_CtOK l ρ 240 sx_c303 := sx_ck_ok (z := sx_z303) h sx_k303 (fun t ht => match t, ht with
  | _, List.Mem.head _ => sx_k303_0
  | _, List.Mem.tail _ (List.Mem.head _) => sx_k303_1)
theorem sx_w304 (h : sx_TcOK l ρ sx_tc 304) : sx_CtOK l ρ 240 sx_c304 := sx_ck_ok (z := sx_z304) h sx_k304 (fun t ht => match t, ht with
  | _, List.Mem.head _ => sx_k304_0
  | _, List.Mem.tail _ (List.Mem.head _) => sx_k304_1)
theorem sx_w305 (h : sx_TcOK l ρ sx_tc 305) : sx_CtOK l ρ 240 sx_c305 := sx_ck_ok (z := sx_z305) h sx_k305 (fun t ht => match t, ht with
  | _, List.Mem.head _ => sx_k305_0
  | _, List.Mem.tail _ (List.Mem.head _) => sx_k305_1)
theorem sx_w306 (h : sx_TcOK l ρ sx_tc 306) : sx_CtOK l ρ 240 sx_c306 := sx_ck_ok (z := sx_z306) h sx_k306 (fun t ht => match t, ht with
  | _, List.Mem.head _ => sx_k306_0
  | _, List.Mem.tail _ (List.Mem.head _) => sx_k306_1)
theorem sx_w307 (h : sx_TcOK l ρ sx_tc 307) : sx_CtOK l ρ 240 sx_c307 := sx_ck_ok (z := sx_z307) h sx_k307 (fun t ht => match t, ht with
  | _, List.Mem.head _ => sx_k307_0
  | _, List.Mem.tail _ (List.Mem.head _) => sx_k307_1)
theorem sx_w308 (h : sx_TcOK l ρ sx_tc 308) : sx_CtOK l ρ 272 sx_c308 := sx_ck_ok (z := sx_z308) h sx_k308 (fun t ht => match t, ht with
  | _, List.Mem.head _ => sx_k308_0)
theorem sx_w309 (h : sx_TcOK l ρ sx_tc 309) : sx_CtOK l ρ 242 sx_c309 := sx_ck_ok (z := sx_z309) h sx_k309 (fun t ht => match t, ht with
  | _, List.Mem.head _ => sx_k309_0
  | _, List.Mem.tail _ (List.Mem.head _) => sx_k309_1)
theorem sx_w310 (h : sx_TcOK l ρ sx_tc 310) : sx_CtOK l ρ 243 sx_c310 := sx_ck_ok (z := sx_z310) h sx_k310 (fun t ht => (by cases ht))
theorem sx_w311 (h : sx_TcOK l ρ sx_tc 311) : sx_CtOK l ρ 288 sx_c311 := sx_ck_ok (z := sx_z311) h sx_k311 (fun t ht => match t, ht with
  | _, List.Mem.head _ => sx_k311_0
  | _, List.Mem.tail _ (List.Mem.head _) => sx_k311_1)
theorem sx_w312 (h : sx_TcOK l ρ sx_tc 312) : sx_CtOK l ρ 244 sx_c312 := sx_ck_ok (z := sx_z312) h sx_k312 (fun t ht => match t, ht with
  | _, List.Mem.head _ => sx_k312_0
  | _, List.Mem.tail _ (List.Mem.head _) => sx_k312_1)
theorem sx_w313 (h : sx_TcOK l ρ sx_tc 313) : sx_CtOK l ρ 246 sx_c313 := sx_ck_ok (z := sx_z313) h sx_k313 (fun t ht => (by cases ht))
theorem sx_w314 (h : sx_TcOK l ρ sx_tc 314) : sx_CtOK l ρ 250 sx_c314 := sx_ck_ok (z := sx_z314) h sx_k314 (fun t ht => match t, ht with
  | _, List.Mem.head _ => sx_k314_0)
theorem sx_w315 (h : sx_TcOK l ρ sx_tc 315) : sx_CtOK l ρ 248 sx_c315 := sx_ck_ok (z := sx_z315) h sx_k315 (fun t ht => (by cases ht))
theorem sx_w316 (h : sx_TcOK l ρ sx_tc 316) : sx_CtOK l ρ 249 sx_c316 := sx_ck_ok (z := sx_z316) h sx_k316 (fun t ht => (by cases ht))
theorem sx_w317 (h : sx_TcOK l ρ sx_tc 317) : sx_CtOK l ρ 251 sx_c317 := sx_ck_ok (z := sx_z317) h sx_k317 (fun t ht => match t, ht with
  | _, List.Mem.head _ => sx_k317_0
  | _, List.Mem.tail _ (List.Mem.head _) => sx_k317_1
  | _, List.Mem.tail _ (List.Mem.tail _ (List.Mem.head _)) => sx_k317_2
  | _, List.Mem.tail _ (List.Mem.tail _ (List.Mem.tail _ (List.Mem.head _))) => sx_k317_3
  | _, List.Mem.tail _ (List.Mem.tail _ (List.Mem.tail _ (List.Mem.tail _ (List.Mem.head _)))) => sx_k317_4)
theorem sx_w318 (h : sx_TcOK l ρ sx_tc 318) : sx_CtOK l ρ 251 sx_c318 := sx_ck_ok (z := sx_z318) h sx_k318 (fun t ht => match t, ht with
  | _, List.Mem.head _ => sx_k318_0
  | _, List.Mem.tail _ (List.Mem.head _) => sx_k318_1
  | _, List.Mem.tail _ (List.Mem.tail _ (List.Mem.head _)) => sx_k318_2
  | _, List.Mem.tail _ (List.Mem.tail _ (List.Mem.tail _ (List.Mem.head _))) => sx_k318_3
  | _, List.Mem.tail _ (List.Mem.tail _ (List.Mem.tail _ (List.Mem.tail _ (List.Mem.head _)))) => sx_k318_4)
theorem sx_w319 (h : sx_TcOK l ρ sx_tc 319) : sx_CtOK l ρ 251 sx_c319 := sx_ck_ok (z := sx_z319) h sx_k319 (fun t ht => match t, ht with
  | _, List.Mem.head _ => sx_k319_0
  | _, List.Mem.tail _ (List.Mem.head _) => sx_k319_1
  | _, List.Mem.tail _ (List.Mem.tail _ (List.Mem.head _)) => sx_k319_2
  | _, List.Mem.tail _ (List.Mem.tail _ (List.Mem.tail _ (List.Mem.head _))) => sx_k319_3
  | _, List.Mem.tail _ (List.Mem.tail _ (List.Mem.tail _ (List.Mem.tail _ (List.Mem.head _)))) => sx_k319_4)
theorem sx_w320 (h : sx_TcOK l ρ sx_tc 320) : sx_CtOK l ρ 262 sx_c320 := sx_ck_ok (z := sx_z320) h sx_k320 (fun t ht => match t, ht with
  | _, List.Mem.head _ => sx_k320_0)
theorem sx_w321 (h : sx_TcOK l ρ sx_tc 321) : sx_CtOK l ρ 262 sx_c321 := sx_ck_ok (z := sx_z321) h sx_k321 (fun t ht => match t, ht with
  | _, List.Mem.head _ => sx_k321_0
  | _, List.Mem.tail _ (List.Mem.head _) => sx_k321_1
  | _, List.Mem.tail _ (List.Mem.tail _ (List.Mem.head _)) => sx_k321_2
  | _, List.Mem.tail _ (List.Mem.tail _ (List.Mem.tail _ (List.Mem.head _))) => sx_k321_3
  | _, List.Mem.tail _ (List.Mem.tail _ (List.Mem.tail _ (List.Mem.tail _ (List.Mem.head _)))) => sx_k321_4
  | _, List.Mem.tail _ (List.Mem.tail _ (List.Mem.tail _ (List.Mem.tail _ (List.Mem.tail _ (List.Mem.head _))))) => sx_k321_5
  | _, List.Mem.tail _ (List.Mem.tail _ (List.Mem.tail _ (List.Mem.tail _ (List.Mem.tail _ (List.Mem.tail _ (List.Mem.head _)))))) => sx_k321_6
  | _, List.Mem.tail _ (List.Mem.tail _ (List.Mem.tail _ (List.Mem.tail _ (List.Mem.tail _ (List.Mem.tail _ (List.Mem.tail _ (List.Mem.head _))))))) => sx_k321_7
  | _, List.Mem.tail _ (List.Mem.tail _ (List.Mem.tail _ (List.Mem.tail _ (List.Mem.tail _ (List.Mem.tail _ (List.Mem.tail _ (List.Mem.tail _ (List.Mem.head _)))))))) => sx_k321_8
  | _, List.Mem.tail _ (List.Mem.tail _ (List.Mem.tail _ (List.Mem.tail _ (List.Mem.tail _ (List.Mem.tail _ (List.Mem.tail _ (List.Mem.tail _ (List.Mem.tail _ (List.Mem.head _))))))))) => sx_k321_9
  | _, List.Mem.tail _ (List.Mem.tail _ (List.Mem.tail _ (List.Mem.tail _ (List.Mem.tail _ (List.Mem.tail _ (List.Mem.tail _ (List.Mem.tail _ (List.Mem.tail _ (List.Mem.tail _ (List.Mem.head _)))))))))) => sx_k321_10
  | _, List.Mem.tail _ (List.Mem.tail _ (List.Mem.tail _ (List.Mem.tail _ (List.Mem.tail _ (List.Mem.tail _ (List.Mem.tail _ (List.Mem.tail _ (List.Mem.tail _ (List.Mem.tail _ (List.Mem.tail _ (List.Mem.head _))))))))))) => sx_k321_11
  | _, List.Mem.tail _ (List.Mem.tail _ (List.Mem.tail _ (List.Mem.tail _ (List.Mem.tail _ (List.Mem.tail _ (List.Mem.tail _ (List.Mem.tail _ (List.Mem.tail _ (List.Mem.tail _ (List.Mem.tail _ (List.Mem.tail _ (List.Mem.head _)))))))))))) => sx_k321_12
  | _, List.Mem.tail _ (List.Mem.tail _ (List.Mem.tail _ (List.Mem.tail _ (List.Mem.tail _ (List.Mem.tail _ (List.Mem.tail _ (List.Mem.tail _ (List.Mem.tail _ (List.Mem.tail _ (List.Mem.tail _ (List.Mem.tail _ (List.Mem.tail _ (List.Mem.head _))))))))))))) => sx_k321_13
  | _, List.Mem.tail _ (List.Mem.tail _ (List.Mem.tail _ (List.Mem.tail _ (List.Mem.tail _ (List.Mem.tail _ (List.Mem.tail _ (List.Mem.tail _ (List.Mem.tail _ (List.Mem.tail _ (List.Mem.tail _ (List.Mem.tail _ (List.Mem.tail _ (List.Mem.tail _ (List.Mem.head _)))))))))))))) => sx_k321_14
  | _, List.Mem.tail _ (List.Mem.tail _ (List.Mem.tail _ (List.Mem.tail _ (List.Mem.tail _ (List.Mem.tail _ (List.Mem.tail _ (List.Mem.tail _ (List.Mem.tail _ (List.Mem.tail _ (List.Mem.tail _ (List.Mem.tail _ (List.Mem.tail _ (List.Mem.tail _ (List.Mem.tail _ (List.Mem.head _))))))))))))))) => sx_k321_15
  | _, List.Mem.tail _ (List.Mem.tail _ (List.Mem.tail _ (List.Mem.tail _ (List.Mem.tail _ (List.Mem.tail _ (List.Mem.tail _ (List.Mem.tail _ (List.Mem.tail _ (List.Mem.tail _ (List.Mem.tail _ (List.Mem.tail _ (List.Mem.tail _ (List.Mem.tail _ (List.Mem.tail _ (List.Mem.tail _ (List.Mem.head _)))))))))))))))) => sx_k321_16
  | _, List.Mem.tail _ (List.Mem.tail _ (List.Mem.tail _ (List.Mem.tail _ (List.Mem.tail _ (List.Mem.tail _ (List.Mem.tail _ (List.Mem.tail _ (List.Mem.tail _ (List.Mem.tail _ (List.Mem.tail _ (List.Mem.tail _ (List.Mem.tail _ (List.Mem.tail _ (List.Mem.tail _ (List.Mem.tail _ (List.Mem.tail _ (List.Mem.head _))))))))))))))))) => sx_k321_17
  | _, List.Mem.tail _ (List.Mem.tail _ (List.Mem.tail _ (List.Mem.tail _ (List.Mem.tail _ (List.Mem.tail _ (List.Mem.tail _ (List.Mem.tail _ (List.Mem.tail _ (List.Mem.tail _ (List.Mem.tail _ (List.Mem.tail _ (List.Mem.tail _ (List.Mem.tail _ (List.Mem.tail _ (List.Mem.tail _ (List.Mem.tail _ (List.Mem.tail _ (List.Mem.head _)))))))))))))))))) => sx_k321_18
  | _, List.Mem.tail _ (List.Mem.tail _ (List.Mem.tail _ (List.Mem.tail _ (List.Mem.tail _ (List.Mem.tail _ (List.Mem.tail _ (List.Mem.tail _ (List.Mem.tail _ (List.Mem.tail _ (List.Mem.tail _ (List.Mem.tail _ (List.Mem.tail _ (List.Mem.tail _ (List.Mem.tail _ (List.Mem.tail _ (List.Mem.tail _ (List.Mem.tail _ (List.Mem.tail _ (List.Mem.head _))))))))))))))))))) => sx_k321_19
  | _, List.Mem.tail _ (List.Mem.tail _ (List.Mem.tail _ (List.Mem.tail _ (List.Mem.tail _ (List.Mem.tail _ (List.Mem.tail _ (List.Mem.tail _ (List.Mem.tail _ (List.Mem.tail _ (List.Mem.tail _ (List.Mem.tail _ (List.Mem.tail _ (List.Mem.tail _ (List.Mem.tail _ (List.Mem.tail _ (List.Mem.tail _ (List.Mem.tail _ (List.Mem.tail _ (List.Mem.tail _ (List.Mem.head _)))))))))))))))))))) => sx_k321_20
  | _, List.Mem.tail _ (List.Mem.tail _ (List.Mem.tail _ (List.Mem.tail _ (List.Mem.tail _ (List.Mem.tail _ (List.Mem.tail _ (List.Mem.tail _ (List.Mem.tail _ (List.Mem.tail _ (List.Mem.tail _ (List.Mem.tail _ (List.Mem.tail _ (List.Mem.tail _ (List.Mem.tail _ (List.Mem.tail _ (List.Mem.tail _ (List.Mem.tail _ (List.Mem.tail _ (List.Mem.tail _ (List.Mem.tail _ (List.Mem.head _))))))))))))))))))))) => sx_k321_21
  | _, List.Mem.tail _ (List.Mem.tail _ (List.Mem.tail _ (List.Mem.tail _ (List.Mem.tail _ (List.Mem.tail _ (List.Mem.tail _ (List.Mem.tail _ (List.Mem.tail _ (List.Mem.tail _ (List.Mem.tail _ (List.Mem.tail _ (List.Mem.tail _ (List.Mem.tail _ (List.Mem.tail _ (List.Mem.tail _ (List.Mem.tail _ (List.Mem.tail _ (List.Mem.tail _ (List.Mem.tail _ (List.Mem.tail _ (List.Mem.tail _ (List.Mem.head _)))))))))))))))))))))) => sx_k321_22
  | _, List.Mem.tail _ (List.Mem.tail _ (List.Mem.tail _ (List.Mem.tail _ (List.Mem.tail _ (List.Mem.tail _ (List.Mem.tail _ (List.Mem.tail _ (List.Mem.tail _ (List.Mem.tail _ (List.Mem.tail _ (List.Mem.tail _ (List.Mem.tail _ (List.Mem.tail _ (List.Mem.tail _ (List.Mem.tail _ (List.Mem.tail _ (List.Mem.tail _ (List.Mem.tail _ (List.Mem.tail _ (List.Mem.tail _ (List.Mem.tail _ (List.Mem.tail _ (List.Mem.head _))))))))))))))))))))))) => sx_k321_23
  | _, List.Mem.tail _ (List.Mem.tail _ (List.Mem.tail _ (List.Mem.tail _ (List.Mem.tail _ (List.Mem.tail _ (List.Mem.tail _ (List.Mem.tail _ (List.Mem.tail _ (List.Mem.tail _ (List.Mem.tail _ (List.Mem.tail _ (List.Mem.tail _ (List.Mem.tail _ (List.Mem.tail _ (List.Mem.tail _ (List.Mem.tail _ (List.Mem.tail _ (List.Mem.tail _ (List.Mem.tail _ (List.Mem.tail _ (List.Mem.tail _ (List.Mem.tail _ (List.Mem.tail _ (List.Mem.head _)))))))))))))))))))))))) => sx_k321_24
  | _, List.Mem.tail _ (List.Mem.tail _ (List.Mem.tail _ (List.Mem.tail _ (List.Mem.tail _ (List.Mem.tail _ (List.Mem.tail _ (List.Mem.tail _ (List.Mem.tail _ (List.Mem.tail _ (List.Mem.tail _ (List.Mem.tail _ (List.Mem.tail _ (List.Mem.tail _ (List.Mem.tail _ (List.Mem.tail _ (List.Mem.tail _ (List.Mem.tail _ (List.Mem.tail _ (List.Mem.tail _ (List.Mem.tail _ (List.Mem.tail _ (List.Mem.tail _ (List.Mem.tail _ (List.Mem.tail _ (List.Mem.head _))))))))))))))))))))))))) => sx_k321_25
  | _, List.Mem.tail _ (List.Mem.tail _ (List.Mem.tail _ (List.Mem.tail _ (List.Mem.tail _ (List.Mem.tail _ (List.Mem.tail _ (List.Mem.tail _ (List.Mem.tail _ (List.Mem.tail _ (List.Mem.tail _ (List.Mem.tail _ (List.Mem.tail _ (List.Mem.tail _ (List.Mem.tail _ (List.Mem.tail _ (List.Mem.tail _ (List.Mem.tail _ (List.Mem.tail _ (List.Mem.tail _ (List.Mem.tail _ (List.Mem.tail _ (List.Mem.tail _ (List.Mem.tail _ (List.Mem.tail _ (List.Mem.tail _ (List.Mem.head _)))))))))))))))))))))))))) => sx_k321_26
  | _, List.Mem.tail _ (List.Mem.tail _ (List.Mem.tail _ (List.Mem.tail _ (List.Mem.tail _ (List.Mem.tail _ (List.Mem.tail _ (List.Mem.tail _ (List.Mem.tail _ (List.Mem.tail _ (List.Mem.tail _ (List.Mem.tail _ (List.Mem.tail _ (List.Mem.tail _ (List.Mem.tail _ (List.Mem.tail _ (List.Mem.tail _ (List.Mem.tail _ (List.Mem.tail _ (List.Mem.tail _ (List.Mem.tail _ (List.Mem.tail _ (List.Mem.tail _ (List.Mem.tail _ (List.Mem.tail _ (List.Mem.tail _ (List.Mem.tail _ (List.Mem.head _))))))))))))))))))))))))))) => sx_k321_27
  | _, List.Mem.tail _ (List.Mem.tail _ (List.Mem.tail _ (List.Mem.tail _ (List.Mem.tail _ (List.Mem.tail _ (List.Mem.tail _ (List.Mem.tail _ (List.Mem.tail _ (List.Mem.tail _ (List.Mem.tail _ (List.Mem.tail _ (List.Mem.tail _ (List.Mem.tail _ (List.Mem.tail _ (List.Mem.tail _ (List.Mem.tail _ (List.Mem.tail _ (List.Mem.tail _ (List.Mem.tail _ (List.Mem.tail _ (List.Mem.tail _ (List.Mem.tail _ (List.Mem.tail _ (List.Mem.tail _ (List.Mem.tail _ (List.Mem.tail _ (List.Mem.tail _ (List.Mem.head _)))))))))))))))))))))))))))) => sx_k321_28
  | _, List.Mem.tail _ (List.Mem.tail _ (List.Mem.tail _ (List.Mem.tail _ (List.Mem.tail _ (List.Mem.tail _ (List.Mem.tail _ (List.Mem.tail _ (List.Mem.tail _ (List.Mem.tail _ (List.Mem.tail _ (List.Mem.tail _ (List.Mem.tail _ (List.Mem.tail _ (List.Mem.tail _ (List.Mem.tail _ (List.Mem.tail _ (List.Mem.tail _ (List.Mem.tail _ (List.Mem.tail _ (List.Mem.tail _ (List.Mem.tail _ (List.Mem.tail _ (List.Mem.tail _ (List.Mem.tail _ (List.Mem.tail _ (List.Mem.tail _ (List.Mem.tail _ (List.Mem.tail _ (List.Mem.head _))))))))))))))))))))))))))))) => sx_k321_29
  | _, List.Mem.tail _ (List.Mem.tail _ (List.Mem.tail _ (List.Mem.tail _ (List.Mem.tail _ (List.Mem.tail _ (List.Mem.tail _ (List.Mem.tail _ (List.Mem.tail _ (List.Mem.tail _ (List.Mem.tail _ (List.Mem.tail _ (List.Mem.tail _ (List.Mem.tail _ (List.Mem.tail _ (List.Mem.tail _ (List.Mem.tail _ (List.Mem.tail _ (List.Mem.tail _ (List.Mem.tail _ (List.Mem.tail _ (List.Mem.tail _ (List.Mem.tail _ (List.Mem.tail _ (List.Mem.tail _ (List.Mem.tail _ (List.Mem.tail _ (List.Mem.tail _ (List.Mem.tail _ (List.Mem.tail _ (List.Mem.head _)))))))))))))))))))))))))))))) => sx_k321_30
  | _, List.Mem.tail _ (List.Mem.tail _ (List.Mem.tail _ (List.Mem.tail _ (List.Mem.tail _ (List.Mem.tail _ (List.Mem.tail _ (List.Mem.tail _ (List.Mem.tail _ (List.Mem.tail _ (List.Mem.tail _ (List.Mem.tail _ (List.Mem.tail _ (List.Mem.tail _ (List.Mem.tail _ (List.Mem.tail _ (List.Mem.tail _ (List.Mem.tail _ (List.Mem.tail _ (List.Mem.tail _ (List.Mem.tail _ (List.Mem.tail _ (List.Mem.tail _ (List.Mem.tail _ (List.Mem.tail _ (List.Mem.tail _ (List.Mem.tail _ (List.Mem.tail _ (List.Mem.tail _ (List.Mem.tail _ (List.Mem.tail _ (List.Mem.head _))))))))))))))))))))))))))))))) => sx_k321_31
  | _, List.Mem.tail _ (List.Mem.tail _ (List.Mem.tail _ (List.Mem.tail _ (List.Mem.tail _ (List.Mem.tail _ (List.Mem.tail _ (List.Mem.tail _ (List.Mem.tail _ (List.Mem.tail _ (List.Mem.tail _ (List.Mem.tail _ (List.Mem.tail _ (List.Mem.tail _ (List.Mem.tail _ (List.Mem.tail _ (List.Mem.tail _ (List.Mem.tail _ (List.Mem.tail _ (List.Mem.tail _ (List.Mem.tail _ (List.Mem.tail _ (List.Mem.tail _ (List.Mem.tail _ (List.Mem.tail _ (List.Mem.tail _ (List.Mem.tail _ (List.Mem.tail _ (List.Mem.tail _ (List.Mem.tail _ (List.Mem.tail _ (List.Mem.tail _ (List.Mem.head _)))))))))))))))))))))))))))))))) => sx_k321_32
  | _, List.Mem.tail _ (List.Mem.tail _ (List.Mem.tail _ (List.Mem.tail _ (List.Mem.tail _ (List.Mem.tail _ (List.Mem.tail _ (List.Mem.tail _ (List.Mem.tail _ (List.Mem.tail _ (List.Mem.tail _ (List.Mem.tail _ (List.Mem.tail _ (List.Mem.tail _ (List.Mem.tail _ (List.Mem.tail _ (List.Mem.tail _ (List.Mem.tail _ (List.Mem.tail _ (List.Mem.tail _ (List.Mem.tail _ (List.Mem.tail _ (List.Mem.tail _ (List.Mem.tail _ (List.Mem.tail _ (List.Mem.tail _ (List.Mem.tail _ (List.Mem.tail _ (List.Mem.tail _ (List.Mem.tail _ (List.Mem.tail _ (List.Mem.tail _ (List.Mem.tail _ (List.Mem.head _))))))))))))))))))))))))))))))))) => sx_k321_33
  | _, List.Mem.tail _ (List.Mem.tail _ (List.Mem.tail _ (List.Mem.tail _ (List.Mem.tail _ (List.Mem.tail _ (List.Mem.tail _ (List.Mem.tail _ (List.Mem.tail _ (List.Mem.tail _ (List.Mem.tail _ (List.Mem.tail _ (List.Mem.tail _ (List.Mem.tail _ (List.Mem.tail _ (List.Mem.tail _ (List.Mem.tail _ (List.Mem.tail _ (List.Mem.tail _ (List.Mem.tail _ (List.Mem.tail _ (List.Mem.tail _ (List.Mem.tail _ (List.Mem.tail _ (List.Mem.tail _ (List.Mem.tail _ (List.Mem.tail _ (List.Mem.tail _ (List.Mem.tail _ (List.Mem.tail _ (List.Mem.tail _ (List.Mem.tail _ (List.Mem.tail _ (List.Mem.tail _ (List.Mem.head _)))))))))))))))))))))))))))))))))) => sx_k321_34
  | _, List.Mem.tail _ (List.Mem.tail _ (List.Mem.tail _ (List.Mem.tail _ (List.Mem.tail _ (List.Mem.tail _ (List.Mem.tail _ (List.Mem.tail _ (List.Mem.tail _ (List.Mem.tail _ (List.Mem.tail _ (List.Mem.tail _ (List.Mem.tail _ (List.Mem.tail _ (List.Mem.tail _ (List.Mem.tail _ (List.Mem.tail _ (List.Mem.tail _ (List.Mem.tail _ (List.Mem.tail _ (List.Mem.tail _ (List.Mem.tail _ (List.Mem.tail _ (List.Mem.tail _ (List.Mem.tail _ (List.Mem.tail _ (List.Mem.tail _ (List.Mem.tail _ (List.Mem.tail _ (List.Mem.tail _ (List.Mem.tail _ (List.Mem.tail _ (List.Mem.tail _ (List.Mem.tail _ (List.Mem.tail _ (List.Mem.head _))))))))))))))))))))))))))))))))))) => sx_k321_35
  | _, List.Mem.tail _ (List.Mem.tail _ (List.Mem.tail _ (List.Mem.tail _ (List.Mem.tail _ (List.Mem.tail _ (List.Mem.tail _ (List.Mem.tail _ (List.Mem.tail _ (List.Mem.tail _ (List.Mem.tail _ (List.Mem.tail _ (List.Mem.tail _ (List.Mem.tail _ (List.Mem.tail _ (List.Mem.tail _ (List.Mem.tail _ (List.Mem.tail _ (List.Mem.tail _ (List.Mem.tail _ (List.Mem.tail _ (List.Mem.tail _ (List.Mem.tail _ (List.Mem.tail _ (List.Mem.tail _ (List.Mem.tail _ (List.Mem.tail _ (List.Mem.tail _ (List.Mem.tail _ (List.Mem.tail _ (List.Mem.tail _ (List.Mem.tail _ (List.Mem.tail _ (List.Mem.tail _ (List.Mem.tail _ (List.Mem.tail _ (List.Mem.head _)))))))))))))))))))))))))))))))))))) => sx_k321_36
  | _, List.Mem.tail _ (List.Mem.tail _ (List.Mem.tail _ (List.Mem.tail _ (List.Mem.tail _ (List.Mem.tail _ (List.Mem.tail _ (List.Mem.tail _ (List.Mem.tail _ (List.Mem.tail _ (List.Mem.tail _ (List.Mem.tail _ (List.Mem.tail _ (List.Mem.tail _ (List.Mem.tail _ (List.Mem.tail _ (List.Mem.tail _ (List.Mem.tail _ (List.Mem.tail _ (List.Mem.tail _ (List.Mem.tail _ (List.Mem.tail _ (List.Mem.tail _ (List.Mem.tail _ (List.Mem.tail _ (List.Mem.tail _ (List.Mem.tail _ (List.Mem.tail _ (List.Mem.tail _ (List.Mem.tail _ (List.Mem.tail _ (List.Mem.tail _ (List.Mem.tail _ (List.Mem.tail _ (List.Mem.tail _ (List.Mem.tail _ (List.Mem.tail _ (List.Mem.head _))))))))))))))))))))))))))))))))))))) => sx_k321_37
  | _, List.Mem.tail _ (List.Mem.tail _ (List.Mem.tail _ (List.Mem.tail _ (List.Mem.tail _ (List.Mem.tail _ (List.Mem.tail _ (List.Mem.tail _ (List.Mem.tail _ (List.Mem.tail _ (List.Mem.tail _ (List.Mem.tail _ (List.Mem.tail _ (List.Mem.tail _ (List.Mem.tail _ (List.Mem.tail _ (List.Mem.tail _ (List.Mem.tail _ (List.Mem.tail _ (List.Mem.tail _ (List.Mem.tail _ (List.Mem.tail _ (List.Mem.tail _ (List.Mem.tail _ (List.Mem.tail _ (List.Mem.tail _ (List.Mem.tail _ (List.Mem.tail _ (List.Mem.tail _ (List.Mem.tail _ (List.Mem.tail _ (List.Mem.tail _ (List.Mem.tail _ (List.Mem.tail _ (List.Mem.tail _ (List.Mem.tail _ (List.Mem.tail _ (List.Mem.tail _ (List.Mem.head _)))))))))))))))))))))))))))))))))))))) => sx_k321_38
  | _, List.Mem.tail _ (List.Mem.tail _ (List.Mem.tail _ (List.Mem.tail _ (List.Mem.tail _ (List.Mem.tail _ (List.Mem.tail _ (List.Mem.tail _ (List.Mem.tail _ (List.Mem.tail _ (List.Mem.tail _ (List.Mem.tail _ (List.Mem.tail _ (List.Mem.tail _ (List.Mem.tail _ (List.Mem.tail _ (List.Mem.tail _ (List.Mem.tail _ (List.Mem.tail _ (List.Mem.tail _ (List.Mem.tail _ (List.Mem.tail _ (List.Mem.tail _ (List.Mem.tail _ (List.Mem.tail _ (List.Mem.tail _ (List.Mem.tail _ (List.Mem.tail _ (List.Mem.tail _ (List.Mem.tail _ (List.Mem.tail _ (List.Mem.tail _ (List.Mem.tail _ (List.Mem.tail _ (List.Mem.tail _ (List.Mem.tail _ (List.Mem.tail _ (List.Mem.tail _ (List.Mem.tail _ (List.Mem.head _))))))))))))))))))))))))))))))))))))))) => sx_k321_39
  | _, List.Mem.tail _ (List.Mem.tail _ (List.Mem.tail _ (List.Mem.tail _ (List.Mem.tail _ (List.Mem.tail _ (List.Mem.tail _ (List.Mem.tail _ (List.Mem.tail _ (List.Mem.tail _ (List.Mem.tail _ (List.Mem.tail _ (List.Mem.tail _ (List.Mem.tail _ (List.Mem.tail _ (List.Mem.tail _ (List.Mem.tail _ (List.Mem.tail _ (List.Mem.tail _ (List.Mem.tail _ (List.Mem.tail _ (List.Mem.tail _ (List.Mem.tail _ (List.Mem.tail _ (List.Mem.tail _ (List.Mem.tail _ (List.Mem.tail _ (List.Mem.tail _ (List.Mem.tail _ (List.Mem.tail _ (List.Mem.tail _ (List.Mem.tail _ (List.Mem.tail _ (List.Mem.tail _ (List.Mem.tail _ (List.Mem.tail _ (List.Mem.tail _ (List.Mem.tail _ (List.Mem.tail _ (List.Mem.tail _ (List.Mem.head _)))))))))))))))))))))))))))))))))))))))) => sx_k321_40
  | _, List.Mem.tail _ (List.Mem.tail _ (List.Mem.tail _ (List.Mem.tail _ (List.Mem.tail _ (List.Mem.tail _ (List.Mem.tail _ (List.Mem.tail _ (List.Mem.tail _ (List.Mem.tail _ (List.Mem.tail _ (List.Mem.tail _ (List.Mem.tail _ (List.Mem.tail _ (List.Mem.tail _ (List.Mem.tail _ (List.Mem.tail _ (List.Mem.tail _ (List.Mem.tail _ (List.Mem.tail _ (List.Mem.tail _ (List.Mem.tail _ (List.Mem.tail _ (List.Mem.tail _ (List.Mem.tail _ (List.Mem.tail _ (List.Mem.tail _ (List.Mem.tail _ (List.Mem.tail _ (List.Mem.tail _ (List.Mem.tail _ (List.Mem.tail _ (List.Mem.tail _ (List.Mem.tail _ (List.Mem.tail _ (List.Mem.tail _ (List.Mem.tail _ (List.Mem.tail _ (List.Mem.tail _ (List.Mem.tail _ (List.Mem.tail _ (List.Mem.head _))))))))))))))))))))))))))))))))))))))))) => sx_k321_41
  | _, List.Mem.tail _ (List.Mem.tail _ (List.Mem.tail _ (List.Mem.tail _ (List.Mem.tail _ (List.Mem.tail _ (List.Mem.tail _ (List.Mem.tail _ (List.Mem.tail _ (List.Mem.tail _ (List.Mem.tail _ (List.Mem.tail _ (List.Mem.tail _ (List.Mem.tail _ (List.Mem.tail _ (List.Mem.tail _ (List.Mem.tail _ (List.Mem.tail _ (List.Mem.tail _ (List.Mem.tail _ (List.Mem.tail _ (List.Mem.tail _ (List.Mem.tail _ (List.Mem.tail _ (List.Mem.tail _ (List.Mem.tail _ (List.Mem.tail _ (List.Mem.tail _ (List.Mem.tail _ (List.Mem.tail _ (List.Mem.tail _ (List.Mem.tail _ (List.Mem.tail _ (List.Mem.tail _ (List.Mem.tail _ (List.Mem.tail _ (List.Mem.tail _ (List.Mem.tail _ (List.Mem.tail _ (List.Mem.tail _ (List.Mem.tail _ (List.Mem.tail _ (List.Mem.head _)))))))))))))))))))))))))))))))))))))))))) => sx_k321_42
  | _, List.Mem.tail _ (List.Mem.tail _ (List.Mem.tail _ (List.Mem.tail _ (List.Mem.tail _ (List.Mem.tail _ (List.Mem.tail _ (List.Mem.tail _ (List.Mem.tail _ (List.Mem.tail _ (List.Mem.tail _ (List.Mem.tail _ (List.Mem.tail _ (List.Mem.tail _ (List.Mem.tail _ (List.Mem.tail _ (List.Mem.tail _ (List.Mem.tail _ (List.Mem.tail _ (List.Mem.tail _ (List.Mem.tail _ (List.Mem.tail _ (List.Mem.tail _ (List.Mem.tail _ (List.Mem.tail _ (List.Mem.tail _ (List.Mem.tail _ (List.Mem.tail _ (List.Mem.tail _ (List.Mem.tail _ (List.Mem.tail _ (List.Mem.tail _ (List.Mem.tail _ (List.Mem.tail _ (List.Mem.tail _ (List.Mem.tail _ (List.Mem.tail _ (List.Mem.tail _ (List.Mem.tail _ (List.Mem.tail _ (List.Mem.tail _ (List.Mem.tail _ (List.Mem.tail _ (List.Mem.head _))))))))))))))))))))))))))))))))))))))))))) => sx_k321_43
  | _, List.Mem.tail _ (List.Mem.tail _ (List.Mem.tail _ (List.Mem.tail _ (List.Mem.tail _ (List.Mem.tail _ (List.Mem.tail _ (List.Mem.tail _ (List.Mem.tail _ (List.Mem.tail _ (List.Mem.tail _ (List.Mem.tail _ (List.Mem.tail _ (List.Mem.tail _ (List.Mem.tail _ (List.Mem.tail _ (List.Mem.tail _ (List.Mem.tail _ (List.Mem.tail _ (List.Mem.tail _ (List.Mem.tail _ (List.Mem.tail _ (List.Mem.tail _ (List.Mem.tail _ (List.Mem.tail _ (List.Mem.tail _ (List.Mem.tail _ (List.Mem.tail _ (List.Mem.tail _ (List.Mem.tail _ (List.Mem.tail _ (List.Mem.tail _ (List.Mem.tail _ (List.Mem.tail _ (List.Mem.tail _ (List.Mem.tail _ (List.Mem.tail _ (List.Mem.tail _ (List.Mem.tail _ (List.Mem.tail _ (List.Mem.tail _ (List.Mem.tail _ (List.Mem.tail _ (List.Mem.tail _ (List.Mem.head _)))))))))))))))))))))))))))))))))))))))))))) => sx_k321_44
  | _, List.Mem.tail _ (List.Mem.tail _ (List.Mem.tail _ (List.Mem.tail _ (List.Mem.tail _ (List.Mem.tail _ (List.Mem.tail _ (List.Mem.tail _ (List.Mem.tail _ (List.Mem.tail _ (List.Mem.tail _ (List.Mem.tail _ (List.Mem.tail _ (List.Mem.tail _ (List.Mem.tail _ (List.Mem.tail _ (List.Mem.tail _ (List.Mem.tail _ (List.Mem.tail _ (List.Mem.tail _ (List.Mem.tail _ (List.Mem.tail _ (List.Mem.tail _ (List.Mem.tail _ (List.Mem.tail _ (List.Mem.tail _ (List.Mem.tail _ (List.Mem.tail _ (List.Mem.tail _ (List.Mem.tail _ (List.Mem.tail _ (List.Mem.tail _ (List.Mem.tail _ (List.Mem.tail _ (List.Mem.tail _ (List.Mem.tail _ (List.Mem.tail _ (List.Mem.tail _ (List.Mem.tail _ (List.Mem.tail _ (List.Mem.tail _ (List.Mem.tail _ (List.Mem.tail _ (List.Mem.tail _ (List.Mem.tail _ (List.Mem.head _))))))))))))))))))))))))))))))))))))))))))))) => sx_k321_45
  | _, List.Mem.tail _ (List.Mem.tail _ (List.Mem.tail _ (List.Mem.tail _ (List.Mem.tail _ (List.Mem.tail _ (List.Mem.tail _ (List.Mem.tail _ (List.Mem.tail _ (List.Mem.tail _ (List.Mem.tail _ (List.Mem.tail _ (List.Mem.tail _ (List.Mem.tail _ (List.Mem.tail _ (List.Mem.tail _ (List.Mem.tail _ (List.Mem.tail _ (List.Mem.tail _ (List.Mem.tail _ (List.Mem.tail _ (List.Mem.tail _ (List.Mem.tail _ (List.Mem.tail _ (List.Mem.tail _ (List.Mem.tail _ (List.Mem.tail _ (List.Mem.tail _ (List.Mem.tail _ (List.Mem.tail _ (List.Mem.tail _ (List.Mem.tail _ (List.Mem.tail _ (List.Mem.tail _ (List.Mem.tail _ (List.Mem.tail _ (List.Mem.tail _ (List.Mem.tail _ (List.Mem.tail _ (List.Mem.tail _ (List.Mem.tail _ (List.Mem.tail _ (List.Mem.tail _ (List.Mem.tail _ (List.Mem.tail _ (List.Mem.tail _ (List.Mem.head _)))))))))))))))))))))))))))))))))))))))))))))) => sx_k321_46
  | _, List.Mem.tail _ (List.Mem.tail _ (List.Mem.tail _ (List.Mem.tail _ (List.Mem.tail _ (List.Mem.tail _ (List.Mem.tail _ (List.Mem.tail _ (List.Mem.tail _ (List.Mem.tail _ (List.Mem.tail _ (List.Mem.tail _ (List.Mem.tail _ (List.Mem.tail _ (List.Mem.tail _ (List.Mem.tail _ (List.Mem.tail _ (List.Mem.tail _ (List.Mem.tail _ (List.Mem.tail _ (List.Mem.tail _ (List.Mem.tail _ (List.Mem.tail _ (List.Mem.tail _ (List.Mem.tail _ (List.Mem.tail _ (List.Mem.tail _ (List.Mem.tail _ (List.Mem.tail _ (List.Mem.tail _ (List.Mem.tail _ (List.Mem.tail _ (List.Mem.tail _ (List.Mem.tail _ (List.Mem.tail _ (List.Mem.tail _ (List.Mem.tail _ (List.Mem.tail _ (List.Mem.tail _ (List.Mem.tail _ (List.Mem.tail _ (List.Mem.tail _ (List.Mem.tail _ (List.Mem.tail _ (List.Mem.tail _ (List.Mem.tail _ (List.Mem.tail _ (List.Mem.head _))))))))))))))))))))))))))))))))))))))))))))))) => sx_k321_47
  | _, List.Mem.tail _ (List.Mem.tail _ (List.Mem.tail _ (List.Mem.tail _ (List.Mem.tail _ (List.Mem.tail _ (List.Mem.tail _ (List.Mem.tail _ (List.Mem.tail _ (List.Mem.tail _ (List.Mem.tail _ (List.Mem.tail _ (List.Mem.tail _ (List.Mem.tail _ (List.Mem.tail _ (List.Mem.tail _ (List.Mem.tail _ (List.Mem.tail _ (List.Mem.tail _ (List.Mem.tail _ (List.Mem.tail _ (List.Mem.tail _ (List.Mem.tail _ (List.Mem.tail _ (List.Mem.tail _ (List.Mem.tail _ (List.Mem.tail _ (List.Mem.tail _ (List.Mem.tail _ (List.Mem.tail _ (List.Mem.tail _ (List.Mem.tail _ (List.Mem.tail _ (List.Mem.tail _ (List.Mem.tail _ (List.Mem.tail _ (List.Mem.tail _ (List.Mem.tail _ (List.Mem.tail _ (List.Mem.tail _ (List.Mem.tail _ (List.Mem.tail _ (List.Mem.tail _ (List.Mem.tail _ (List.Mem.tail _ (List.Mem.tail _ (List.Mem.tail _ (List.Mem.tail _ (List.Mem.head _)))))))))))))))))))))))))))))))))))))))))))))))) => sx_k321_48
  | _, List.Mem.tail _ (List.Mem.tail _ (List.Mem.tail _ (List.Mem.tail _ (List.Mem.tail _ (List.Mem.tail _ (List.Mem.tail _ (List.Mem.tail _ (List.Mem.tail _ (List.Mem.tail _ (List.Mem.tail _ (List.Mem.tail _ (List.Mem.tail _ (List.Mem.tail _ (List.Mem.tail _ (List.Mem.tail _ (List.Mem.tail _ (List.Mem.tail _ (List.Mem.tail _ (List.Mem.tail _ (List.Mem.tail _ (List.Mem.tail _ (List.Mem.tail _ (List.Mem.tail _ (List.Mem.tail _ (List.Mem.tail _ (List.Mem.tail _ (List.Mem.tail _ (List.Mem.tail _ (List.Mem.tail _ (List.Mem.tail _ (List.Mem.tail _ (List.Mem.tail _ (List.Mem.tail _ (List.Mem.tail _ (List.Mem.tail _ (List.Mem.tail _ (List.Mem.tail _ (List.Mem.tail _ (List.Mem.tail _ (List.Mem.tail _ (List.Mem.tail _ (List.Mem.tail _ (List.Mem.tail _ (List.Mem.tail _ (List.Mem.tail _ (List.Mem.tail _ (List.Mem.tail _ (List.Mem.tail _ (List.Mem.head _))))))))))))))))))))))))))))))))))))))))))))))))) => sx_k321_49
  | _, List.Mem.tail _ (List.Mem.tail _ (List.Mem.tail _ (List.Mem.tail _ (List.Mem.tail _ (List.Mem.tail _ (List.Mem.tail _ (List.Mem.tail _ (List.Mem.tail _ (List.Mem.tail _ (List.Mem.tail _ (List.Mem.tail _ (List.Mem.tail _ (List.Mem.tail _ (List.Mem.tail _ (List.Mem.tail _ (List.Mem.tail _ (List.Mem.tail _ (List.Mem.tail _ (List.Mem.tail _ (List.Mem.tail _ (List.Mem.tail _ (List.Mem.tail _ (List.Mem.tail _ (List.Mem.tail _ (List.Mem.tail _ (List.Mem.tail _ (List.Mem.tail _ (List.Mem.tail _ (List.Mem.tail _ (List.Mem.tail _ (List.Mem.tail _ (List.Mem.tail _ (List.Mem.tail _ (List.Mem.tail _ (List.Mem.tail _ (List.Mem.tail _ (List.Mem.tail _ (List.Mem.tail _ (List.Mem.tail _ (List.Mem.tail _ (List.Mem.tail _ (List.Mem.tail _ (List.Mem.tail _ (List.Mem.tail _ (List.Mem.tail _ (List.Mem.tail _ (List.Mem.tail _ (List.Mem.tail _ (List.Mem.tail _ (List.Mem.head _)))))))))))))))))))))))))))))))))))))))))))))))))) => sx_k321_50
  | _, List.Mem.tail _ (List.Mem.tail _ (List.Mem.tail _ (List.Mem.tail _ (List.Mem.tail _ (List.Mem.tail _ (List.Mem.tail _ (List.Mem.tail _ (List.Mem.tail _ (List.Mem.tail _ (List.Mem.tail _ (List.Mem.tail _ (List.Mem.tail _ (List.Mem.tail _ (List.Mem.tail _ (List.Mem.tail _ (List.Mem.tail _ (List.Mem.tail _ (List.Mem.tail _ (List.Mem.tail _ (List.Mem.tail _ (List.Mem.tail _ (List.Mem.tail _ (List.Mem.tail _ (List.Mem.tail _ (List.Mem.tail _ (List.Mem.tail _ (List.Mem.tail _ (List.Mem.tail _ (List.Mem.tail _ (List.Mem.tail _ (List.Mem.tail _ (List.Mem.tail _ (List.Mem.tail _ (List.Mem.tail _ (List.Mem.tail _ (List.Mem.tail _ (List.Mem.tail _ (List.Mem.tail _ (List.Mem.tail _ (List.Mem.tail _ (List.Mem.tail _ (List.Mem.tail _ (List.Mem.tail _ (List.Mem.tail _ (List.Mem.tail _ (List.Mem.tail _ (List.Mem.tail _ (List.Mem.tail _ (List.Mem.tail _ (List.Mem.tail _ (List.Mem.head _))))))))))))))))))))))))))))))))))))))))))))))))))) => sx_k321_51
  | _, List.Mem.tail _ (List.Mem.tail _ (List.Mem.tail _ (List.Mem.tail _ (List.Mem.tail _ (List.Mem.tail _ (List.Mem.tail _ (List.Mem.tail _ (List.Mem.tail _ (List.Mem.tail _ (List.Mem.tail _ (List.Mem.tail _ (List.Mem.tail _ (List.Mem.tail _ (List.Mem.tail _ (List.Mem.tail _ (List.Mem.tail _ (List.Mem.tail _ (List.Mem.tail _ (List.Mem.tail _ (List.Mem.tail _ (List.Mem.tail _ (List.Mem.tail _ (List.Mem.tail _ (List.Mem.tail _ (List.Mem.tail _ (List.Mem.tail _ (List.Mem.tail _ (List.Mem.tail _ (List.Mem.tail _ (List.Mem.tail _ (List.Mem.tail _ (List.Mem.tail _ (List.Mem.tail _ (List.Mem.tail _ (List.Mem.tail _ (List.Mem.tail _ (List.Mem.tail _ (List.Mem.tail _ (List.Mem.tail _ (List.Mem.tail _ (List.Mem.tail _ (List.Mem.tail _ (List.Mem.tail _ (List.Mem.tail _ (List.Mem.tail _ (List.Mem.tail _ (List.Mem.tail _ (List.Mem.tail _ (List.Mem.tail _ (List.Mem.tail _ (List.Mem.tail _ (List.Mem.head _)))))))))))))))))))))))))))))))))))))))))))))))))))) => sx_k321_52
  | _, List.Mem.tail _ (List.Mem.tail _ (List.Mem.tail _ (List.Mem.tail _ (List.Mem.tail _ (List.Mem.tail _ (List.Mem.tail _ (List.Mem.tail _ (List.Mem.tail _ (List.Mem.tail _ (List.Mem.tail _ (List.Mem.tail _ (List.Mem.tail _ (List.Mem.tail _ (List.Mem.tail _ (List.Mem.tail _ (List.Mem.tail _ (List.Mem.tail _ (List.Mem.tail _ (List.Mem.tail _ (List.Mem.tail _ (List.Mem.tail _ (List.Mem.tail _ (List.Mem.tail _ (List.Mem.tail _ (List.Mem.tail _ (List.Mem.tail _ (List.Mem.tail _ (List.Mem.tail _ (List.Mem.tail _ (List.Mem.tail _ (List.Mem.tail _ (List.Mem.tail _ (List.Mem.tail _ (List.Mem.tail _ (List.Mem.tail _ (List.Mem.tail _ (List.Mem.tail _ (List.Mem.tail _ (List.Mem.tail _ (List.Mem.tail _ (List.Mem.tail _ (List.Mem.tail _ (List.Mem.tail _ (List.Mem.tail _ (List.Mem.tail _ (List.Mem.tail _ (List.Mem.tail _ (List.Mem.tail _ (List.Mem.tail _ (List.Mem.tail _ (List.Mem.tail _ (List.Mem.tail _ (List.Mem.head _))))))))))))))))))))))))))))))))))))))))))))))))))))) => sx_k321_53
  | _, List.Mem.tail _ (List.Mem.tail _ (List.Mem.tail _ (List.Mem.tail _ (List.Mem.tail _ (List.Mem.tail _ (List.Mem.tail _ (List.Mem.tail _ (List.Mem.tail _ (List.Mem.tail _ (List.Mem.tail _ (List.Mem.tail _ (List.Mem.tail _ (List.Mem.tail _ (List.Mem.tail _ (List.Mem.tail _ (List.Mem.tail _ (List.Mem.tail _ (List.Mem.tail _ (List.Mem.tail _ (List.Mem.tail _ (List.Mem.tail _ (List.Mem.tail _ (List.Mem.tail _ (List.Mem.tail _ (List.Mem.tail _ (List.Mem.tail _ (List.Mem.tail _ (List.Mem.tail _ (List.Mem.tail _ (List.Mem.tail _ (List.Mem.tail _ (List.Mem.tail _ (List.Mem.tail _ (List.Mem.tail _ (List.Mem.tail _ (List.Mem.tail _ (List.Mem.tail _ (List.Mem.tail _ (List.Mem.tail _ (List.Mem.tail _ (List.Mem.tail _ (List.Mem.tail _ (List.Mem.tail _ (List.Mem.tail _ (List.Mem.tail _ (List.Mem.tail _ (List.Mem.tail _ (List.Mem.tail _ (List.Mem.tail _ (List.Mem.tail _ (List.Mem.tail _ (List.Mem.tail _ (List.Mem.tail _ (List.Mem.head _)))))))))))))))))))))))))))))))))))))))))))))))))))))) => sx_k321_54
  | _, List.Mem.tail _ (List.Mem.tail _ (List.Mem.tail _ (List.Mem.tail _ (List.Mem.tail _ (List.Mem.tail _ (List.Mem.tail _ (List.Mem.tail _ (List.Mem.tail _ (List.Mem.tail _ (List.Mem.tail _ (List.Mem.tail _ (List.Mem.tail _ (List.Mem.tail _ (List.Mem.tail _ (List.Mem.tail _ (List.Mem.tail _ (List.Mem.tail _ (List.Mem.tail _ (List.Mem.tail _ (List.Mem.tail _ (List.Mem.tail _ (List.Mem.tail _ (List.Mem.tail _ (List.Mem.tail _ (List.Mem.tail _ (List.Mem.tail _ (List.Mem.tail _ (List.Mem.tail _ (List.Mem.tail _ (List.Mem.tail _ (List.Mem.tail _ (List.Mem.tail _ (List.Mem.tail _ (List.Mem.tail _ (List.Mem.tail _ (List.Mem.tail _ (List.Mem.tail _ (List.Mem.tail _ (List.Mem.tail _ (List.Mem.tail _ (List.Mem.tail _ (List.Mem.tail _ (List.Mem.tail _ (List.Mem.tail _ (List.Mem.tail _ (List.Mem.tail _ (List.Mem.tail _ (List.Mem.tail _ (List.Mem.tail _ (List.Mem.tail _ (List.Mem.tail _ (List.Mem.tail _ (List.Mem.tail _ (List.Mem.tail _ (List.Mem.head _))))))))))))))))))))))))))))))))))))))))))))))))))))))) => sx_k321_55
  | _, List.Mem.tail _ (List.Mem.tail _ (List.Mem.tail _ (List.Mem.tail _ (List.Mem.tail _ (List.Mem.tail _ (List.Mem.tail _ (List.Mem.tail _ (List.Mem.tail _ (List.Mem.tail _ (List.Mem.tail _ (List.Mem.tail _ (List.Mem.tail _ (List.Mem.tail _ (List.Mem.tail _ (List.Mem.tail _ (List.Mem.tail _ (List.Mem.tail _ (List.Mem.tail _ (List.Mem.tail _ (List.Mem.tail _ (List.Mem.tail _ (List.Mem.tail _ (List.Mem.tail _ (List.Mem.tail _ (List.Mem.tail _ (List.Mem.tail _ (List.Mem.tail _ (List.Mem.tail _ (List.Mem.tail _ (List.Mem.tail _ (List.Mem.tail _ (List.Mem.tail _ (List.Mem.tail _ (List.Mem.tail _ (List.Mem.tail _ (List.Mem.tail _ (List.Mem.tail _ (List.Mem.tail _ (List.Mem.tail _ (List.Mem.tail _ (List.Mem.tail _ (List.Mem.tail _ (List.Mem.tail _ (List.Mem.tail _ (List.Mem.tail _ (List.Mem.tail _ (List.Mem.tail _ (List.Mem.tail _ (List.Mem.tail _ (List.Mem.tail _ (List.Mem.tail _ (List.Mem.tail _ (List.Mem.tail _ (List.Mem.tail _ (List.Mem.tail _ (List.Mem.head _)))))))))))))))))))))))))))))))))))))))))))))))))))))))) => sx_k321_56
  | _, List.Mem.tail _ (List.Mem.tail _ (List.Mem.tail _ (List.Mem.tail _ (List.Mem.tail _ (List.Mem.tail _ (List.Mem.tail _ (List.Mem.tail _ (List.Mem.tail _ (List.Mem.tail _ (List.Mem.tail _ (List.Mem.tail _ (List.Mem.tail _ (List.Mem.tail _ (List.Mem.tail _ (List.Mem.tail _ (List.Mem.tail _ (List.Mem.tail _ (List.Mem.tail _ (List.Mem.tail _ (List.Mem.tail _ (List.Mem.tail _ (List.Mem.tail _ (List.Mem.tail _ (List.Mem.tail _ (List.Mem.tail _ (List.Mem.tail _ (List.Mem.tail _ (List.Mem.tail _ (List.Mem.tail _ (List.Mem.tail _ (List.Mem.tail _ (List.Mem.tail _ (List.Mem.tail _ (List.Mem.tail _ (List.Mem.tail _ (List.Mem.tail _ (List.Mem.tail _ (List.Mem.tail _ (List.Mem.tail _ (List.Mem.tail _ (List.Mem.tail _ (List.Mem.tail _ (List.Mem.tail _ (List.Mem.tail _ (List.Mem.tail _ (List.Mem.tail _ (List.Mem.tail _ (List.Mem.tail _ (List.Mem.tail _ (List.Mem.tail _ (List.Mem.tail _ (List.Mem.tail _ (List.Mem.tail _ (List.Mem.tail _ (List.Mem.tail _ (List.Mem.tail _ (List.Mem.head _))))))))))))))))))))))))))))))))))))))))))))))))))))))))) => sx_k321_57
  | _, List.Mem.tail _ (List.Mem.tail _ (List.Mem.tail _ (List.Mem.tail _ (List.Mem.tail _ (List.Mem.tail _ (List.Mem.tail _ (List.Mem.tail _ (List.Mem.tail _ (List.Mem.tail _ (List.Mem.tail _ (List.Mem.tail _ (List.Mem.tail _ (List.Mem.tail _ (List.Mem.tail _ (List.Mem.tail _ (List.Mem.tail _ (List.Mem.tail _ (List.Mem.tail _ (List.Mem.tail _ (List.Mem.tail _ (List.Mem.tail _ (List.Mem.tail _ (List.Mem.tail _ (List.Mem.tail _ (List.Mem.tail _ (List.Mem.tail _ (List.Mem.tail _ (List.Mem.tail _ (List.Mem.tail _ (List.Mem.tail _ (List.Mem.tail _ (List.Mem.tail _ (List.Mem.tail _ (List.Mem.tail _ (List.Mem.tail _ (List.Mem.tail _ (List.Mem.tail _ (List.Mem.tail _ (List.Mem.tail _ (List.Mem.tail _ (List.Mem.tail _ (List.Mem.tail _ (List.Mem.tail _ (List.Mem.tail _ (List.Mem.tail _ (List.Mem.tail _ (List.Mem.tail _ (List.Mem.tail _ (List.Mem.tail _ (List.Mem.tail _ (List.Mem.tail _ (List.Mem.tail _ (List.Mem.tail _ (List.Mem.tail _ (List.Mem.tail _ (List.Mem.tail _ (List.Mem.tail _ (List.Mem.head _)))))))))))))))))))))))))))))))))))))))))))))))))))))))))) => sx_k321_58
  | _, List.Mem.tail _ (List.Mem.tail _ (List.Mem.tail _ (List.Mem.tail _ (List.Mem.tail _ (List.Mem.tail _ (List.Mem.tail _ (List.Mem.tail _ (List.Mem.tail _ (List.Mem.tail _ (List.Mem.tail _ (List.Mem.tail _ (List.Mem.tail _ (List.Mem.tail _ (List.Mem.tail _ (List.Mem.tail _ (List.Mem.tail _ (List.Mem.tail _ (List.Mem.tail _ (List.Mem.tail _ (List.Mem.tail _ (List.Mem.tail _ (List.Mem.tail _ (List.Mem.tail _ (List.Mem.tail _ (List.Mem.tail _ (List.Mem.tail _ (List.Mem.tail _ (List.Mem.tail _ (List.Mem.tail _ (List.Mem.tail _ (List.Mem.tail _ (List.Mem.tail _ (List.Mem.tail _ (List.Mem.tail _ (List.Mem.tail _ (List.Mem.tail _ (List.Mem.tail _ (List.Mem.tail _ (List.Mem.tail _ (List.Mem.tail _ (List.Mem.tail _ (List.Mem.tail _ (List.Mem.tail _ (List.Mem.tail _ (List.Mem.tail _ (List.Mem.tail _ (List.Mem.tail _ (List.Mem.tail _ (List.Mem.tail _ (List.Mem.tail _ (List.Mem.tail _ (List.Mem.tail _ (List.Mem.tail _ (List.Mem.tail _ (List.Mem.tail _ (List.Mem.tail _ (List.Mem.tail _ (List.Mem.tail _ (List.Mem.head _))))))))))))))))))))))))))))))))))))))))))))))))))))))))))) => sx_k321_59
  | _, List.Mem.tail _ (List.Mem.tail _ (List.Mem.tail _ (List.Mem.tail _ (List.Mem.tail _ (List.Mem.tail _ (List.Mem.tail _ (List.Mem.tail _ (List.Mem.tail _ (List.Mem.tail _ (List.Mem.tail _ (List.Mem.tail _ (List.Mem.tail _ (List.Mem.tail _ (List.Mem.tail _ (List.Mem.tail _ (List.Mem.tail _ (List.Mem.tail _ (List.Mem.tail _ (List.Mem.tail _ (List.Mem.tail _ (List.Mem.tail _ (List.Mem.tail _ (List.Mem.tail _ (List.Mem.tail _ (List.Mem.tail _ (List.Mem.tail _ (List.Mem.tail _ (List.Mem.tail _ (List.Mem.tail _ (List.Mem.tail _ (List.Mem.tail _ (List.Mem.tail _ (List.Mem.tail _ (List.Mem.tail _ (List.Mem.tail _ (List.Mem.tail _ (List.Mem.tail _ (List.Mem.tail _ (List.Mem.tail _ (List.Mem.tail _ (List.Mem.tail _ (List.Mem.tail _ (List.Mem.tail _ (List.Mem.tail _ (List.Mem.tail _ (List.Mem.tail _ (List.Mem.tail _ (List.Mem.tail _ (List.Mem.tail _ (List.Mem.tail _ (List.Mem.tail _ (List.Mem.tail _ (List.Mem.tail _ (List.Mem.tail _ (List.Mem.tail _ (List.Mem.tail _ (List.Mem.tail _ (List.Mem.tail _ (List.Mem.tail _ (List.Mem.head _)))))))))))))))))))))))))))))))))))))))))))))))))))))))))))) => sx_k321_60
  | _, List.Mem.tail _ (List.Mem.tail _ (List.Mem.tail _ (List.Mem.tail _ (List.Mem.tail _ (List.Mem.tail _ (List.Mem.tail _ (List.Mem.tail _ (List.Mem.tail _ (List.Mem.tail _ (List.Mem.tail _ (List.Mem.tail _ (List.Mem.tail _ (List.Mem.tail _ (List.Mem.tail _ (List.Mem.tail _ (List.Mem.tail _ (List.Mem.tail _ (List.Mem.tail _ (List.Mem.tail _ (List.Mem.tail _ (List.Mem.tail _ (List.Mem.tail _ (List.Mem.tail _ (List.Mem.tail _ (List.Mem.tail _ (List.Mem.tail _ (List.Mem.tail _ (List.Mem.tail _ (List.Mem.tail _ (List.Mem.tail _ (List.Mem.tail _ (List.Mem.tail _ (List.Mem.tail _ (List.Mem.tail _ (List.Mem.tail _ (List.Mem.tail _ (List.Mem.tail _ (List.Mem.tail _ (List.Mem.tail _ (List.Mem.tail _ (List.Mem.tail _ (List.Mem.tail _ (List.Mem.tail _ (List.Mem.tail _ (List.Mem.tail _ (List.Mem.tail _ (List.Mem.tail _ (List.Mem.tail _ (List.Mem.tail _ (List.Mem.tail _ (List.Mem.tail _ (List.Mem.tail _ (List.Mem.tail _ (List.Mem.tail _ (List.Mem.tail _ (List.Mem.tail _ (List.Mem.tail _ (List.Mem.tail _ (List.Mem.tail _ (List.Mem.tail _ (List.Mem.head _))))))))))))))))))))))))))))))))))))))))))))))))))))))))))))) => sx_k321_61
  | _, List.Mem.tail _ (List.Mem.tail _ (List.Mem.tail _ (List.Mem.tail _ (List.Mem.tail _ (List.Mem.tail _ (List.Mem.tail _ (List.Mem.tail _ (List.Mem.tail _ (List.Mem.tail _ (List.Mem.tail _ (List.Mem.tail _ (List.Mem.tail _ (List.Mem.tail _ (List.Mem.tail _ (List.Mem.tail _ (List.Mem.tail _ (List.Mem.tail _ (List.Mem.tail _ (List.Mem.tail _ (List.Mem.tail _ (List.Mem.tail _ (List.Mem.tail _ (List.Mem.tail _ (List.Mem.tail _ (List.Mem.tail _ (List.Mem.tail _ (List.Mem.tail _ (List.Mem.tail _ (List.Mem.tail _ (List.Mem.tail _ (List.Mem.tail _ (List.Mem.tail _ (List.Mem.tail _ (List.Mem.tail _ (List.Mem.tail _ (List.Mem.tail _ (List.Mem.tail _ (List.Mem.tail _ (List.Mem.tail _ (List.Mem.tail _ (List.Mem.tail _ (List.Mem.tail _ (List.Mem.tail _ (List.Mem.tail _ (List.Mem.tail _ (List.Mem.tail _ (List.Mem.tail _ (List.Mem.tail _ (List.Mem.tail _ (List.Mem.tail _ (List.Mem.tail _ (List.Mem.tail _ (List.Mem.tail _ (List.Mem.tail _ (List.Mem.tail _ (List.Mem.tail _ (List.Mem.tail _ (List.Mem.tail _ (List.Mem.tail _ (List.Mem.tail _ (List.Mem.tail _ (List.Mem.head _)))))))))))))))))))))))))))))))))))))))))))))))))))))))))))))) => sx_k321_62
  | _, List.Mem.tail _ (List.Mem.tail _ (List.Mem.tail _ (List.Mem.tail _ (List.Mem.tail _ (List.Mem.tail _ (List.Mem.tail _ (List.Mem.tail _ (List.Mem.tail _ (List.Mem.tail _ (List.Mem.tail _ (List.Mem.tail _ (List.Mem.tail _ (List.Mem.tail _ (List.Mem.tail _ (List.Mem.tail _ (List.Mem.tail _ (List.Mem.tail _ (List.Mem.tail _ (List.Mem.tail _ (List.Mem.tail _ (List.Mem.tail _ (List.Mem.tail _ (List.Mem.tail _ (List.Mem.tail _ (List.Mem.tail _ (List.Mem.tail _ (List.Mem.tail _ (List.Mem.tail _ (List.Mem.tail _ (List.Mem.tail _ (List.Mem.tail _ (List.Mem.tail _ (List.Mem.tail _ (List.Mem.tail _ (List.Mem.tail _ (List.Mem.tail _ (List.Mem.tail _ (List.Mem.tail _ (List.Mem.tail _ (List.Mem.tail _ (List.Mem.tail _ (List.Mem.tail _ (List.Mem.tail _ (List.Mem.tail _ (List.Mem.tail _ (List.Mem.tail _ (List.Mem.tail _ (List.Mem.tail _ (List.Mem.tail _ (List.Mem.tail _ (List.Mem.tail _ (List.Mem.tail _ (List.Mem.tail _ (List.Mem.tail _ (List.Mem.tail _ (List.Mem.tail _ (List.Mem.tail _ (List.Mem.tail _ (List.Mem.tail _ (List.Mem.tail _ (List.Mem.tail _ (List.Mem.tail _ (List.Mem.head _))))))))))))))))))))))))))))))))))))))))))))))))))))))))))))))) => sx_k321_63
  | _, List.Mem.tail _ (List.Mem.tail _ (List.Mem.tail _ (List.Mem.tail _ (List.Mem.tail _ (List.Mem.tail _ (List.Mem.tail _ (List.Mem.tail _ (List.Mem.tail _ (List.Mem.tail _ (List.Mem.tail _ (List.Mem.tail _ (List.Mem.tail _ (List.Mem.tail _ (List.Mem.tail _ (List.Mem.tail _ (List.Mem.tail _ (List.Mem.tail _ (List.Mem.tail _ (List.Mem.tail _ (List.Mem.tail _ (List.Mem.tail _ (List.Mem.tail _ (List.Mem.tail _ (List.Mem.tail _ (List.Mem.tail _ (List.Mem.tail _ (List.Mem.tail _ (List.Mem.tail _ (List.Mem.tail _ (List.Mem.tail _ (List.Mem.tail _ (List.Mem.tail _ (List.Mem.tail _ (List.Mem.tail _ (List.Mem.tail _ (List.Mem.tail _ (List.Mem.tail _ (List.Mem.tail _ (List.Mem.tail _ (List.Mem.tail _ (List.Mem.tail _ (List.Mem.tail _ (List.Mem.tail _ (List.Mem.tail _ (List.Mem.tail _ (List.Mem.tail _ (List.Mem.tail _ (List.Mem.tail _ (List.Mem.tail _ (List.Mem.tail _ (List.Mem.tail _ (List.Mem.tail _ (List.Mem.tail _ (List.Mem.tail _ (List.Mem.tail _ (List.Mem.tail _ (List.Mem.tail _ (List.Mem.tail _ (List.Mem.tail _ (List.Mem.tail _ (List.Mem.tail _ (List.Mem.tail _ (List.Mem.tail _ (List.Mem.head _)))))))))))))))))))))))))))))))))))))))))))))))))))))))))))))))) => sx_k321_64
  | _, List.Mem.tail _ (List.Mem.tail _ (List.Mem.tail _ (List.Mem.tail _ (List.Mem.tail _ (List.Mem.tail _ (List.Mem.tail _ (List.Mem.tail _ (List.Mem.tail _ (List.Mem.tail _ (List.Mem.tail _ (List.Mem.tail _ (List.Mem.tail _ (List.Mem.tail _ (List.Mem.tail _ (List.Mem.tail _ (List.Mem.tail _ (List.Mem.tail _ (List.Mem.tail _ (List.Mem.tail _ (List.Mem.tail _ (List.Mem.tail _ (List.Mem.tail _ (List.Mem.tail _ (List.Mem.tail _ (List.Mem.tail _ (List.Mem.tail _ (List.Mem.tail _ (List.Mem.tail _ (List.Mem.tail _ (List.Mem.tail _ (List.Mem.tail _ (List.Mem.tail _ (List.Mem.tail _ (List.Mem.tail _ (List.Mem.tail _ (List.Mem.tail _ (List.Mem.tail _ (List.Mem.tail _ (List.Mem.tail _ (List.Mem.tail _ (List.Mem.tail _ (List.Mem.tail _ (List.Mem.tail _ (List.Mem.tail _ (List.Mem.tail _ (List.Mem.tail _ (List.Mem.tail _ (List.Mem.tail _ (List.Mem.tail _ (List.Mem.tail _ (List.Mem.tail _ (List.Mem.tail _ (List.Mem.tail _ (List.Mem.tail _ (List.Mem.tail _ (List.Mem.tail _ (List.Mem.tail _ (List.Mem.tail _ (List.Mem.tail _ (List.Mem.tail _ (List.Mem.tail _ (List.Mem.tail _ (List.Mem.tail _ (List.Mem.tail _ (List.Mem.head _))))))))))))))))))))))))))))))))))))))))))))))))))))))))))))))))) => sx_k321_65
  | _, List.Mem.tail _ (List.Mem.tail _ (List.Mem.tail _ (List.Mem.tail _ (List.Mem.tail _ (List.Mem.tail _ (List.Mem.tail _ (List.Mem.tail _ (List.Mem.tail _ (List.Mem.tail _ (List.Mem.tail _ (List.Mem.tail _ (List.Mem.tail _ (List.Mem.tail _ (List.Mem.tail _ (List.Mem.tail _ (List.Mem.tail _ (List.Mem.tail _ (List.Mem.tail _ (List.Mem.tail _ (List.Mem.tail _ (List.Mem.tail _ (List.Mem.tail _ (List.Mem.tail _ (List.Mem.tail _ (List.Mem.tail _ (List.Mem.tail _ (List.Mem.tail _ (List.Mem.tail _ (List.Mem.tail _ (List.Mem.tail _ (List.Mem.tail _ (List.Mem.tail _ (List.Mem.tail _ (List.Mem.tail _ (List.Mem.tail _ (List.Mem.tail _ (List.Mem.tail _ (List.Mem.tail _ (List.Mem.tail _ (List.Mem.tail _ (List.Mem.tail _ (List.Mem.tail _ (List.Mem.tail _ (List.Mem.tail _ (List.Mem.tail _ (List.Mem.tail _ (List.Mem.tail _ (List.Mem.tail _ (List.Mem.tail _ (List.Mem.tail _ (List.Mem.tail _ (List.Mem.tail _ (List.Mem.tail _ (List.Mem.tail _ (List.Mem.tail _ (List.Mem.tail _ (List.Mem.tail _ (List.Mem.tail _ (List.Mem.tail _ (List.Mem.tail _ (List.Mem.tail _ (List.Mem.tail _ (List.Mem.tail _ (List.Mem.tail _ (List.Mem.tail _ (List.Mem.head _)))))))))))))))))))))))))))))))))))))))))))))))))))))))))))))))))) => sx_k321_66
  | _, List.Mem.tail _ (List.Mem.tail _ (List.Mem.tail _ (List.Mem.tail _ (List.Mem.tail _ (List.Mem.tail _ (List.Mem.tail _ (List.Mem.tail _ (List.Mem.tail _ (List.Mem.tail _ (List.Mem.tail _ (List.Mem.tail _ (List.Mem.tail _ (List.Mem.tail _ (List.Mem.tail _ (List.Mem.tail _ (List.Mem.tail _ (List.Mem.tail _ (List.Mem.tail _ (List.Mem.tail _ (List.Mem.tail _ (List.Mem.tail _ (List.Mem.tail _ (List.Mem.tail _ (List.Mem.tail _ (List.Mem.tail _ (List.Mem.tail _ (List.Mem.tail _ (List.Mem.tail _ (List.Mem.tail _ (List.Mem.tail _ (List.Mem.tail _ (List.Mem.tail _ (List.Mem.tail _ (List.Mem.tail _ (List.Mem.tail _ (List.Mem.tail _ (List.Mem.tail _ (List.Mem.tail _ (List.Mem.tail _ (List.Mem.tail _ (List.Mem.tail _ (List.Mem.tail _ (List.Mem.tail _ (List.Mem.tail _ (List.Mem.tail _ (List.Mem.tail _ (List.Mem.tail _ (List.Mem.tail _ (List.Mem.tail _ (List.Mem.tail _ (List.Mem.tail _ (List.Mem.tail _ (List.Mem.tail _ (List.Mem.tail _ (List.Mem.tail _ (List.Mem.tail _ (List.Mem.tail _ (List.Mem.tail _ (List.Mem.tail _ (List.Mem.tail _ (List.Mem.tail _ (List.Mem.tail _ (List.Mem.tail _ (List.Mem.tail _ (List.Mem.tail _ (List.Mem.tail _ (List.Mem.head _))))))))))))))))))))))))))))))))))))))))))))))))))))))))))))))))))) => sx_k321_67
  | _, List.Mem.tail _ (List.Mem.tail _ (List.Mem.tail _ (List.Mem.tail _ (List.Mem.tail _ (List.Mem.tail _ (List.Mem.tail _ (List.Mem.tail _ (List.Mem.tail _ (List.Mem.tail _ (List.Mem.tail _ (List.Mem.tail _ (List.Mem.tail _ (List.Mem.tail _ (List.Mem.tail _ (List.Mem.tail _ (List.Mem.tail _ (List.Mem.tail _ (List.Mem.tail _ (List.Mem.tail _ (List.Mem.tail _ (List.Mem.tail _ (List.Mem.tail _ (List.Mem.tail _ (List.Mem.tail _ (List.Mem.tail _ (List.Mem.tail _ (List.Mem.tail _ (List.Mem.tail _ (List.Mem.tail _ (List.Mem.tail _ (List.Mem.tail _ (List.Mem.tail _ (List.Mem.tail _ (List.Mem.tail _ (List.Mem.tail _ (List.Mem.tail _ (List.Mem.tail _ (List.Mem.tail _ (List.Mem.tail _ (List.Mem.tail _ (List.Mem.tail _ (List.Mem.tail _ (List.Mem.tail _ (List.Mem.tail _ (List.Mem.tail _ (List.Mem.tail _ (List.Mem.tail _ (List.Mem.tail _ (List.Mem.tail _ (List.Mem.tail _ (List.Mem.tail _ (List.Mem.tail _ (List.Mem.tail _ (List.Mem.tail _ (List.Mem.tail _ (List.Mem.tail _ (List.Mem.tail _ (List.Mem.tail _ (List.Mem.tail _ (List.Mem.tail _ (List.Mem.tail _ (List.Mem.tail _ (List.Mem.tail _ (List.Mem.tail _ (List.Mem.tail _ (List.Mem.tail _ (List.Mem.tail _ (List.Mem.head _)))))))))))))))))))))))))))))))))))))))))))))))))))))))))))))))))))) => sx_k321_68
  | _, List.Mem.tail _ (List.Mem.tail _ (List.Mem.tail _ (List.Mem.tail _ (List.Mem.tail _ (List.Mem.tail _ (List.Mem.tail _ (List.Mem.tail _ (List.Mem.tail _ (List.Mem.tail _ (List.Mem.tail _ (List.Mem.tail _ (List.Mem.tail _ (List.Mem.tail _ (List.Mem.tail _ (List.Mem.tail _ (List.Mem.tail _ (List.Mem.tail _ (List.Mem.tail _ (List.Mem.tail _ (List.Mem.tail _ (List.Mem.tail _ (List.Mem.tail _ (List.Mem.tail _ (List.Mem.tail _ (List.Mem.tail _ (List.Mem.tail _ (List.Mem.tail _ (List.Mem.tail _ (List.Mem.tail _ (List.Mem.tail _ (List.Mem.tail _ (List.Mem.tail _ (List.Mem.tail _ (List.Mem.tail _ (List.Mem.tail _ (List.Mem.tail _ (List.Mem.tail _ (List.Mem.tail _ (List.Mem.tail _ (List.Mem.tail _ (List.Mem.tail _ (List.Mem.tail _ (List.Mem.tail _ (List.Mem.tail _ (List.Mem.tail _ (List.Mem.tail _ (List.Mem.tail _ (List.Mem.tail _ (List.Mem.tail _ (List.Mem.tail _ (List.Mem.tail _ (List.Mem.tail _ (List.Mem.tail _ (List.Mem.tail _ (List.Mem.tail _ (List.Mem.tail _ (List.Mem.tail _ (List.Mem.tail _ (List.Mem.tail _ (List.Mem.tail _ (List.Mem.tail _ (List.Mem.tail _ (List.Mem.tail _ (List.Mem.tail _ (List.Mem.tail _ (List.Mem.tail _ (List.Mem.tail _ (List.Mem.tail _ (List.Mem.head _))))))))))))))))))))))))))))))))))))))))))))))))))))))))))))))))))))) => sx_k321_69
  | _, List.Mem.tail _ (List.Mem.tail _ (List.Mem.tail _ (List.Mem.tail _ (List.Mem.tail _ (List.Mem.tail _ (List.Mem.tail _ (List.Mem.tail _ (List.Mem.tail _ (List.Mem.tail _ (List.Mem.tail _ (List.Mem.tail _ (List.Mem.tail _ (List.Mem.tail _ (List.Mem.tail _ (List.Mem.tail _ (List.Mem.tail _ (List.Mem.tail _ (List.Mem.tail _ (List.Mem.tail _ (List.Mem.tail _ (List.Mem.tail _ (List.Mem.tail _ (List.Mem.tail _ (List.Mem.tail _ (List.Mem.tail _ (List.Mem.tail _ (List.Mem.tail _ (List.Mem.tail _ (List.Mem.tail _ (List.Mem.tail _ (List.Mem.tail _ (List.Mem.tail _ (List.Mem.tail _ (List.Mem.tail _ (List.Mem.tail _ (List.Mem.tail _ (List.Mem.tail _ (List.Mem.tail _ (List.Mem.tail _ (List.Mem.tail _ (List.Mem.tail _ (List.Mem.tail _ (List.Mem.tail _ (List.Mem.tail _ (List.Mem.tail _ (List.Mem.tail _ (List.Mem.tail _ (List.Mem.tail _ (List.Mem.tail _ (List.Mem.tail _ (List.Mem.tail _ (List.Mem.tail _ (List.Mem.tail _ (List.Mem.tail _ (List.Mem.tail _ (List.Mem.tail _ (List.Mem.tail _ (List.Mem.tail _ (List.Mem.tail _ (List.Mem.tail _ (List.Mem.tail _ (List.Mem.tail _ (List.Mem.tail _ (List.Mem.tail _ (List.Mem.tail _ (List.Mem.tail _ (List.Mem.tail _ (List.Mem.tail _ (List.Mem.tail _ (List.Mem.head _)))))))))))))))))))))))))))))))))))))))))))))))))))))))))))))))))))))) => sx_k321_70
  | _, List.Mem.tail _ (List.Mem.tail _ (List.Mem.tail _ (List.Mem.tail _ (List.Mem.tail _ (List.Mem.tail _ (List.Mem.tail _ (List.Mem.tail _ (List.Mem.tail _ (List.Mem.tail _ (List.Mem.tail _ (List.Mem.tail _ (List.Mem.tail _ (List.Mem.tail _ (List.Mem.tail _ (List.Mem.tail _ (List.Mem.tail _ (List.Mem.tail _ (List.Mem.tail _ (List.Mem.tail _ (List.Mem.tail _ (List.Mem.tail _ (List.Mem.tail _ (List.Mem.tail _ (List.Mem.tail _ (List.Mem.tail _ (List.Mem.tail _ (List.Mem.tail _ (List.Mem.tail _ (List.Mem.tail _ (List.Mem.tail _ (List.Mem.tail _ (List.Mem.tail _ (List.Mem.tail _ (List.Mem.tail _ (List.Mem.tail _ (List.Mem.tail _ (List.Mem.tail _ (List.Mem.tail _ (List.Mem.tail _ (List.Mem.tail _ (List.Mem.tail _ (List.Mem.tail _ (List.Mem.tail _ (List.Mem.tail _ (List.Mem.tail _ (List.Mem.tail _ (List.Mem.tail _ (List.Mem.tail _ (List.Mem.tail _ (List.Mem.tail _ (List.Mem.tail _ (List.Mem.tail _ (List.Mem.tail _ (List.Mem.tail _ (List.Mem.tail _ (List.Mem.tail _ (List.Mem.tail _ (List.Mem.tail _ (List.Mem.tail _ (List.Mem.tail _ (List.Mem.tail _ (List.Mem.tail _ (List.Mem.tail _ (List.Mem.tail _ (List.Mem.tail _ (List.Mem.tail _ (List.Mem.tail _ (List.Mem.tail _ (List.Mem.tail _ (List.Mem.tail _ (List.Mem.head _))))))))))))))))))))))))))))))))))))))))))))))))))))))))))))))))))))))) => sx_k321_71
  | _, List.Mem.tail _ (List.Mem.tail _ (List.Mem.tail _ (List.Mem.tail _ (List.Mem.tail _ (List.Mem.tail _ (List.Mem.tail _ (List.Mem.tail _ (List.Mem.tail _ (List.Mem.tail _ (List.Mem.tail _ (List.Mem.tail _ (List.Mem.tail _ (List.Mem.tail _ (List.Mem.tail _ (List.Mem.tail _ (List.Mem.tail _ (List.Mem.tail _ (List.Mem.tail _ (List.Mem.tail _ (List.Mem.tail _ (List.Mem.tail _ (List.Mem.tail _ (List.Mem.tail _ (List.Mem.tail _ (List.Mem.tail _ (List.Mem.tail _ (List.Mem.tail _ (List.Mem.tail _ (List.Mem.tail _ (List.Mem.tail _ (List.Mem.tail _ (List.Mem.tail _ (List.Mem.tail _ (List.Mem.tail _ (List.Mem.tail _ (List.Mem.tail _ (List.Mem.tail _ (List.Mem.tail _ (List.Mem.tail _ (List.Mem.tail _ (List.Mem.tail _ (List.Mem.tail _ (List.Mem.tail _ (List.Mem.tail _ (List.Mem.tail _ (List.Mem.tail _ (List.Mem.tail _ (List.Mem.tail _ (List.Mem.tail _ (List.Mem.tail _ (List.Mem.tail _ (List.Mem.tail _ (List.Mem.tail _ (List.Mem.tail _ (List.Mem.tail _ (List.Mem.tail _ (List.Mem.tail _ (List.Mem.tail _ (List.Mem.tail _ (List.Mem.tail _ (List.Mem.tail _ (List.Mem.tail _ (List.Mem.tail _ (List.Mem.tail _ (List.Mem.tail _ (List.Mem.tail _ (List.Mem.tail _ (List.Mem.tail _ (List.Mem.tail _ (List.Mem.tail _ (List.Mem.tail _ (List.Mem.head _)))))))))))))))))))))))))))))))))))))))))))))))))))))))))))))))))))))))) => sx_k321_72
  | _, List.Mem.tail _ (List.Mem.tail _ (List.Mem.tail _ (List.Mem.tail _ (List.Mem.tail _ (List.Mem.tail _ (List.Mem.tail _ (List.Mem.tail _ (List.Mem.tail _ (List.Mem.tail _ (List.Mem.tail _ (List.Mem.tail _ (List.Mem.tail _ (List.Mem.tail _ (List.Mem.tail _ (List.Mem.tail _ (List.Mem.tail _ (List.Mem.tail _ (List.Mem.tail _ (List.Mem.tail _ (List.Mem.tail _ (List.Mem.tail _ (List.Mem.tail _ (List.Mem.tail _ (List.Mem.tail _ (List.Mem.tail _ (List.Mem.tail _ (List.Mem.tail _ (List.Mem.tail _ (List.Mem.tail _ (List.Mem.tail _ (List.Mem.tail _ (List.Mem.tail _ (List.Mem.tail _ (List.Mem.tail _ (List.Mem.tail _ (List.Mem.tail _ (List.Mem.tail _ (List.Mem.tail _ (List.Mem.tail _ (List.Mem.tail _ (List.Mem.tail _ (List.Mem.tail _ (List.Mem.tail _ (List.Mem.tail _ (List.Mem.tail _ (List.Mem.tail _ (List.Mem.tail _ (List.Mem.tail _ (List.Mem.tail _ (List.Mem.tail _ (List.Mem.tail _ (List.Mem.tail _ (List.Mem.tail _ (List.Mem.tail _ (List.Mem.tail _ (List.Mem.tail _ (List.Mem.tail _ (List.Mem.tail _ (List.Mem.tail _ (List.Mem.tail _ (List.Mem.tail _ (List.Mem.tail _ (List.Mem.tail _ (List.Mem.tail _ (List.Mem.tail _ (List.Mem.tail _ (List.Mem.tail _ (List.Mem.tail _ (List.Mem.tail _ (List.Mem.tail _ (List.Mem.tail _ (List.Mem.tail _ (List.Mem.head _))))))))))))))))))))))))))))))))))))))))))))))))))))))))))))))))))))))))) => sx_k321_73
  | _, List.Mem.tail _ (List.Mem.tail _ (List.Mem.tail _ (List.Mem.tail _ (List.Mem.tail _ (List.Mem.tail _ (List.Mem.tail _ (List.Mem.tail _ (List.Mem.tail _ (List.Mem.tail _ (List.Mem.tail _ (List.Mem.tail _ (List.Mem.tail _ (List.Mem.tail _ (List.Mem.tail _ (List.Mem.tail _ (List.Mem.tail _ (List.Mem.tail _ (List.Mem.tail _ (List.Mem.tail _ (List.Mem.tail _ (List.Mem.tail _ (List.Mem.tail _ (List.Mem.tail _ (List.Mem.tail _ (List.Mem.tail _ (List.Mem.tail _ (List.Mem.tail _ (List.Mem.tail _ (List.Mem.tail _ (List.Mem.tail _ (List.Mem.tail _ (List.Mem.tail _ (List.Mem.tail _ (List.Mem.tail _ (List.Mem.tail _ (List.Mem.tail _ (List.Mem.tail _ (List.Mem.tail _ (List.Mem.tail _ (List.Mem.tail _ (List.Mem.tail _ (List.Mem.tail _ (List.Mem.tail _ (List.Mem.tail _ (List.Mem.tail _ (List.Mem.tail _ (List.Mem.tail _ (List.Mem.tail _ (List.Mem.tail _ (List.Mem.tail _ (List.Mem.tail _ (List.Mem.tail _ (List.Mem.tail _ (List.Mem.tail _ (List.Mem.tail _ (List.Mem.tail _ (List.Mem.tail _ (List.Mem.tail _ (List.Mem.tail _ (List.Mem.tail _ (List.Mem.tail _ (List.Mem.tail _ (List.Mem.tail _ (List.Mem.tail _ (List.Mem.tail _ (List.Mem.tail _ (List.Mem.tail _ (List.Mem.tail _ (List.Mem.tail _ (List.Mem.tail _ (List.Mem.tail _ (List.Mem.tail _ (List.Mem.tail _ (List.Mem.head _)))))))))))))))))))))))))))))))))))))))))))))))))))))))))))))))))))))))))) => sx_k321_74
  | _, List.Mem.tail _ (List.Mem.tail _ (List.Mem.tail _ (List.Mem.tail _ (List.Mem.tail _ (List.Mem.tail _ (List.Mem.tail _ (List.Mem.tail _ (List.Mem.tail _ (List.Mem.tail _ (List.Mem.tail _ (List.Mem.tail _ (List.Mem.tail _ (List.Mem.tail _ (List.Mem.tail _ (List.Mem.tail _ (List.Mem.tail _ (List.Mem.tail _ (List.Mem.tail _ (List.Mem.tail _ (List.Mem.tail _ (List.Mem.tail _ (List.Mem.tail _ (List.Mem.tail _ (List.Mem.tail _ (List.Mem.tail _ (List.Mem.tail _ (List.Mem.tail _ (List.Mem.tail _ (List.Mem.tail _ (List.Mem.tail _ (List.Mem.tail _ (List.Mem.tail _ (List.Mem.tail _ (List.Mem.tail _ (List.Mem.tail _ (List.Mem.tail _ (List.Mem.tail _ (List.Mem.tail _ (List.Mem.tail _ (List.Mem.tail _ (List.Mem.tail _ (List.Mem.tail _ (List.Mem.tail _ (List.Mem.tail _ (List.Mem.tail _ (List.Mem.tail _ (List.Mem.tail _ (List.Mem.tail _ (List.Mem.tail _ (List.Mem.tail _ (List.Mem.tail _ (List.Mem.tail _ (List.Mem.tail _ (List.Mem.tail _ (List.Mem.tail _ (List.Mem.tail _ (List.Mem.tail _ (List.Mem.tail _ (List.Mem.tail _ (List.Mem.tail _ (List.Mem.tail _ (List.Mem.tail _ (List.Mem.tail _ (List.Mem.tail _ (List.Mem.tail _ (List.Mem.tail _ (List.Mem.tail _ (List.Mem.tail _ (List.Mem.tail _ (List.Mem.tail _ (List.Mem.tail _ (List.Mem.tail _ (List.Mem.tail _ (List.Mem.tail _ (List.Mem.head _))))))))))))))))))))))))))))))))))))))))))))))))))))))))))))))))))))))))))) => sx_k321_75
  | _, List.Mem.tail _ (List.Mem.tail _ (List.Mem.tail _ (List.Mem.tail _ (List.Mem.tail _ (List.Mem.tail _ (List.Mem.tail _ (List.Mem.tail _ (List.Mem.tail _ (List.Mem.tail _ (List.Mem.tail _ (List.Mem.tail _ (List.Mem.tail _ (List.Mem.tail _ (List.Mem.tail _ (List.Mem.tail _ (List.Mem.tail _ (List.Mem.tail _ (List.Mem.tail _ (List.Mem.tail _ (List.Mem.tail _ (List.Mem.tail _ (List.Mem.tail _ (List.Mem.tail _ (List.Mem.tail _ (List.Mem.tail _ (List.Mem.tail _ (List.Mem.tail _ (List.Mem.tail _ (List.Mem.tail _ (List.Mem.tail _ (List.Mem.tail _ (List.Mem.tail _ (List.Mem.tail _ (List.Mem.tail _ (List.Mem.tail _ (List.Mem.tail _ (List.Mem.tail _ (List.Mem.tail _ (List.Mem.tail _ (List.Mem.tail _ (List.Mem.tail _ (List.Mem.tail _ (List.Mem.tail _ (List.Mem.tail _ (List.Mem.tail _ (List.Mem.tail _ (List.Mem.tail _ (List.Mem.tail _ (List.Mem.tail _ (List.Mem.tail _ (List.Mem.tail _ (List.Mem.tail _ (List.Mem.tail _ (List.Mem.tail _ (List.Mem.tail _ (List.Mem.tail _ (List.Mem.tail _ (List.Mem.tail _ (List.Mem.tail _ (List.Mem.tail _ (List.Mem.tail _ (List.Mem.tail _ (List.Mem.tail _ (List.Mem.tail _ (List.Mem.tail _ (List.Mem.tail _ (List.Mem.tail _ (List.Mem.tail _ (List.Mem.tail _ (List.Mem.tail _ (List.Mem.tail _ (List.Mem.tail _ (List.Mem.tail _ (List.Mem.tail _ (List.Mem.tail _ (List.Mem.head _)))))))))))))))))))))))))))))))))))))))))))))))))))))))))))))))))))))))))))) => sx_k321_76)
theorem sx_w322 (h : sx_TcOK l ρ sx_tc 322) : sx_CtOK l ρ 254 sx_c322 := sx_ck_ok (z := sx_z322) h sx_k322 (fun t ht => (by cases ht))
theorem sx_w323 (h : sx_TcOK l ρ sx_tc 323) : sx_CtOK l ρ 254 sx_c323 := sx_ck_ok (z := sx_z323) h sx_k323 (fun t ht => (by cases ht))
theorem sx_w324 (h : sx_TcOK l ρ sx_tc 324) : sx_CtOK l ρ 255 sx_c324 := sx_ck_ok (z := sx_z324) h sx_k324 (fun t ht => match t, ht with
  | _, List.Mem.head _ => sx_k324_0
  | _, List.Mem.tail _ (List.Mem.head _) => sx_k324_1)
theorem sx_w325 (h : sx_TcOK l ρ sx_tc 325) : sx_CtOK l ρ 256 sx_c325 := sx_ck_ok (z := sx_z325) h sx_k325 (fun t ht => (by cases ht))
theorem sx_w326 (h : sx_TcOK l ρ sx_tc 326) : sx_CtOK l ρ 257 sx_c326 := sx_ck_ok (z := sx_z326) h sx_k326 (fun t ht => match t, ht with
  | _, List.Mem.head _ => sx_k326_0
  | _, List.Mem.tail _ (List.Mem.head _) => sx_k326_1
  | _, List.Mem.tail _ (List.Mem.tail _ (List.Mem.head _)) => sx_k326_2
  | _, List.Mem.tail _ (List.Mem.tail _ (List.Mem.tail _ (List.Mem.head _))) => sx_k326_3
  | _, List.Mem.tail _ (List.Mem.tail _ (List.Mem.tail _ (List.Mem.tail _ (List.Mem.head _)))) => sx_k326_4
  | _, List.Mem.tail _ (List.Mem.tail _ (List.Mem.tail _ (List.Mem.tail _ (List.Mem.tail _ (List.Mem.head _))))) => sx_k326_5
  | _, List.Mem.tail _ (List.Mem.tail _ (List.Mem.tail _ (List.Mem.tail _ (List.Mem.tail _ (List.Mem.tail _ (List.Mem.head _)))))) => sx_k326_6
  | _, List.Mem.tail _ (List.Mem.tail _ (List.Mem.tail _ (List.Mem.tail _ (List.Mem.tail _ (List.Mem.tail _ (List.Mem.tail _ (List.Mem.head _))))))) => sx_k326_7
  | _, List.Mem.tail _ (List.Mem.tail _ (List.Mem.tail _ (List.Mem.tail _ (List.Mem.tail _ (List.Mem.tail _ (List.Mem.tail _ (List.Mem.tail _ (List.Mem.head _)))))))) => sx_k326_8
  | _, List.Mem.tail _ (List.Mem.tail _ (List.Mem.tail _ (List.Mem.tail _ (List.Mem.tail _ (List.Mem.tail _ (List.Mem.tail _ (List.Mem.tail _ (List.Mem.tail _ (List.Mem.head _))))))))) => sx_k326_9
  | _, List.Mem.tail _ (List.Mem.tail _ (List.Mem.tail _ (List.Mem.tail _ (List.Mem.tail _ (List.Mem.tail _ (List.Mem.tail _ (List.Mem.tail _ (List.Mem.tail _ (List.Mem.tail _ (List.Mem.head _)))))))))) => sx_k326_10
  | _, List.Mem.tail _ (List.Mem.tail _ (List.Mem.tail _ (List.Mem.tail _ (List.Mem.tail _ (List.Mem.tail _ (List.Mem.tail _ (List.Mem.tail _ (List.Mem.tail _ (List.Mem.tail _ (List.Mem.tail _ (List.Mem.head _))))))))))) => sx_k326_11
  | _, List.Mem.tail _ (List.Mem.tail _ (List.Mem.tail _ (List.Mem.tail _ (List.Mem.tail _ (List.Mem.tail _ (List.Mem.tail _ (List.Mem.tail _ (List.Mem.tail _ (List.Mem.tail _ (List.Mem.tail _ (List.Mem.tail _ (List.Mem.head _)))))))))))) => sx_k326_12
  | _, List.Mem.tail _ (List.Mem.tail _ (List.Mem.tail _ (List.Mem.tail _ (List.Mem.tail _ (List.Mem.tail _ (List.Mem.tail _ (List.Mem.tail _ (List.Mem.tail _ (List.Mem.tail _ (List.Mem.tail _ (List.Mem.tail _ (List.Mem.tail _ (List.Mem.head _))))))))))))) => sx_k326_13
  | _, List.Mem.tail _ (List.Mem.tail _ (List.Mem.tail _ (List.Mem.tail _ (List.Mem.tail _ (List.Mem.tail _ (List.Mem.tail _ (List.Mem.tail _ (List.Mem.tail _ (List.Mem.tail _ (List.Mem.tail _ (List.Mem.tail _ (List.Mem.tail _ (List.Mem.tail _ (List.Mem.head _)))))))))))))) => sx_k326_14
  | _, List.Mem.tail _ (List.Mem.tail _ (List.Mem.tail _ (List.Mem.tail _ (List.Mem.tail _ (List.Mem.tail _ (List.Mem.tail _ (List.Mem.tail _ (List.Mem.tail _ (List.Mem.tail _ (List.Mem.tail _ (List.Mem.tail _ (List.Mem.tail _ (List.Mem.tail _ (List.Mem.tail _ (List.Mem.head _))))))))))))))) => sx_k326_15)
theorem sx_w327 (h : sx_TcOK l ρ sx_tc 327) : sx_CtOK l ρ 259 sx_c327 := sx_ck_ok (z := sx_z327) h sx_k327 (fun t ht => (by cases ht))
theorem sx_w328 (h : sx_TcOK l ρ sx_tc 328) : sx_CtOK l ρ 260 sx_c328 := sx_ck_ok (z := sx_z328) h sx_k328 (fun t ht => (by cases ht))
theorem sx_w329 (h : sx_TcOK l ρ sx_tc 329) : sx_CtOK l ρ 261 sx_c329 := sx_ck_ok (z := sx_z329) h sx_k329 (fun t ht => (by cases ht))
theorem sx_w330 (h : sx_TcOK l ρ sx_tc 330) : sx_CtOK l ρ 265 sx_c330 := sx_ck_ok (z := sx_z330) h sx_k330 (fun t ht => (by cases ht))
theorem sx_w331 (h : sx_TcOK l ρ sx_tc 331) : sx_CtOK l ρ 278 sx_c331 := sx_ck_ok (z := sx_z331) h sx_k331 (fun t ht => match t, ht with
  | _, List.Mem.head _ => sx_k331_0)
theorem sx_w332 (h : sx_TcOK l ρ sx_tc 332) : sx_CtOK l ρ 267 sx_c332 := sx_ck_ok (z := sx_z332) h sx_k332 (fun t ht => match t, ht with
  | _, List.Mem.head _ => sx_k332_0
  | _, List.Mem.tail _ (List.Mem.head _) => sx_k332_1)
theorem sx_w333 (h : sx_TcOK l ρ sx_tc 333) : sx_CtOK l ρ 279 sx_c333 := sx_ck_ok (z := sx_z333) h sx_k333 (fun t ht => match t, ht with
  | _, List.Mem.head _ => sx_k333_0
  | _, List.Mem.tail _ (List.Mem.head _) => sx_k333_1
  | _, List.Mem.tail _ (List.Mem.tail _ (List.Mem.head _)) => sx_k333_2
  | _, List.Mem.tail _ (List.Mem.tail _ (List.Mem.tail _ (List.Mem.head _))) => sx_k333_3
  | _, List.Mem.tail _ (List.Mem.tail _ (List.Mem.tail _ (List.Mem.tail _ (List.Mem.head _)))) => sx_k333_4)
theorem sx_w334 (h : sx_TcOK l ρ sx_tc 334) : sx_CtOK l ρ 279 sx_c334 := sx_ck_ok (z := sx_z334) h sx_k334 (fun t ht => match t, ht with
  | _, List.Mem.head _ => sx_k334_0
  | _, List.Mem.tail _ (List.Mem.head _) => sx_k334_1
  | _, List.Mem.tail _ (List.Mem.tail _ (List.Mem.head _)) => sx_k334_2
  | _, List.Mem.tail _ (List.Mem.tail _ (List.Mem.tail _ (List.Mem.head _))) => sx_k334_3
  | _, List.Mem.tail _ (List.Mem.tail _ (List.Mem.tail _ (List.Mem.tail _ (List.Mem.head _)))) => sx_k334_4)
theorem sx_w335 (h : sx_TcOK l ρ sx_tc 335) : sx_CtOK l ρ 268 sx_c335 := sx_ck_ok (z := sx_z335) h sx_k335 (fun t ht => (by cases ht))
theorem sx_w336 (h : sx_TcOK l ρ sx_tc 336) : sx_CtOK l ρ 271 sx_c336 := sx_ck_ok (z := sx_z336) h sx_k336 (fun t ht => (by cases ht))
theorem sx_w337 (h : sx_TcOK l ρ sx_tc 337) : sx_CtOK l ρ 273 sx_c337 := sx_ck_ok (z := sx_z337) h sx_k337 (fun t ht => (by cases ht))
theorem sx_w338 (h : sx_TcOK l ρ sx_tc 338) : sx_CtOK l ρ 274 sx_c338 := sx_ck_ok (z := sx_z338) h sx_k338 (fun t ht => (by cases ht))
theorem sx_w339 (h : sx_TcOK l ρ sx_tc 339) : sx_CtOK l ρ 275 sx_c339 := sx_ck_ok (z := sx_z339) h sx_k339 (fun t ht => (by cases ht))
theorem sx_w340 (h : sx_TcOK l ρ sx_tc 340) : sx_CtOK l ρ 276 sx_c340 := sx_ck_ok (z := sx_z340) h sx_k340 (fun t ht => (by cases ht))
theorem sx_w341 (h : sx_TcOK l ρ sx_tc 341) : sx_CtOK l ρ 280 sx_c341 := sx_ck_ok (z := sx_z341) h sx_k341 (fun t ht => match t, ht with
  | _, List.Mem.head _ => sx_k341_0)
theorem sx_w342 (h : sx_TcOK l ρ sx_tc 342) : sx_CtOK l ρ 281 sx_c342 := sx_ck_ok (z := sx_z342) h sx_k342 (fun t ht => match t, ht with
  | _, List.Mem.head _ => sx_k342_0
  | _, List.Mem.tail _ (List.Mem.head _) => sx_k342_1
  | _, List.Mem.tail _ (List.Mem.tail _ (List.Mem.head _)) => sx_k342_2
  | _, List.Mem.tail _ (List.Mem.tail _ (List.Mem.tail _ (List.Mem.head _))) => sx_k342_3)
theorem sx_w343 (h : sx_TcOK l ρ sx_tc 343) : sx_CtOK l ρ 284 sx_c343 := sx_ck_ok (z := sx_z343) h sx_k343 (fun t ht => (by cases ht))
theorem sx_w344 (h : sx_TcOK l ρ sx_tc 344) : sx_CtOK l ρ 285 sx_c344 := sx_ck_ok (z := sx_z344) h sx_k344 (fun t ht => match t, ht with
  | _, List.Mem.head _ => sx_k344_0
  | _, List.Mem.tail _ (List.Mem.head _) => sx_k344_1
  | _, List.Mem.tail _ (List.Mem.tail _ (List.Mem.head _)) => sx_k344_2
  | _, List.Mem.tail _ (List.Mem.tail _ (List.Mem.tail _ (List.Mem.head _))) => sx_k344_3
  | _, List.Mem.tail _ (List.Mem.tail _ (List.Mem.tail _ (List.Mem.tail _ (List.Mem.head _)))) => sx_k344_4
  | _, List.Mem.tail _ (List.Mem.tail _ (List.Mem.tail _ (List.Mem.tail _ (List.Mem.tail _ (List.Mem.head _))))) => sx_k344_5
  | _, List.Mem.tail _ (List.Mem.tail _ (List.Mem.tail _ (List.Mem.tail _ (List.Mem.tail _ (List.Mem.tail _ (List.Mem.head _)))))) => sx_k344_6
  | _, List.Mem.tail _ (List.Mem.tail _ (List.Mem.tail _ (List.Mem.tail _ (List.Mem.tail _ (List.Mem.tail _ (List.Mem.tail _ (List.Mem.head _))))))) => sx_k344_7
  | _, List.Mem.tail _ (List.Mem.tail _ (List.Mem.tail _ (List.Mem.tail _ (List.Mem.tail _ (List.Mem.tail _ (List.Mem.tail _ (List.Mem.tail _ (List.Mem.head _)))))))) => sx_k344_8
  | _, List.Mem.tail _ (List.Mem.tail _ (List.Mem.tail _ (List.Mem.tail _ (List.Mem.tail _ (List.Mem.tail _ (List.Mem.tail _ (List.Mem.tail _ (List.Mem.tail _ (List.Mem.head _))))))))) => sx_k344_9
  | _, List.Mem.tail _ (List.Mem.tail _ (List.Mem.tail _ (List.Mem.tail _ (List.Mem.tail _ (List.Mem.tail _ (List.Mem.tail _ (List.Mem.tail _ (List.Mem.tail _ (List.Mem.tail _ (List.Mem.head _)))))))))) => sx_k344_10
  | _, List.Mem.tail _ (List.Mem.tail _ (List.Mem.tail _ (List.Mem.tail _ (List.Mem.tail _ (List.Mem.tail _ (List.Mem.tail _ (List.Mem.tail _ (List.Mem.tail _ (List.Mem.tail _ (List.Mem.tail _ (List.Mem.head _))))))))))) => sx_k344_11
  | _, List.Mem.tail _ (List.Mem.tail _ (List.Mem.tail _ (List.Mem.tail _ (List.Mem.tail _ (List.Mem.tail _ (List.Mem.tail _ (List.Mem.tail _ (List.Mem.tail _ (List.Mem.tail _ (List.Mem.tail _ (List.Mem.tail _ (List.Mem.head _)))))))))))) => sx_k344_12
  | _, List.Mem.tail _ (List.Mem.tail _ (List.Mem.tail _ (List.Mem.tail _ (List.Mem.tail _ (List.Mem.tail _ (List.Mem.tail _ (List.Mem.tail _ (List.Mem.tail _ (List.Mem.tail _ (List.Mem.tail _ (List.Mem.tail _ (List.Mem.tail _ (List.Mem.head _))))))))))))) => sx_k344_13
  | _, List.Mem.tail _ (List.Mem.tail _ (List.Mem.tail _ (List.Mem.tail _ (List.Mem.tail _ (List.Mem.tail _ (List.Mem.tail _ (List.Mem.tail _ (List.Mem.tail _ (List.Mem.tail _ (List.Mem.tail _ (List.Mem.tail _ (List.Mem.tail _ (List.Mem.tail _ (List.Mem.head _)))))))))))))) => sx_k344_14
  | _, List.Mem.tail _ (List.Mem.tail _ (List.Mem.tail _ (List.Mem.tail _ (List.Mem.tail _ (List.Mem.tail _ (List.Mem.tail _ (List.Mem.tail _ (List.Mem.tail _ (List.Mem.tail _ (List.Mem.tail _ (List.Mem.tail _ (List.Mem.tail _ (List.Mem.tail _ (List.Mem.tail _ (List.Mem.head _))))))))))))))) => sx_k344_15
  | _, List.Mem.tail _ (List.Mem.tail _ (List.Mem.tail _ (List.Mem.tail _ (List.Mem.tail _ (List.Mem.tail _ (List.Mem.tail _ (List.Mem.tail _ (List.Mem.tail _ (List.Mem.tail _ (List.Mem.tail _ (List.Mem.tail _ (List.Mem.tail _ (List.Mem.tail _ (List.Mem.tail _ (List.Mem.tail _ (List.Mem.head _)))))))))))))))) => sx_k344_16
  | _, List.Mem.tail _ (List.Mem.tail _ (List.Mem.tail _ (List.Mem.tail _ (List.Mem.tail _ (List.Mem.tail _ (List.Mem.tail _ (List.Mem.tail _ (List.Mem.tail _ (List.Mem.tail _ (List.Mem.tail _ (List.Mem.tail _ (List.Mem.tail _ (List.Mem.tail _ (List.Mem.tail _ (List.Mem.tail _ (List.Mem.tail _ (List.Mem.head _))))))))))))))))) => sx_k344_17
  | _, List.Mem.tail _ (List.Mem.tail _ (List.Mem.tail _ (List.Mem.tail _ (List.Mem.tail _ (List.Mem.tail _ (List.Mem.tail _ (List.Mem.tail _ (List.Mem.tail _ (List.Mem.tail _ (List.Mem.tail _ (List.Mem.tail _ (List.Mem.tail _ (List.Mem.tail _ (List.Mem.tail _ (List.Mem.tail _ (List.Mem.tail _ (List.Mem.tail _ (List.Mem.head _)))))))))))))))))) => sx_k344_18
  | _, List.Mem.tail _ (List.Mem.tail _ (List.Mem.tail _ (List.Mem.tail _ (List.Mem.tail _ (List.Mem.tail _ (List.Mem.tail _ (List.Mem.tail _ (List.Mem.tail _ (List.Mem.tail _ (List.Mem.tail _ (List.Mem.tail _ (List.Mem.tail _ (List.Mem.tail _ (List.Mem.tail _ (List.Mem.tail _ (List.Mem.tail _ (List.Mem.tail _ (List.Mem.tail _ (List.Mem.head _))))))))))))))))))) => sx_k344_19
  | _, List.Mem.tail _ (List.Mem.tail _ (List.Mem.tail _ (List.Mem.tail _ (List.Mem.tail _ (List.Mem.tail _ (List.Mem.tail _ (List.Mem.tail _ (List.Mem.tail _ (List.Mem.tail _ (List.Mem.tail _ (List.Mem.tail _ (List.Mem.tail _ (List.Mem.tail _ (List.Mem.tail _ (List.Mem.tail _ (List.Mem.tail _ (List.Mem.tail _ (List.Mem.tail _ (List.Mem.tail _ (List.Mem.head _)))))))))))))))))))) => sx_k344_20
  | _, List.Mem.tail _ (List.Mem.tail _ (List.Mem.tail _ (List.Mem.tail _ (List.Mem.tail _ (List.Mem.tail _ (List.Mem.tail _ (List.Mem.tail _ (List.Mem.tail _ (List.Mem.tail _ (List.Mem.tail _ (List.Mem.tail _ (List.Mem.tail _ (List.Mem.tail _ (List.Mem.tail _ (List.Mem.tail _ (List.Mem.tail _ (List.Mem.tail _ (List.Mem.tail _ (List.Mem.tail _ (List.Mem.tail _ (List.Mem.head _))))))))))))))))))))) => sx_k344_21
  | _, List.Mem.tail _ (List.Mem.tail _ (List.Mem.tail _ (List.Mem.tail _ (List.Mem.tail _ (List.Mem.tail _ (List.Mem.tail _ (List.Mem.tail _ (List.Mem.tail _ (List.Mem.tail _ (List.Mem.tail _ (List.Mem.tail _ (List.Mem.tail _ (List.Mem.tail _ (List.Mem.tail _ (List.Mem.tail _ (List.Mem.tail _ (List.Mem.tail _ (List.Mem.tail _ (List.Mem.tail _ (List.Mem.tail _ (List.Mem.tail _ (List.Mem.head _)))))))))))))))))))))) => sx_k344_22
  | _, List.Mem.tail _ (List.Mem.tail _ (List.Mem.tail _ (List.Mem.tail _ (List.Mem.tail _ (List.Mem.tail _ (List.Mem.tail _ (List.Mem.tail _ (List.Mem.tail _ (List.Mem.tail _ (List.Mem.tail _ (List.Mem.tail _ (List.Mem.tail _ (List.Mem.tail _ (List.Mem.tail _ (List.Mem.tail _ (List.Mem.tail _ (List.Mem.tail _ (List.Mem.tail _ (List.Mem.tail _ (List.Mem.tail _ (List.Mem.tail _ (List.Mem.tail _ (List.Mem.head _))))))))))))))))))))))) => sx_k344_23
  | _, List.Mem.tail _ (List.Mem.tail _ (List.Mem.tail _ (List.Mem.tail _ (List.Mem.tail _ (List.Mem.tail _ (List.Mem.tail _ (List.Mem.tail _ (List.Mem.tail _ (List.Mem.tail _ (List.Mem.tail _ (List.Mem.tail _ (List.Mem.tail _ (List.Mem.tail _ (List.Mem.tail _ (List.Mem.tail _ (List.Mem.tail _ (List.Mem.tail _ (List.Mem.tail _ (List.Mem.tail _ (List.Mem.tail _ (List.Mem.tail _ (List.Mem.tail _ (List.Mem.tail _ (List.Mem.head _)))))))))))))))))))))))) => sx_k344_24
  | _, List.Mem.tail _ (List.Mem.tail _ (List.Mem.tail _ (List.Mem.tail _ (List.Mem.tail _ (List.Mem.tail _ (List.Mem.tail _ (List.Mem.tail _ (List.Mem.tail _ (List.Mem.tail _ (List.Mem.tail _ (List.Mem.tail _ (List.Mem.tail _ (List.Mem.tail _ (List.Mem.tail _ (List.Mem.tail _ (List.Mem.tail _ (List.Mem.tail _ (List.Mem.tail _ (List.Mem.tail _ (List.Mem.tail _ (List.Mem.tail _ (List.Mem.tail _ (List.Mem.tail _ (List.Mem.tail _ (List.Mem.head _))))))))))))))))))))))))) => sx_k344_25
  | _, List.Mem.tail _ (List.Mem.tail _ (List.Mem.tail _ (List.Mem.tail _ (List.Mem.tail _ (List.Mem.tail _ (List.Mem.tail _ (List.Mem.tail _ (List.Mem.tail _ (List.Mem.tail _ (List.Mem.tail _ (List.Mem.tail _ (List.Mem.tail _ (List.Mem.tail _ (List.Mem.tail _ (List.Mem.tail _ (List.Mem.tail _ (List.Mem.tail _ (List.Mem.tail _ (List.Mem.tail _ (List.Mem.tail _ (List.Mem.tail _ (List.Mem.tail _ (List.Mem.tail _ (List.Mem.tail _ (List.Mem.tail _ (List.Mem.head _)))))))))))))))))))))))))) => sx_k344_26
  | _, List.Mem.tail _ (List.Mem.tail _ (List.Mem.tail _ (List.Mem.tail _ (List.Mem.tail _ (List.Mem.tail _ (List.Mem.tail _ (List.Mem.tail _ (List.Mem.tail _ (List.Mem.tail _ (List.Mem.tail _ (List.Mem.tail _ (List.Mem.tail _ (List.Mem.tail _ (List.Mem.tail _ (List.Mem.tail _ (List.Mem.tail _ (List.Mem.tail _ (List.Mem.tail _ (List.Mem.tail _ (List.Mem.tail _ (List.Mem.tail _ (List.Mem.tail _ (List.Mem.tail _ (List.Mem.tail _ (List.Mem.tail _ (List.Mem.tail _ (List.Mem.head _))))))))))))))))))))))))))) => sx_k344_27
  | _, List.Mem.tail _ (List.Mem.tail _ (List.Mem.tail _ (List.Mem.tail _ (List.Mem.tail _ (List.Mem.tail _ (List.Mem.tail _ (List.Mem.tail _ (List.Mem.tail _ (List.Mem.tail _ (List.Mem.tail _ (List.Mem.tail _ (List.Mem.tail _ (List.Mem.tail _ (List.Mem.tail _ (List.Mem.tail _ (List.Mem.tail _ (List.Mem.tail _ (List.Mem.tail _ (List.Mem.tail _ (List.Mem.tail _ (List.Mem.tail _ (List.Mem.tail _ (List.Mem.tail _ (List.Mem.tail _ (List.Mem.tail _ (List.Mem.tail _ (List.Mem.tail _ (List.Mem.head _)))))))))))))))))))))))))))) => sx_k344_28
  | _, List.Mem.tail _ (List.Mem.tail _ (List.Mem.tail _ (List.Mem.tail _ (List.Mem.tail _ (List.Mem.tail _ (List.Mem.tail _ (List.Mem.tail _ (List.Mem.tail _ (List.Mem.tail _ (List.Mem.tail _ (List.Mem.tail _ (List.Mem.tail _ (List.Mem.tail _ (List.Mem.tail _ (List.Mem.tail _ (List.Mem.tail _ (List.Mem.tail _ (List.Mem.tail _ (List.Mem.tail _ (List.Mem.tail _ (List.Mem.tail _ (List.Mem.tail _ (List.Mem.tail _ (List.Mem.tail _ (List.Mem.tail _ (List.Mem.tail _ (List.Mem.tail _ (List.Mem.tail _ (List.Mem.head _))))))))))))))))))))))))))))) => sx_k344_29
  | _, List.Mem.tail _ (List.Mem.tail _ (List.Mem.tail _ (List.Mem.tail _ (List.Mem.tail _ (List.Mem.tail _ (List.Mem.tail _ (List.Mem.tail _ (List.Mem.tail _ (List.Mem.tail _ (List.Mem.tail _ (List.Mem.tail _ (List.Mem.tail _ (List.Mem.tail _ (List.Mem.tail _ (List.Mem.tail _ (List.Mem.tail _ (List.Mem.tail _ (List.Mem.tail _ (List.Mem.tail _ (List.Mem.tail _ (List.Mem.tail _ (List.Mem.tail _ (List.Mem.tail _ (List.Mem.tail _ (List.Mem.tail _ (List.Mem.tail _ (List.Mem.tail _ (List.Mem.tail _ (List.Mem.tail _ (List.Mem.head _)))))))))))))))))))))))))))))) => sx_k344_30
  | _, List.Mem.tail _ (List.Mem.tail _ (List.Mem.tail _ (List.Mem.tail _ (List.Mem.tail _ (List.Mem.tail _ (List.Mem.tail _ (List.Mem.tail _ (List.Mem.tail _ (List.Mem.tail _ (List.Mem.tail _ (List.Mem.tail _ (List.Mem.tail _ (List.Mem.tail _ (List.Mem.tail _ (List.Mem.tail _ (List.Mem.tail _ (List.Mem.tail _ (List.Mem.tail _ (List.Mem.tail _ (List.Mem.tail _ (List.Mem.tail _ (List.Mem.tail _ (List.Mem.tail _ (List.Mem.tail _ (List.Mem.tail _ (List.Mem.tail _ (List.Mem.tail _ (List.Mem.tail _ (List.Mem.tail _ (List.Mem.tail _ (List.Mem.head _))))))))))))))))))))))))))))))) => sx_k344_31
  | _, List.Mem.tail _ (List.Mem.tail _ (List.Mem.tail _ (List.Mem.tail _ (List.Mem.tail _ (List.Mem.tail _ (List.Mem.tail _ (List.Mem.tail _ (List.Mem.tail _ (List.Mem.tail _ (List.Mem.tail _ (List.Mem.tail _ (List.Mem.tail _ (List.Mem.tail _ (List.Mem.tail _ (List.Mem.tail _ (List.Mem.tail _ (List.Mem.tail _ (List.Mem.tail _ (List.Mem.tail _ (List.Mem.tail _ (List.Mem.tail _ (List.Mem.tail _ (List.Mem.tail _ (List.Mem.tail _ (List.Mem.tail _ (List.Mem.tail _ (List.Mem.tail _ (List.Mem.tail _ (List.Mem.tail _ (List.Mem.tail _ (List.Mem.tail _ (List.Mem.head _)))))))))))))))))))))))))))))))) => sx_k344_32)
theorem sx_w345 (h : sx_TcOK l ρ sx_tc 345) : sx_CtOK l ρ 287 sx_c345 := sx_ck_ok (z := sx_z345) h sx_k345 (fun t ht => match t, ht with
  | _, List.Mem.head _ => sx_k345_0
  | _, List.Mem.tail _ (List.Mem.head _) => sx_k345_1
  | _, List.Mem.tail _ (List.Mem.tail _ (List.Mem.head _)) => sx_k345_2
  | _, List.Mem.tail _ (List.Mem.tail _ (List.Mem.tail _ (List.Mem.head _))) => sx_k345_3
  | _, List.Mem.tail _ (List.Mem.tail _ (List.Mem.tail _ (List.Mem.tail _ (List.Mem.head _)))) => sx_k345_4
  | _, List.Mem.tail _ (List.Mem.tail _ (List.Mem.tail _ (List.Mem.tail _ (List.Mem.tail _ (List.Mem.head _))))) => sx_k345_5
  | _, List.Mem.tail _ (List.Mem.tail _ (List.Mem.tail _ (List.Mem.tail _ (List.Mem.tail _ (List.Mem.tail _ (List.Mem.head _)))))) => sx_k345_6
  | _, List.Mem.tail _ (List.Mem.tail _ (List.Mem.tail _ (List.Mem.tail _ (List.Mem.tail _ (List.Mem.tail _ (List.Mem.tail _ (List.Mem.head _))))))) => sx_k345_7
  | _, List.Mem.tail _ (List.Mem.tail _ (List.Mem.tail _ (List.Mem.tail _ (List.Mem.tail _ (List.Mem.tail _ (List.Mem.tail _ (List.Mem.tail _ (List.Mem.head _)))))))) => sx_k345_8)
theorem sx_w346 (h : sx_TcOK l ρ sx_tc 346) : sx_CtOK l ρ 290 sx_c346 := sx_ck_ok (z := sx_z346) h sx_k346 (fun t ht => (by cases ht))
theorem sx_w347 (h : sx_TcOK l ρ sx_tc 347) : sx_CtOK l ρ 291 sx_c347 := sx_ck_ok (z := sx_z347) h sx_k347 (fun t ht => (by cases ht))
end SXIN
