/-! CALLS: by contract, or walked in place -/
noncomputable def sx_bd : Lean.RArray rv_M := (.branch 147 (.branch 73 (.branch 36 (.branch 18 (.branch 9 (.branch 4 (.branch 2 (.branch 1 (.leaf (rb_0, 2, 3)) (.leaf (rb_1, 1, 0))) (.branch 3 (.leaf (rb_2, 1, 0)) (.leaf (rb_3, 2, 0)))) (.branch 6 (.branch 5 (.leaf (rb_4, 2, 0)) (.leaf (rb_5, 4, 2))) (.branch 7 (.leaf (rb_6, 2, 0)) (.branch 8 (.leaf (rb_7, 4, 2)) (.leaf (rb_8, 2, 0)))))) (.branch 13 (.branch 11 (.branch 10 (.leaf (rb_9, 3, 0)) (.leaf (rb_10, 2, 4))) (.branch 12 (.leaf (rb_11, 5, 0)) (.leaf (rb_12, 3, 4)))) (.branch 15 (.branch 14 (.leaf (rb_13, 1, 1)) (.leaf (rb_14, 4, 4))) (.branch 16 (.leaf (rb_15, 5, 4)) (.branch 17 (.leaf (rb_16, 9, 4)) (.leaf (rb_17, 6, 4))))))) (.branch 27 (.branch 22 (.branch 20 (.branch 19 (.leaf (rb_18, 5, 4)) (.leaf (rb_19, 5, 4))) (.branch 21 (.leaf (rb_20, 4, 4)) (.leaf (rb_21, 7, 4)))) (.branch 24 (.branch 23 (.leaf (rb_22, 4, 4)) (.leaf (rb_23, 2, 0))) (.branch 25 (.leaf (rb_24, 1, 4)) (.branch 26 (.leaf (rb_25, 4, 0)) (.leaf (rb_26, 3, 0)))))) (.branch 31 (.branch 29 (.branch 28 (.leaf (rb_27, 6, 4)) (.leaf (rb_28, 2, 0))) (.branch 30 (.leaf (rb_29, 4, 4)) (.leaf (rb_30, 6, 1)))) (.branch 33 (.branch 32 (.leaf (rb_31, 5, 4)) (.leaf (rb_32, 3, 1))) (.branch 34 (.leaf (rb_33, 2, 4)) (.branch 35 (.leaf (rb_34, 4, 1)) (.leaf (rb_35, 5, 1)))))))) (.branch 54 (.branch 45 (.branch 40 (.branch 38 (.branch 37 (.leaf (rb_36, 2, 4)) (.leaf (rb_37, 6, 1))) (.branch 39 (.leaf (rb_38, 6, 4)) (.leaf (rb_39, 6, 0)))) (.branch 42 (.branch 41 (.leaf (rb_40, 1, 4)) (.leaf (rb_41, 4, 4))) (.branch 43 (.leaf (rb_42, 3, 1)) (.branch 44 (.leaf (rb_43, 4, 4)) (.leaf (rb_44, 2, 0)))))) (.branch 49 (.branch 47 (.branch 46 (.leaf (rb_45, 3, 4)) (.leaf (rb_46, 7, 0))) (.branch 48 (.leaf (rb_47, 5, 1)) (.leaf (rb_48, 5, 0)))) (.branch 51 (.branch 50 (.leaf (rb_49, 5, 4)) (.leaf (rb_50, 6, 1))) (.branch 52 (.leaf (rb_51, 7, 1)) (.branch 53 (.leaf (rb_52, 1, 0)) (.leaf (rb_53, 4, 0))))))) (.branch 63 (.branch 58 (.branch 56 (.branch 55 (.leaf (rb_54, 2, 1)) (.leaf (rb_55, 1, 4))) (.branch 57 (.leaf (rb_56, 2, 1)) (.leaf (rb_57, 3, 1)))) (.branch 60 (.branch 59 (.leaf (rb_58, 5, 4)) (.leaf (rb_59, 1, 4))) (.branch 61 (.leaf (rb_60, 3, 4)) (.branch 62 (.leaf (rb_61, 5, 4)) (.leaf (rb_62, 2, 4)))))) (.branch 68 (.branch 65 (.branch 64 (.leaf (rb_63, 2, 1)) (.leaf (rb_64, 3, 4))) (.branch 66 (.leaf (rb_65, 2, 1)) (.branch 67 (.leaf (rb_66, 2, 1)) (.leaf (rb_67, 3, 1))))) (.branch 70 (.branch 69 (.leaf (rb_68, 3, 4)) (.leaf (rb_69, 3, 4))) (.branch 71 (.leaf (rb_70, 2, 4)) (.branch 72 (.leaf (rb_71, 5, 4)) (.leaf (rb_72, 4, 4))))))))) (.branch 110 (.branch 91 (.branch 82 (.branch 77 (.branch 75 (.branch 74 (.leaf (rb_73, 3, 1)) (.leaf (rb_74, 6, 0))) (.branch 76 (.leaf (rb_75, 5, 0)) (.leaf (rb_76, 6, 0)))) (.branch 79 (.branch 78 (.leaf (rb_77, 1, 1)) (.leaf (rb_78, 5, 1))) (.branch 80 (.leaf (rb_79, 4, 4)) (.branch 81 (.leaf (rb_80, 4, 0)) (.leaf (rb_81, 1, 4)))))) (.branch 86 (.branch 84 (.branch 83 (.leaf (rb_82, 6, 0)) (.leaf (rb_83, 5, 4))) (.branch 85 (.leaf (rb_84, 2, 4)) (.leaf (rb_85, 4, 0)))) (.branch 88 (.branch 87 (.leaf (rb_86, 6, 0)) (.leaf (rb_87, 2, 1))) (.branch 89 (.leaf (rb_88, 4, 4)) (.branch 90 (.leaf (rb_89, 2, 4)) (.leaf (rb_90, 4, 4))))))) (.branch 100 (.branch 95 (.branch 93 (.branch 92 (.leaf (rb_91, 7, 0)) (.leaf (rb_92, 5, 0))) (.branch 94 (.leaf (rb_93, 4, 1)) (.leaf (rb_94, 3, 4)))) (.branch 97 (.branch 96 (.leaf (rb_95, 2, 4)) (.leaf (rb_96, 3, 4))) (.branch 98 (.leaf (rb_97, 4, 4)) (.branch 99 (.leaf (rb_98, 6, 1)) (.leaf (rb_99, 3, 2)))))) (.branch 105 (.branch 102 (.branch 101 (.leaf (rb_100, 2, 1)) (.leaf (rb_101, 1, 4))) (.branch 103 (.leaf (rb_102, 1, 1)) (.branch 104 (.leaf (rb_103, 4, 4)) (.leaf (rb_104, 4, 4))))) (.branch 107 (.branch 106 (.leaf (rb_105, 1, 4)) (.leaf (rb_106, 1, 4))) (.branch 108 (.leaf (rb_107, 2, 4)) (.branch 109 (.leaf (rb_108, 1, 4)) (.leaf (rb_109, 4, 1)))))))) (.branch 128 (.branch 119 (.branch 114 (.branch 112 (.branch 111 (.leaf (rb_110, 2, 4)) (.leaf (rb_111, 2, 1))) (.branch 113 (.leaf (rb_112, 5, 2)) (.leaf (rb_113, 4, 2)))) (.branch 116 (.branch 115 (.leaf (rb_114, 11, 2)) (.leaf (rb_115, 5, 4))) (.branch 117 (.leaf (rb_116, 3, 4)) (.branch 118 (.leaf (rb_117, 2, 1)) (.leaf (rb_118, 4, 1)))))) (.branch 123 (.branch 121 (.branch 120 (.leaf (rb_119, 7, 0)) (.leaf (rb_120, 4, 4))) (.branch 122 (.leaf (rb_121, 7, 0)) (.leaf (rb_122, 5, 1)))) (.branch 125 (.branch 124 (.leaf (rb_123, 5, 1)) (.leaf (rb_124, 3, 1))) (.branch 126 (.leaf (rb_125, 4, 1)) (.branch 127 (.leaf (rb_126, 4, 4)) (.leaf (rb_127, 3, 0))))))) (.branch 137 (.branch 132 (.branch 130 (.branch 129 (.leaf (rb_128, 2, 0)) (.leaf (rb_129, 2, 4))) (.branch 131 (.leaf (rb_130, 3, 4)) (.leaf (rb_131, 4, 1)))) (.branch 134 (.branch 133 (.leaf (rb_132, 3, 1)) (.leaf (rb_133, 6, 1))) (.branch 135 (.leaf (rb_134, 5, 0)) (.branch 136 (.leaf (rb_135, 10, 4)) (.leaf (rb_136, 3, 0)))))) (.branch 142 (.branch 139 (.branch 138 (.leaf (rb_137, 4, 4)) (.leaf (rb_138, 9, 4))) (.branch 140 (.leaf (rb_139, 2, 0)) (.branch 141 (.leaf (rb_140, 3, 0)) (.leaf (rb_141, 3, 0))))) (.branch 144 (.branch 143 (.leaf (rb_142, 4, 0)) (.leaf (rb_143, 2, 0))) (.branch 145 (.leaf (rb_144, 2, 0)) (.branch 146 (.leaf (rb_145, 6, 0)) (.leaf (rb_146, 5, 0)))))))))) (.branch 220 (.branch 183 (.branch 165 (.branch 156 (.branch 151 (.branch 149 (.branch 148 (.leaf (rb_147, 1, 4)) (.leaf (rb_148, 4, 0))) (.branch 150 (.leaf (rb_149, 6, 0)) (.leaf (rb_150, 3, 0)))) (.branch 153 (.branch 152 (.leaf (rb_151, 1, 1)) (.leaf (rb_152, 2, 0))) (.branch 154 (.leaf (rb_153, 7, 4)) (.branch 155 (.leaf (rb_154, 1, 1)) (.leaf (rb_155, 1, 1)))))) (.branch 160 (.branch 158 (.branch 157 (.leaf (rb_156, 3, 0)) (.leaf (rb_157, 2, 0))) (.branch 159 (.leaf (rb_158, 4, 0)) (.leaf (rb_159, 4, 1)))) (.branch 162 (.branch 161 (.leaf (rb_160, 2, 0)) (.leaf (rb_161, 3, 0))) (.branch 163 (.leaf (rb_162, 2, 0)) (.branch 164 (.leaf (rb_163, 4, 0)) (.leaf (rb_164, 3, 0))))))) (.branch 174 (.branch 169 (.branch 167 (.branch 166 (.leaf (rb_165, 8, 1)) (.leaf (rb_166, 2, 0))) (.branch 168 (.leaf (rb_167, 4, 0)) (.leaf (rb_168, 4, 2)))) (.branch 171 (.branch 170 (.leaf (rb_169, 2, 1)) (.leaf (rb_170, 4, 0))) (.branch 172 (.leaf (rb_171, 6, 0)) (.branch 173 (.leaf (rb_172, 2, 1)) (.leaf (rb_173, 3, 0)))))) (.branch 178 (.branch 176 (.branch 175 (.leaf (rb_174, 1, 0)) (.leaf (rb_175, 4, 1))) (.branch 177 (.leaf (rb_176, 3, 0)) (.leaf (rb_177, 3, 4)))) (.branch 180 (.branch 179 (.leaf (rb_178, 4, 0)) (.leaf (rb_179, 4, 0))) (.branch 181 (.leaf (rb_180, 4, 1)) (.branch 182 (.leaf (rb_181, 6, 0)) (.leaf (rb_182, 2, 0)))))))) (.branch 201 (.branch 192 (.branch 187 (.branch 185 (.branch 184 (.leaf (rb_183, 3, 0)) (.leaf (rb_184, 5, 0))) (.branch 186 (.leaf (rb_185, 3, 0)) (.leaf (rb_186, 6, 1)))) (.branch 189 (.branch 188 (.leaf (rb_187, 4, 1)) (.leaf (rb_188, 6, 1))) (.branch 190 (.leaf (rb_189, 3, 1)) (.branch 191 (.leaf (rb_190, 10, 4)) (.leaf (rb_191, 2, 4)))))) (.branch 196 (.branch 194 (.branch 193 (.leaf (rb_192, 4, 2)) (.leaf (rb_193, 4, 0))) (.branch 195 (.leaf (rb_194, 3, 0)) (.leaf (rb_195, 4, 0)))) (.branch 198 (.branch 197 (.leaf (rb_196, 2, 4)) (.leaf (rb_197, 4, 0))) (.branch 199 (.leaf (rb_198, 3, 0)) (.branch 200 (.leaf (rb_199, 3, 0)) (.leaf (rb_200, 2, 0))))))) (.branch 210 (.branch 205 (.branch 203 (.branch 202 (.leaf (rb_201, 4, 0)) (.leaf (rb_202, 4, 4))) (.branch 204 (.leaf (rb_203, 2, 0)) (.leaf (rb_204, 5, 0)))) (.branch 207 (.branch 206 (.leaf (rb_205, 5, 4)) (.leaf (rb_206, 2, 0))) (.branch 208 (.leaf (rb_207, 3, 0)) (.branch 209 (.leaf (rb_208, 3, 2)) (.leaf (rb_209, 7, 4)))))) (.branch 215 (.branch 212 (.branch 211 (.leaf (rb_210, 1, 0)) (.leaf (rb_211, 2, 1))) (.branch 213 (.leaf (rb_212, 2, 0)) (.branch 214 (.leaf (rb_213, 6, 0)) (.leaf (rb_214, 3, 4))))) (.branch 217 (.branch 216 (.leaf (rb_215, 5, 0)) (.leaf (rb_216, 3, 4))) (.branch 218 (.leaf (rb_217, 5, 0)) (.branch 219 (.leaf (rb_218, 4, 0)) (.leaf (rb_219, 2, 0))))))))) (.branch 257 (.branch 238 (.branch 229 (.branch 224 (.branch 222 (.branch 221 (.leaf (rb_220, 9, 0)) (.leaf (rb_221, 4, 1))) (.branch 223 (.leaf (rb_222, 9, 0)) (.leaf (rb_223, 2, 0)))) (.branch 226 (.branch 225 (.leaf (rb_224, 8, 0)) (.leaf (rb_225, 2, 1))) (.branch 227 (.leaf (rb_226, 10, 1)) (.branch 228 (.leaf (rb_227, 1, 4)) (.leaf (rb_228, 2, 1)))))) (.branch 233 (.branch 231 (.branch 230 (.leaf (rb_229, 1, 1)) (.leaf (rb_230, 2, 1))) (.branch 232 (.leaf (rb_231, 3, 1)) (.leaf (rb_232, 5, 1)))) (.branch 235 (.branch 234 (.leaf (rb_233, 1, 1)) (.leaf (rb_234, 5, 1))) (.branch 236 (.leaf (rb_235, 2, 1)) (.branch 237 (.leaf (rb_236, 2, 1)) (.leaf (rb_237, 1, 1))))))) (.branch 247 (.branch 242 (.branch 240 (.branch 239 (.leaf (rb_238, 2, 1)) (.leaf (rb_239, 1, 1))) (.branch 241 (.leaf (rb_240, 4, 1)) (.leaf (rb_241, 2, 4)))) (.branch 244 (.branch 243 (.leaf (rb_242, 4, 0)) (.leaf (rb_243, 2, 0))) (.branch 245 (.leaf (rb_244, 4, 0)) (.branch 246 (.leaf (rb_245, 8, 4)) (.leaf (rb_246, 4, 1)))))) (.branch 252 (.branch 249 (.branch 248 (.leaf (rb_247, 4, 0)) (.leaf (rb_248, 3, 0))) (.branch 250 (.leaf (rb_249, 3, 0)) (.branch 251 (.leaf (rb_250, 5, 0)) (.leaf (rb_251, 3, 4))))) (.branch 254 (.branch 253 (.leaf (rb_252, 4, 1)) (.leaf (rb_253, 5, 4))) (.branch 255 (.leaf (rb_254, 3, 1)) (.branch 256 (.leaf (rb_255, 5, 0)) (.leaf (rb_256, 4, 0)))))))) (.branch 275 (.branch 266 (.branch 261 (.branch 259 (.branch 258 (.leaf (rb_257, 8, 1)) (.leaf (rb_258, 3, 4))) (.branch 260 (.leaf (rb_259, 2, 0)) (.leaf (rb_260, 4, 0)))) (.branch 263 (.branch 262 (.leaf (rb_261, 3, 2)) (.leaf (rb_262, 4, 1))) (.branch 264 (.leaf (rb_263, 1, 4)) (.branch 265 (.leaf (rb_264, 2, 0)) (.leaf (rb_265, 4, 0)))))) (.branch 270 (.branch 268 (.branch 267 (.leaf (rb_266, 7, 4)) (.leaf (rb_267, 8, 0))) (.branch 269 (.leaf (rb_268, 3, 1)) (.leaf (rb_269, 4, 4)))) (.branch 272 (.branch 271 (.leaf (rb_270, 3, 4)) (.leaf (rb_271, 2, 1))) (.branch 273 (.leaf (rb_272, 3, 1)) (.branch 274 (.leaf (rb_273, 2, 0)) (.leaf (rb_274, 1, 0))))))) (.branch 284 (.branch 279 (.branch 277 (.branch 276 (.leaf (rb_275, 4, 1)) (.leaf (rb_276, 3, 0))) (.branch 278 (.leaf (rb_277, 5, 4)) (.leaf (rb_278, 3, 4)))) (.branch 281 (.branch 280 (.leaf (rb_279, 3, 1)) (.leaf (rb_280, 6, 0))) (.branch 282 (.leaf (rb_281, 5, 1)) (.branch 283 (.leaf (rb_282, 7, 2)) (.leaf (rb_283, 2, 1)))))) (.branch 289 (.branch 286 (.branch 285 (.leaf (rb_284, 2, 0)) (.leaf (rb_285, 8, 0))) (.branch 287 (.leaf (rb_286, 1, 4)) (.branch 288 (.leaf (rb_287, 8, 0)) (.leaf (rb_288, 4, 4))))) (.branch 291 (.branch 290 (.leaf (rb_289, 10, 2)) (.leaf (rb_290, 3, 0))) (.branch 292 (.leaf (rb_291, 6, 1)) (.branch 293 (.leaf (rb_292, 6, 0)) (.leaf (rb_293, 3, 0)))))))))))
set_option maxRecDepth 100000 in
theorem sx_bd_l : rv_tab = (List.range 294).map (fun i => sx_bd.get i) := rfl
theorem sx_bd_ok {mi : Nat} (h : mi < 294) : rv_tab[mi]? = some (sx_bd.get mi) := by
  rw [sx_bd_l, List.getElem?_map, List.getElem?_range h]
  rfl
noncomputable def sx_spv (tb : sx_T) (cs : List sx_F) (f : sx_F) (k : Int → sx_T → List sx_F → Bool) (m : Nat) : Int → Bool := Nat.rec (motive := fun _ => Int → Bool) (fun _ => true) (fun _ ih v => sx_ad (-1) f (v, []) (fun g => sx_cd sx_sr tb cs .eq g (fun tb' cs' => k v tb' cs')) && sx_fI (v + 1) ih) m
noncomputable def sx_spj (js : List Nat) : List sx_V → (List sx_V → sx_T → List sx_F → Bool) → sx_T → List sx_F → Bool := List.rec (motive := fun _ => List sx_V → (List sx_V → sx_T → List sx_F → Bool) → sx_T → List sx_F → Bool) (fun as k tb cs => k as tb cs) (fun j _ ih as k tb cs => match rv_nth as j with
  | some (.inl (c, t :: ts)) => sx_fI (sx_lo sx_sr tb (c, t :: ts)) (fun lo => rv_fN (sx_hi sx_sr tb (c, t :: ts) - lo + 1).toNat (fun m => Nat.ble m 600 && sx_spv tb cs (c, t :: ts) (fun v tb' cs' => rv_set as j (sx_vi (v, [])) (fun as' => ih as' k tb' cs')) m lo))
  | some (.inr (.inr (.inr (k0 :: k1 :: ks)))) => (k0 :: k1 :: ks).all (fun q => rv_set as j (sx_vr [q]) (fun as' => ih as' k tb cs))
  | _ => ih as k tb cs) js
noncomputable def sx_con (tc : Lean.RArray sx_Me) (lv B i0 mi : Nat) (as : List sx_V) (k : sx_Kr) : sx_Kx := fun n tb cs hp => Nat.ble as.length 1000 && sx_spj (tc.get mi).2.1 as (fun as' tb' cs' => (tc.get mi).2.2.any (fun c => sx_use lv B i0 as' k n tb' cs' hp c)) tb cs
noncomputable def sx_inl (lv : Nat) (cal : sx_Kc) (mi : Nat) (as : List sx_V) (k : sx_Kr) : sx_Kx := fun n tb cs hp => Nat.blt mi 294 && Nat.ble (sx_wd as) (sx_bd.get mi).2.1 && sx_wk lv cal k (fun w => w) (sx_bd.get mi).1 (sx_bd.get mi).2.1 (sx_bd.get mi).2.2 5000 (sx_bd.get mi).1 (sx_loc as 0) [] n tb cs hp
noncomputable def sx_cal (tc : Lean.RArray sx_Me) (lv B i0 : Nat) (e : Nat) : sx_Kc := Nat.rec (motive := fun _ => sx_Kc) (fun mi as k => sx_con tc lv B i0 mi as k) (fun _ ih mi as k => Bool.rec (motive := fun _ => sx_Kx) (sx_con tc lv B i0 mi as k) (sx_inl lv ih mi as k) (tc.get mi).1) e
section SXB
variable {n : Nat} {tb : sx_T} {cs : List sx_F} {hp : sx_Hp} {σ : Nat → Int} {h : List rv_C} {l : Launch} {ρ : rv_ρ} {d mi : Nat}
theorem sx_spv_ok {f : sx_F} {k : Int → sx_T → List sx_F → Bool} (hS : sx_S sx_sr n tb cs σ) (hb : sx_b n f) : ∀ {m : Nat} {v : Int}, sx_spv tb cs f k m v = true → v ≤ sx_d σ f → sx_d σ f < v + m → ∃ tb' cs', k (sx_d σ f) tb' cs' = true ∧ sx_S sx_sr n tb' cs' σ := by
  intro m
  induction m with
  | zero => intro v _ h1 h2; omega
  | succ m ih =>
    intro v hh h1 h2
    replace hh : (sx_ad (-1) f (v, []) (fun g => sx_cd sx_sr tb cs .eq g (fun tb' cs' => k v tb' cs')) && sx_fI (v + 1) (fun v => sx_spv tb cs f k m v)) = true := hh
    rw [Bool.and_eq_true] at hh
    by_cases e : sx_d σ f = v
    · obtain ⟨g, g1, g2, g3⟩ := sx_ad_ok (β := Bool) (-1) f (v, [])
      rw [g1] at hh
      have dj : sx_d σ ((v, []) : sx_F) = v := by simp [sx_d, sx_dl]
      obtain ⟨tb', cs', hk, hS'⟩ := sx_cd_ok (c := .eq) hS (g3 n hb (fun q hq => by cases hq)) (show sx_d σ g = 0 by rw [g2, dj]; omega) hh.1
      exact ⟨tb', cs', by rw [e]; exact hk, hS'⟩
    · rw [sx_fI_eq] at hh
      exact ih hh.2 (by omega) (by omega)
theorem sx_vs_set {v : sx_V} {a : rv_A} : ∀ {as : List sx_V} {ac : List rv_A} {j : Nat}, sx_vs n σ as ac → ac[j]? = some a → sx_vm n σ v a → sx_vs n σ (as.set j v) ac := by
  intro as
  induction as with
  | nil => intro ac j h _ _; exact h
  | cons w t ih =>
    intro ac j h hj hv
    obtain ⟨b, s, rfl, h1, h2⟩ := sx_vs_c h
    cases j with
    | zero => simp at hj; subst hj; exact ⟨hv, h2⟩
    | succ j => exact ⟨h1, ih h2 (by simpa using hj) hv⟩
theorem sx_vs_at {v : sx_V} : ∀ {as : List sx_V} {ac : List rv_A} {j : Nat}, sx_vs n σ as ac → as[j]? = some v → ∃ a, ac[j]? = some a ∧ sx_vm n σ v a := by
  intro as
  induction as with
  | nil => intro ac j _ hj; simp at hj
  | cons w t ih =>
    intro ac j h hj
    obtain ⟨b, s, rfl, h1, h2⟩ := sx_vs_c h
    cases j with
    | zero => simp at hj; subst hj; exact ⟨b, by simp, h1⟩
    | succ j =>
      obtain ⟨a, e1, e2⟩ := ih (j := j) h2 (by simpa using hj)
      exact ⟨a, by simpa using e1, e2⟩
theorem sx_spj_ok {k : List sx_V → sx_T → List sx_F → Bool} {ac : List rv_A} : ∀ {js : List Nat} {as : List sx_V} {tb : sx_T} {cs : List sx_F}, sx_spj js as k tb cs = true → sx_S sx_sr n tb cs σ → sx_vs n σ as ac → ∃ as' tb' cs', k as' tb' cs' = true ∧ sx_S sx_sr n tb' cs' σ ∧ sx_vs n σ as' ac ∧ as'.length = as.length := by
  intro js
  induction js with
  | nil => intro as tb cs hh hS ha; exact ⟨as, tb, cs, hh, hS, ha, rfl⟩
  | cons j t ih =>
    intro as tb cs hh hS ha
    replace hh : (match rv_nth as j with
      | some (.inl (c, t0 :: ts)) => sx_fI (sx_lo sx_sr tb (c, t0 :: ts)) (fun lo => rv_fN (sx_hi sx_sr tb (c, t0 :: ts) - lo + 1).toNat (fun m => Nat.ble m 600 && sx_spv tb cs (c, t0 :: ts) (fun v tb' cs' => rv_set as j (sx_vi (v, [])) (fun as' => sx_spj t as' k tb' cs')) m lo))
      | some (.inr (.inr (.inr (k0 :: k1 :: ks)))) => (k0 :: k1 :: ks).all (fun q => rv_set as j (sx_vr [q]) (fun as' => sx_spj t as' k tb cs))
      | _ => sx_spj t as k tb cs) = true := hh
    rw [rv_nth_eq] at hh
    split at hh
    · rename_i c t0 ts hv
      rw [sx_fI_eq, rv_fN_eq, Bool.and_eq_true] at hh
      obtain ⟨a, ha1, hb, x, rfl, hx⟩ := sx_vs_at ha hv
      have hr := sx_lo_ok hS (c, t0 :: ts)
      obtain ⟨tb', cs', hk, hS'⟩ := sx_spv_ok hS hb hh.2 hr.1 (by omega)
      rw [rv_set_eq] at hk
      obtain ⟨as2, tb2, cs2, h1, h2, h3, h4⟩ := ih hk hS' (sx_vs_set ha ha1 ⟨fun q hq => (by cases hq), x, rfl, by rw [hx]; simp [sx_d, sx_dl]⟩)
      exact ⟨as2, tb2, cs2, h1, h2, h3, by rw [h4, List.length_set]⟩
    · rename_i k0 k1 ks hv
      obtain ⟨a, ha1, q, hq, rfl⟩ := sx_vs_at ha hv
      have hk := List.all_eq_true.mp hh q hq
      rw [rv_set_eq] at hk
      obtain ⟨as2, tb2, cs2, h1, h2, h3, h4⟩ := ih hk hS (sx_vs_set ha ha1 ⟨q, List.mem_cons_self, rfl⟩)
      exact ⟨as2, tb2, cs2, h1, h2, h3, by rw [h4, List.length_set]⟩
    · exact ih hh hS ha
/-- the contracts of a table that are used here hold -/
def sx_TcOK (l : Launch) (ρ : rv_ρ) (tc : Lean.RArray sx_Me) (i0 : Nat) : Prop := ∀ mi, ∀ c ∈ (tc.get mi).2.2, sx_wfc c = true ∧ (c.1 < i0 → sx_CtOK l ρ mi c)
theorem sx_con_ok {tc : Lean.RArray sx_Me} {lv B i0 : Nat} {as : List sx_V} {ac : List rv_A} {k : sx_Kr} (hT : sx_TcOK l ρ tc i0) (hB : B ≤ d) (hS : sx_St n tb cs hp σ h) (ha : sx_vs n σ as ac) (hh : sx_con tc lv B i0 mi as k n tb cs hp = true) : sx_Ct l ρ d mi ac h (sx_Qc n σ k) := by
  unfold sx_con at hh
  rw [Bool.and_eq_true] at hh
  obtain ⟨as', tb', cs', hk, hS', ha', hl⟩ := sx_spj_ok hh.2 hS.2.1 ha
  obtain ⟨c, hc, hu⟩ := List.any_eq_true.mp hk
  obtain ⟨h1, h2⟩ := hT mi c hc
  exact sx_use_ok h2 h1 hB (by rw [hl]; exact Nat.le_of_ble_eq_true hh.1) ⟨hS.1, hS', hS.2.2⟩ ha' hu
theorem sx_loc_ok : ∀ {as : List sx_V} {ac : List rv_A} (i : Nat), sx_vs n σ as ac → sx_lm n σ (sx_loc as i) (rv_loc ac i) ∧ ∀ q ∈ sx_loc as i, i ≤ q.1 := by
  intro as
  induction as with
  | nil => intro ac i h; rw [sx_vs_n h]; exact ⟨fun q hq => (by cases hq), fun q hq => (by cases hq)⟩
  | cons v t ih =>
    intro ac i h
    obtain ⟨a, s, rfl, h1, h2⟩ := sx_vs_c h
    have e1 : sx_loc (v :: t) i = (i, v) :: sx_loc t (Bool.rec (motive := fun _ => Nat) (i + 1) (i + 2) (sx_isL v)) := rfl
    have e2 : rv_loc (a :: s) i = (i, a) :: rv_loc s (if rv_isL a then i + 2 else i + 1) := rfl
    rw [sx_isL_v h1] at e2
    have e3 : (if sx_isL v then i + 2 else i + 1) = Bool.rec (motive := fun _ => Nat) (i + 1) (i + 2) (sx_isL v) := by cases sx_isL v <;> rfl
    rw [e3] at e2
    have hle : i + 1 ≤ Bool.rec (motive := fun _ => Nat) (i + 1) (i + 2) (sx_isL v) := by
      cases sx_isL v with
      | false => exact Nat.le_refl _
      | true => exact Nat.le_succ _
    obtain ⟨i1, i2⟩ := ih (Bool.rec (motive := fun _ => Nat) (i + 1) (i + 2) (sx_isL v)) h2
    rw [e1, e2]
    refine ⟨fun q hq => ?_, fun q hq => ?_⟩
    · rcases List.mem_cons.mp hq with rfl | hq
      · refine ⟨a, ?_, h1⟩
        show Bool.rec (motive := fun _ => Option rv_A) _ (some a) (i.beq i) = some a
        rw [Nat.beq_refl]
      · obtain ⟨b, h3, h4⟩ := i1 q hq
        have hne : i.beq q.1 = false := by
          cases hb : i.beq q.1 with
          | false => rfl
          | true =>
            have := Nat.eq_of_beq_eq_true hb
            have := i2 q hq
            omega
        refine ⟨b, ?_, h4⟩
        show Bool.rec (motive := fun _ => Option rv_A) _ (some a) (i.beq q.1) = some b
        rw [hne]
        exact h3
    · rcases List.mem_cons.mp hq with rfl | hq
      · exact Nat.le_refl _
      · have := i2 q hq
        omega
theorem sx_inl_ok {lv : Nat} {cal : sx_Kc} {as : List sx_V} {ac : List rv_A} {k : sx_Kr} (hC : sx_Pc l ρ d cal) (hS : sx_St n tb cs hp σ h) (ha : sx_vs n σ as ac) (hh : sx_inl lv cal mi as k n tb cs hp = true) : sx_Ct l ρ (d + 1) mi ac h (sx_Qc n σ k) := by
  unfold sx_inl at hh
  rw [Bool.and_eq_true, Bool.and_eq_true] at hh
  obtain ⟨⟨h1, h2⟩, h3⟩ := hh
  have htab := sx_bd_ok (sx_blt h1)
  refine sx_ct (body := (sx_bd.get mi).1) (nL := (sx_bd.get mi).2.1) (rt := (sx_bd.get mi).2.2) htab (by rw [sx_wd_v ha]; exact Nat.le_of_ble_eq_true h2) ?_
  refine sx_wk_ok (m0 := n) (σ0 := σ) (fun w hw => hw) hC ?_ 5000 _ ⟨[], rfl⟩ _ _ n tb cs hp σ _ _ h h3 ⟨Nat.le_refl n, sx_al_r⟩ hS (sx_loc_ok 0 ha).1 True.intro
  intro rv n' tb' cs' hp' σ' h' o hk hb hS' ho
  exact ⟨rv, n', tb', cs', hp', σ', hk, hb.2, hb.1, hS', ho⟩
theorem sx_cal_ok {tc : Lean.RArray sx_Me} {lv B i0 : Nat} (hT : sx_TcOK l ρ tc i0) : ∀ {e d : Nat}, B + e ≤ d → sx_Pc l ρ d (sx_cal tc lv B i0 e) := by
  intro e
  induction e with
  | zero =>
    intro d hd mi as k n tb cs hp σ ac h hh hS ha
    exact sx_con_ok hT hd hS ha hh
  | succ e ih =>
    intro d hd mi as k n tb cs hp σ ac h hh hS ha
    replace hh : Bool.rec (motive := fun _ => sx_Kx) (sx_con tc lv B i0 mi as k) (sx_inl lv (sx_cal tc lv B i0 e) mi as k) (tc.get mi).1 n tb cs hp = true := hh
    cases hb : (tc.get mi).1 with
    | false =>
      rw [hb] at hh
      exact sx_con_ok hT (by omega) hS ha hh
    | true =>
      rw [hb] at hh
      obtain ⟨d2, rfl⟩ : ∃ d2, d = d2 + 1 := ⟨d - 1, by omega⟩
      exact sx_inl_ok (ih (by omega)) hS ha hh
end SXB
