/-! ALL OF THEM -/
section SXIO
variable {l : Launch} {ρ : rv_ρ}
theorem sx_H_w {σ : Nat → Int} {h : List rv_C} (hH : sx_H 20000 σ [] h) : sx_H 2000000 σ [] h := ⟨hH.1, fun q hq => (by cases hq), hH.2.2.1, hH.2.2.2.1, hH.2.2.2.2⟩
theorem sx_cl1 {n a : Nat} {v : Int} (ha : a < 9) (hv : (nI (ns_n a)).toInt = v) : sx_CtOK l ρ 1 (n, 3, [(2, 0, 0, [100000 + a])], [], [([], [], [], some (false, (v, [])))]) := by
  intro d hd as h σ ham _ hH _
  cases as with
  | nil => cases ham
  | cons a0 t =>
    obtain ⟨⟨q, hq, rfl⟩, h2⟩ := ham
    cases t with
    | cons b t => cases h2
    | nil =>
      have e : q = 100000 + a := by
        rcases List.mem_cons.mp hq with e | e
        · exact e
        · cases e
      subst e
      refine ns_len_ct ha (Nat.le_trans (show 1 ≤ 3 by decide) hd) ⟨_, List.Mem.head _, σ, sx_al_r, fun i q hi => (by simp at hi), fun f hf => (by cases hf), sx_H_w hH, _, rfl, ?_⟩
      rw [hv]
      simp [sx_d, sx_dl]
theorem sx_nJ {x : Int32} {j : Nat} (h : x.toInt = (j : Int)) : x = nI j := by
  have : x = Int32.ofInt x.toInt := (Int32.ofInt_toInt x).symm
  rw [this, h]
  rfl
theorem sx_cc1 {n a j : Nat} {v : Int} (ha : a < 9) (hj : j < ns_n a) (hv : (ns_c a j).toInt = v) : sx_CtOK l ρ 0 (n, 3, [(2, 0, 0, [100000 + a]), (0, (j : Int), (j : Int), [])], [], [([], [], [], some (false, (v, [])))]) := by
  intro d hd as h σ ham _ hH _
  cases as with
  | nil => cases ham
  | cons a0 t =>
    obtain ⟨⟨q, hq, rfl⟩, h2⟩ := ham
    cases t with
    | nil => cases h2
    | cons b t =>
      obtain ⟨⟨x, rfl, hx1, hx2, hx3⟩, h3⟩ := h2
      cases t with
      | cons b t => cases h3
      | nil =>
        have e : q = 100000 + a := by
          rcases List.mem_cons.mp hq with e | e
          · exact e
          · cases e
        subst e
        rw [sx_nJ (x := x) (j := j) (by omega)]
        refine ns_cha_ct ha hj hd ⟨_, List.Mem.head _, σ, sx_al_r, fun i q hi => (by simp at hi), fun f hf => (by cases hf), sx_H_w hH, _, rfl, ?_⟩
        rw [hv]
        simp [sx_d, sx_dl]
theorem sx_cc2 {n a : Nat} {N : Nat} {u v : Int} (ha : a < 9) (hN : ns_n a = N) (hv : ∀ j, j < N → u ≤ (ns_c a j).toInt ∧ (ns_c a j).toInt ≤ v) : sx_CtOK l ρ 0 (n, 3, [(2, 0, 0, [100000 + a]), (0, 0, (N : Int) - 1, [])], [], [([(99999, u, v)], [], [], some (false, (0, [(1000000, 1)])))]) := by
  intro d hd as h σ ham _ hH _
  cases as with
  | nil => cases ham
  | cons a0 t =>
    obtain ⟨⟨q, hq, rfl⟩, h2⟩ := ham
    cases t with
    | nil => cases h2
    | cons b t =>
      obtain ⟨⟨x, rfl, hx1, hx2, hx3⟩, h3⟩ := h2
      cases t with
      | cons b t => cases h3
      | nil =>
        have e : q = 100000 + a := by
          rcases List.mem_cons.mp hq with e | e
          · exact e
          · cases e
        subst e
        have hj : x.toInt.toNat < N := by omega
        rw [sx_nJ (x := x) (j := x.toInt.toNat) (by omega)]
        have hb := hv _ hj
        refine ns_cha_ct ha (by rw [hN]; exact hj) hd ⟨_, List.Mem.head _, fun s => if s = 1000000 then (ns_c a x.toInt.toNat).toInt else σ s, fun s hs => by
          show σ s = if s = 1000000 then _ else σ s
          rw [if_neg (by omega)], fun i q hi => ?_, fun f hf => (by cases hf), ?_, _, rfl, ?_⟩
        · match i, hi with
          | 0, hi => cases hi; exact hb
          | i + 1, hi => simp at hi
        · have hs : ∀ c, c < 19000 → sx_d (fun s => if s = 1000000 then (ns_c a x.toInt.toNat).toInt else σ s) (sx_hg [] c) = sx_d σ (sx_hg [] c) := fun c hc => by
            show sx_d _ (sx_s c) = sx_d _ (sx_s c)
            rw [sx_d_s, sx_d_s, if_neg (by omega)]
          refine ⟨hH.1, fun q hq => (by cases hq), fun kk j y ht hy => ?_, fun s2 hs2 => ?_, sx_GG_cg (fun c h1 h2 => (hs c h2).symm) hH.2.2.2.2⟩
          · have hl := sx_fv_lt hH.1 hy
            rw [hs _ (by omega)]
            exact hH.2.2.1 kk j y ht hy
          · rw [hs s2 hs2]
            exact hH.2.2.2.1 s2 hs2
        · simp [sx_d, sx_dl]
theorem sx_sl_ok : ∀ c ∈ sx_cS_len, sx_CtOK l ρ 1 c := by
  intro c hc
  simp only [sx_cS_len, List.mem_cons, List.not_mem_nil, or_false] at hc
  rcases hc with rfl | rfl | rfl | rfl | rfl | rfl | rfl | rfl | rfl
  · exact sx_cl1 (a := 0) (by decide) (by decide)
  · exact sx_cl1 (a := 1) (by decide) (by decide)
  · exact sx_cl1 (a := 2) (by decide) (by decide)
  · exact sx_cl1 (a := 3) (by decide) (by decide)
  · exact sx_cl1 (a := 4) (by decide) (by decide)
  · exact sx_cl1 (a := 5) (by decide) (by decide)
  · exact sx_cl1 (a := 6) (by decide) (by decide)
  · exact sx_cl1 (a := 7) (by decide) (by decide)
  · exact sx_cl1 (a := 8) (by decide) (by decide)
theorem sx_sc_ok : ∀ c ∈ sx_cS_cha, sx_CtOK l ρ 0 c := by
  intro c hc
  simp only [sx_cS_cha, List.mem_cons, List.not_mem_nil, or_false] at hc
  rcases hc with rfl | rfl | rfl | rfl | rfl | rfl | rfl | rfl | rfl | rfl | rfl | rfl | rfl | rfl | rfl | rfl | rfl | rfl | rfl | rfl | rfl | rfl | rfl | rfl | rfl | rfl | rfl | rfl | rfl | rfl | rfl | rfl | rfl | rfl | rfl | rfl | rfl | rfl | rfl | rfl | rfl | rfl | rfl | rfl | rfl | rfl | rfl | rfl | rfl | rfl | rfl | rfl | rfl | rfl | rfl | rfl | rfl | rfl | rfl | rfl | rfl | rfl | rfl | rfl
  · exact sx_cc1 (a := 0) (j := 0) (by decide) (by decide) (by decide)
  · exact sx_cc1 (a := 0) (j := 1) (by decide) (by decide) (by decide)
  · exact sx_cc1 (a := 0) (j := 2) (by decide) (by decide) (by decide)
  · exact sx_cc1 (a := 0) (j := 3) (by decide) (by decide) (by decide)
  · exact sx_cc1 (a := 0) (j := 4) (by decide) (by decide) (by decide)
  · exact sx_cc1 (a := 0) (j := 5) (by decide) (by decide) (by decide)
  · exact sx_cc1 (a := 0) (j := 6) (by decide) (by decide) (by decide)
  · exact sx_cc1 (a := 0) (j := 7) (by decide) (by decide) (by decide)
  · exact sx_cc1 (a := 0) (j := 8) (by decide) (by decide) (by decide)
  · exact sx_cc1 (a := 0) (j := 9) (by decide) (by decide) (by decide)
  · exact sx_cc1 (a := 0) (j := 10) (by decide) (by decide) (by decide)
  · exact sx_cc1 (a := 0) (j := 11) (by decide) (by decide) (by decide)
  · exact sx_cc1 (a := 0) (j := 12) (by decide) (by decide) (by decide)
  · exact sx_cc1 (a := 0) (j := 13) (by decide) (by decide) (by decide)
  · exact sx_cc1 (a := 0) (j := 14) (by decide) (by decide) (by decide)
  · exact sx_cc1 (a := 0) (j := 15) (by decide) (by decide) (by decide)
  · exact sx_cc1 (a := 0) (j := 16) (by decide) (by decide) (by decide)
  · exact sx_cc1 (a := 0) (j := 17) (by decide) (by decide) (by decide)
  · exact sx_cc1 (a := 0) (j := 18) (by decide) (by decide) (by decide)
  · exact sx_cc1 (a := 0) (j := 19) (by decide) (by decide) (by decide)
  · exact sx_cc1 (a := 0) (j := 20) (by decide) (by decide) (by decide)
  · exact sx_cc1 (a := 0) (j := 21) (by decide) (by decide) (by decide)
  · exact sx_cc1 (a := 0) (j := 22) (by decide) (by decide) (by decide)
  · exact sx_cc1 (a := 0) (j := 23) (by decide) (by decide) (by decide)
  · exact sx_cc1 (a := 0) (j := 24) (by decide) (by decide) (by decide)
  · exact sx_cc1 (a := 0) (j := 25) (by decide) (by decide) (by decide)
  · exact sx_cc1 (a := 0) (j := 26) (by decide) (by decide) (by decide)
  · exact sx_cc1 (a := 0) (j := 27) (by decide) (by decide) (by decide)
  · exact sx_cc1 (a := 0) (j := 28) (by decide) (by decide) (by decide)
  · exact sx_cc1 (a := 0) (j := 29) (by decide) (by decide) (by decide)
  · exact sx_cc1 (a := 0) (j := 30) (by decide) (by decide) (by decide)
  · exact sx_cc1 (a := 0) (j := 31) (by decide) (by decide) (by decide)
  · exact sx_cc2 (a := 0) (N := 32) (by decide) (by decide) (by decide)
  · exact sx_cc1 (a := 1) (j := 0) (by decide) (by decide) (by decide)
  · exact sx_cc1 (a := 1) (j := 1) (by decide) (by decide) (by decide)
  · exact sx_cc1 (a := 1) (j := 2) (by decide) (by decide) (by decide)
  · exact sx_cc1 (a := 1) (j := 3) (by decide) (by decide) (by decide)
  · exact sx_cc2 (a := 1) (N := 4) (by decide) (by decide) (by decide)
  · exact sx_cc1 (a := 2) (j := 0) (by decide) (by decide) (by decide)
  · exact sx_cc1 (a := 2) (j := 1) (by decide) (by decide) (by decide)
  · exact sx_cc1 (a := 2) (j := 2) (by decide) (by decide) (by decide)
  · exact sx_cc2 (a := 2) (N := 3) (by decide) (by decide) (by decide)
  · exact sx_cc1 (a := 3) (j := 0) (by decide) (by decide) (by decide)
  · exact sx_cc1 (a := 3) (j := 1) (by decide) (by decide) (by decide)
  · exact sx_cc1 (a := 3) (j := 2) (by decide) (by decide) (by decide)
  · exact sx_cc2 (a := 3) (N := 3) (by decide) (by decide) (by decide)
  · exact sx_cc1 (a := 4) (j := 0) (by decide) (by decide) (by decide)
  · exact sx_cc1 (a := 4) (j := 1) (by decide) (by decide) (by decide)
  · exact sx_cc2 (a := 4) (N := 2) (by decide) (by decide) (by decide)
  · exact sx_cc1 (a := 5) (j := 0) (by decide) (by decide) (by decide)
  · exact sx_cc1 (a := 5) (j := 1) (by decide) (by decide) (by decide)
  · exact sx_cc1 (a := 5) (j := 2) (by decide) (by decide) (by decide)
  · exact sx_cc2 (a := 5) (N := 3) (by decide) (by decide) (by decide)
  · exact sx_cc1 (a := 6) (j := 0) (by decide) (by decide) (by decide)
  · exact sx_cc1 (a := 6) (j := 1) (by decide) (by decide) (by decide)
  · exact sx_cc1 (a := 6) (j := 2) (by decide) (by decide) (by decide)
  · exact sx_cc2 (a := 6) (N := 3) (by decide) (by decide) (by decide)
  · exact sx_cc1 (a := 7) (j := 0) (by decide) (by decide) (by decide)
  · exact sx_cc1 (a := 7) (j := 1) (by decide) (by decide) (by decide)
  · exact sx_cc1 (a := 7) (j := 2) (by decide) (by decide) (by decide)
  · exact sx_cc2 (a := 7) (N := 3) (by decide) (by decide) (by decide)
  · exact sx_cc1 (a := 8) (j := 0) (by decide) (by decide) (by decide)
  · exact sx_cc1 (a := 8) (j := 1) (by decide) (by decide) (by decide)
  · exact sx_cc2 (a := 8) (N := 2) (by decide) (by decide) (by decide)
def sx_Pq (l : Launch) (ρ : rv_ρ) (mi : Nat) (c : sx_Cn) : Prop := sx_wfc c = true ∧ (sx_TcOK l ρ sx_tc c.1 → sx_CtOK l ρ mi c)
theorem sx_slw : ∀ c ∈ sx_cS_len, sx_wfc c = true := List.all_eq_true.mp (by decide +kernel)
theorem sx_scw : ∀ c ∈ sx_cS_cha, sx_wfc c = true := List.all_eq_true.mp (by decide +kernel)
theorem sx_tq_0 : ∀ j, j < 30 → ∀ c ∈ (sx_tc.get (0 + j)).2.2, sx_Pq l ρ (0 + j) c := by
  intro j hj c hc
  match j, hj, hc with
  | 0, _, hc => exact ⟨sx_scw c hc, fun _ => sx_sc_ok c hc⟩
  | 1, _, hc => exact ⟨sx_slw c hc, fun _ => sx_sl_ok c hc⟩
  | 2, _, hc => exact absurd hc List.not_mem_nil
  | 3, _, hc =>
    replace hc : c ∈ [sx_c101, sx_c179] := hc
    simp only [List.mem_cons, List.not_mem_nil, or_false] at hc
    rcases hc with rfl | rfl
    · exact ⟨by decide +kernel, sx_w101⟩
    · exact ⟨by decide +kernel, sx_w179⟩
  | 4, _, hc => exact absurd hc List.not_mem_nil
  | 5, _, hc => exact absurd hc List.not_mem_nil
  | 6, _, hc => exact absurd hc List.not_mem_nil
  | 7, _, hc => exact absurd hc List.not_mem_nil
  | 8, _, hc => exact absurd hc List.not_mem_nil
  | 9, _, hc => exact absurd hc List.not_mem_nil
  | 10, _, hc => exact absurd hc List.not_mem_nil
  | 11, _, hc =>
    replace hc : c ∈ [sx_c100] := hc
    simp only [List.mem_cons, List.not_mem_nil, or_false] at hc
    rcases hc with rfl
    · exact ⟨by decide +kernel, sx_w100⟩
  | 12, _, hc => exact absurd hc List.not_mem_nil
  | 13, _, hc => exact absurd hc List.not_mem_nil
  | 14, _, hc => exact absurd hc List.not_mem_nil
  | 15, _, hc => exact absurd hc List.not_mem_nil
  | 16, _, hc => exact absurd hc List.not_mem_nil
  | 17, _, hc =>
    replace hc : c ∈ [sx_c105] := hc
    simp only [List.mem_cons, List.not_mem_nil, or_false] at hc
    rcases hc with rfl
    · exact ⟨by decide +kernel, sx_w105⟩
  | 18, _, hc =>
    replace hc : c ∈ [sx_c106, sx_c107, sx_c108, sx_c109, sx_c110] := hc
    simp only [List.mem_cons, List.not_mem_nil, or_false] at hc
    rcases hc with rfl | rfl | rfl | rfl | rfl
    · exact ⟨by decide +kernel, sx_w106⟩
    · exact ⟨by decide +kernel, sx_w107⟩
    · exact ⟨by decide +kernel, sx_w108⟩
    · exact ⟨by decide +kernel, sx_w109⟩
    · exact ⟨by decide +kernel, sx_w110⟩
  | 19, _, hc =>
    replace hc : c ∈ [sx_c111] := hc
    simp only [List.mem_cons, List.not_mem_nil, or_false] at hc
    rcases hc with rfl
    · exact ⟨by decide +kernel, sx_w111⟩
  | 20, _, hc => exact absurd hc List.not_mem_nil
  | 21, _, hc =>
    replace hc : c ∈ [sx_c102] := hc
    simp only [List.mem_cons, List.not_mem_nil, or_false] at hc
    rcases hc with rfl
    · exact ⟨by decide +kernel, sx_w102⟩
  | 22, _, hc =>
    replace hc : c ∈ [sx_c112, sx_c113] := hc
    simp only [List.mem_cons, List.not_mem_nil, or_false] at hc
    rcases hc with rfl | rfl
    · exact ⟨by decide +kernel, sx_w112⟩
    · exact ⟨by decide +kernel, sx_w113⟩
  | 23, _, hc => exact absurd hc List.not_mem_nil
  | 24, _, hc => exact absurd hc List.not_mem_nil
  | 25, _, hc =>
    replace hc : c ∈ [sx_c114, sx_c115] := hc
    simp only [List.mem_cons, List.not_mem_nil, or_false] at hc
    rcases hc with rfl | rfl
    · exact ⟨by decide +kernel, sx_w114⟩
    · exact ⟨by decide +kernel, sx_w115⟩
  | 26, _, hc =>
    replace hc : c ∈ [sx_c116, sx_c117] := hc
    simp only [List.mem_cons, List.not_mem_nil, or_false] at hc
    rcases hc with rfl | rfl
    · exact ⟨by decide +kernel, sx_w116⟩
    · exact ⟨by decide +kernel, sx_w117⟩
  | 27, _, hc =>
    replace hc : c ∈ [sx_c118, sx_c119] := hc
    simp only [List.mem_cons, List.not_mem_nil, or_false] at hc
    rcases hc with rfl | rfl
    · exact ⟨by decide +kernel, sx_w118⟩
    · exact ⟨by decide +kernel, sx_w119⟩
  | 28, _, hc => exact absurd hc List.not_mem_nil
  | 29, _, hc => exact absurd hc List.not_mem_nil
  | j + 30, hj, _ => omega
theorem sx_tq_1 : ∀ j, j < 30 → ∀ c ∈ (sx_tc.get (30 + j)).2.2, sx_Pq l ρ (30 + j) c := by
  intro j hj c hc
  match j, hj, hc with
  | 0, _, hc =>
    replace hc : c ∈ [sx_c121] := hc
    simp only [List.mem_cons, List.not_mem_nil, or_false] at hc
    rcases hc with rfl
    · exact ⟨by decide +kernel, sx_w121⟩
  | 1, _, hc =>
    replace hc : c ∈ [sx_c123] := hc
    simp only [List.mem_cons, List.not_mem_nil, or_false] at hc
    rcases hc with rfl
    · exact ⟨by decide +kernel, sx_w123⟩
  | 2, _, hc =>
    replace hc : c ∈ [sx_c124] := hc
    simp only [List.mem_cons, List.not_mem_nil, or_false] at hc
    rcases hc with rfl
    · exact ⟨by decide +kernel, sx_w124⟩
  | 3, _, hc => exact absurd hc List.not_mem_nil
  | 4, _, hc =>
    replace hc : c ∈ [sx_c126] := hc
    simp only [List.mem_cons, List.not_mem_nil, or_false] at hc
    rcases hc with rfl
    · exact ⟨by decide +kernel, sx_w126⟩
  | 5, _, hc =>
    replace hc : c ∈ [sx_c125] := hc
    simp only [List.mem_cons, List.not_mem_nil, or_false] at hc
    rcases hc with rfl
    · exact ⟨by decide +kernel, sx_w125⟩
  | 6, _, hc => exact absurd hc List.not_mem_nil
  | 7, _, hc =>
    replace hc : c ∈ [sx_c127, sx_c128, sx_c129, sx_c130, sx_c131, sx_c132, sx_c133, sx_c134, sx_c135, sx_c136] := hc
    simp only [List.mem_cons, List.not_mem_nil, or_false] at hc
    rcases hc with rfl | rfl | rfl | rfl | rfl | rfl | rfl | rfl | rfl | rfl
    · exact ⟨by decide +kernel, sx_w127⟩
    · exact ⟨by decide +kernel, sx_w128⟩
    · exact ⟨by decide +kernel, sx_w129⟩
    · exact ⟨by decide +kernel, sx_w130⟩
    · exact ⟨by decide +kernel, sx_w131⟩
    · exact ⟨by decide +kernel, sx_w132⟩
    · exact ⟨by decide +kernel, sx_w133⟩
    · exact ⟨by decide +kernel, sx_w134⟩
    · exact ⟨by decide +kernel, sx_w135⟩
    · exact ⟨by decide +kernel, sx_w136⟩
  | 8, _, hc =>
    replace hc : c ∈ [sx_c137] := hc
    simp only [List.mem_cons, List.not_mem_nil, or_false] at hc
    rcases hc with rfl
    · exact ⟨by decide +kernel, sx_w137⟩
  | 9, _, hc =>
    replace hc : c ∈ [sx_c139] := hc
    simp only [List.mem_cons, List.not_mem_nil, or_false] at hc
    rcases hc with rfl
    · exact ⟨by decide +kernel, sx_w139⟩
  | 10, _, hc => exact absurd hc List.not_mem_nil
  | 11, _, hc =>
    replace hc : c ∈ [sx_c145] := hc
    simp only [List.mem_cons, List.not_mem_nil, or_false] at hc
    rcases hc with rfl
    · exact ⟨by decide +kernel, sx_w145⟩
  | 12, _, hc =>
    replace hc : c ∈ [sx_c146] := hc
    simp only [List.mem_cons, List.not_mem_nil, or_false] at hc
    rcases hc with rfl
    · exact ⟨by decide +kernel, sx_w146⟩
  | 13, _, hc => exact absurd hc List.not_mem_nil
  | 14, _, hc => exact absurd hc List.not_mem_nil
  | 15, _, hc =>
    replace hc : c ∈ [sx_c147] := hc
    simp only [List.mem_cons, List.not_mem_nil, or_false] at hc
    rcases hc with rfl
    · exact ⟨by decide +kernel, sx_w147⟩
  | 16, _, hc =>
    replace hc : c ∈ [sx_c138] := hc
    simp only [List.mem_cons, List.not_mem_nil, or_false] at hc
    rcases hc with rfl
    · exact ⟨by decide +kernel, sx_w138⟩
  | 17, _, hc =>
    replace hc : c ∈ [sx_c148] := hc
    simp only [List.mem_cons, List.not_mem_nil, or_false] at hc
    rcases hc with rfl
    · exact ⟨by decide +kernel, sx_w148⟩
  | 18, _, hc =>
    replace hc : c ∈ [sx_c149] := hc
    simp only [List.mem_cons, List.not_mem_nil, or_false] at hc
    rcases hc with rfl
    · exact ⟨by decide +kernel, sx_w149⟩
  | 19, _, hc =>
    replace hc : c ∈ [sx_c150] := hc
    simp only [List.mem_cons, List.not_mem_nil, or_false] at hc
    rcases hc with rfl
    · exact ⟨by decide +kernel, sx_w150⟩
  | 20, _, hc =>
    replace hc : c ∈ [sx_c120] := hc
    simp only [List.mem_cons, List.not_mem_nil, or_false] at hc
    rcases hc with rfl
    · exact ⟨by decide +kernel, sx_w120⟩
  | 21, _, hc =>
    replace hc : c ∈ [sx_c151] := hc
    simp only [List.mem_cons, List.not_mem_nil, or_false] at hc
    rcases hc with rfl
    · exact ⟨by decide +kernel, sx_w151⟩
  | 22, _, hc => exact absurd hc List.not_mem_nil
  | 23, _, hc =>
    replace hc : c ∈ [sx_c152] := hc
    simp only [List.mem_cons, List.not_mem_nil, or_false] at hc
    rcases hc with rfl
    · exact ⟨by decide +kernel, sx_w152⟩
  | 24, _, hc => exact absurd hc List.not_mem_nil
  | 25, _, hc => exact absurd hc List.not_mem_nil
  | 26, _, hc => exact absurd hc List.not_mem_nil
  | 27, _, hc => exact absurd hc List.not_mem_nil
  | 28, _, hc => exact absurd hc List.not_mem_nil
  | 29, _, hc => exact absurd hc List.not_mem_nil
  | j + 30, hj, _ => omega
theorem sx_tq_2 : ∀ j, j < 30 → ∀ c ∈ (sx_tc.get (60 + j)).2.2, sx_Pq l ρ (60 + j) c := by
  intro j hj c hc
  match j, hj, hc with
  | 0, _, hc => exact absurd hc List.not_mem_nil
  | 1, _, hc =>
    replace hc : c ∈ [sx_c156] := hc
    simp only [List.mem_cons, List.not_mem_nil, or_false] at hc
    rcases hc with rfl
    · exact ⟨by decide +kernel, sx_w156⟩
  | 2, _, hc => exact absurd hc List.not_mem_nil
  | 3, _, hc => exact absurd hc List.not_mem_nil
  | 4, _, hc => exact absurd hc List.not_mem_nil
  | 5, _, hc => exact absurd hc List.not_mem_nil
  | 6, _, hc => exact absurd hc List.not_mem_nil
  | 7, _, hc => exact absurd hc List.not_mem_nil
  | 8, _, hc =>
    replace hc : c ∈ [sx_c158, sx_c160, sx_c162, sx_c164, sx_c166, sx_c168, sx_c170] := hc
    simp only [List.mem_cons, List.not_mem_nil, or_false] at hc
    rcases hc with rfl | rfl | rfl | rfl | rfl | rfl | rfl
    · exact ⟨by decide +kernel, sx_w158⟩
    · exact ⟨by decide +kernel, sx_w160⟩
    · exact ⟨by decide +kernel, sx_w162⟩
    · exact ⟨by decide +kernel, sx_w164⟩
    · exact ⟨by decide +kernel, sx_w166⟩
    · exact ⟨by decide +kernel, sx_w168⟩
    · exact ⟨by decide +kernel, sx_w170⟩
  | 9, _, hc =>
    replace hc : c ∈ [sx_c172] := hc
    simp only [List.mem_cons, List.not_mem_nil, or_false] at hc
    rcases hc with rfl
    · exact ⟨by decide +kernel, sx_w172⟩
  | 10, _, hc => exact absurd hc List.not_mem_nil
  | 11, _, hc =>
    replace hc : c ∈ [sx_c159, sx_c161, sx_c163, sx_c165, sx_c167, sx_c169, sx_c171] := hc
    simp only [List.mem_cons, List.not_mem_nil, or_false] at hc
    rcases hc with rfl | rfl | rfl | rfl | rfl | rfl | rfl
    · exact ⟨by decide +kernel, sx_w159⟩
    · exact ⟨by decide +kernel, sx_w161⟩
    · exact ⟨by decide +kernel, sx_w163⟩
    · exact ⟨by decide +kernel, sx_w165⟩
    · exact ⟨by decide +kernel, sx_w167⟩
    · exact ⟨by decide +kernel, sx_w169⟩
    · exact ⟨by decide +kernel, sx_w171⟩
  | 12, _, hc =>
    replace hc : c ∈ [sx_c173] := hc
    simp only [List.mem_cons, List.not_mem_nil, or_false] at hc
    rcases hc with rfl
    · exact ⟨by decide +kernel, sx_w173⟩
  | 13, _, hc =>
    replace hc : c ∈ [sx_c177] := hc
    simp only [List.mem_cons, List.not_mem_nil, or_false] at hc
    rcases hc with rfl
    · exact ⟨by decide +kernel, sx_w177⟩
  | 14, _, hc =>
    replace hc : c ∈ [sx_c153] := hc
    simp only [List.mem_cons, List.not_mem_nil, or_false] at hc
    rcases hc with rfl
    · exact ⟨by decide +kernel, sx_w153⟩
  | 15, _, hc =>
    replace hc : c ∈ [sx_c155] := hc
    simp only [List.mem_cons, List.not_mem_nil, or_false] at hc
    rcases hc with rfl
    · exact ⟨by decide +kernel, sx_w155⟩
  | 16, _, hc =>
    replace hc : c ∈ [sx_c154] := hc
    simp only [List.mem_cons, List.not_mem_nil, or_false] at hc
    rcases hc with rfl
    · exact ⟨by decide +kernel, sx_w154⟩
  | 17, _, hc => exact absurd hc List.not_mem_nil
  | 18, _, hc =>
    replace hc : c ∈ [sx_c178] := hc
    simp only [List.mem_cons, List.not_mem_nil, or_false] at hc
    rcases hc with rfl
    · exact ⟨by decide +kernel, sx_w178⟩
  | 19, _, hc => exact absurd hc List.not_mem_nil
  | 20, _, hc => exact absurd hc List.not_mem_nil
  | 21, _, hc => exact absurd hc List.not_mem_nil
  | 22, _, hc =>
    replace hc : c ∈ [sx_c180] := hc
    simp only [List.mem_cons, List.not_mem_nil, or_false] at hc
    rcases hc with rfl
    · exact ⟨by decide +kernel, sx_w180⟩
  | 23, _, hc => exact absurd hc List.not_mem_nil
  | 24, _, hc =>
    replace hc : c ∈ [sx_c181] := hc
    simp only [List.mem_cons, List.not_mem_nil, or_false] at hc
    rcases hc with rfl
    · exact ⟨by decide +kernel, sx_w181⟩
  | 25, _, hc =>
    replace hc : c ∈ [sx_c182] := hc
    simp only [List.mem_cons, List.not_mem_nil, or_false] at hc
    rcases hc with rfl
    · exact ⟨by decide +kernel, sx_w182⟩
  | 26, _, hc =>
    replace hc : c ∈ [sx_c183] := hc
    simp only [List.mem_cons, List.not_mem_nil, or_false] at hc
    rcases hc with rfl
    · exact ⟨by decide +kernel, sx_w183⟩
  | 27, _, hc =>
    replace hc : c ∈ [sx_c140] := hc
    simp only [List.mem_cons, List.not_mem_nil, or_false] at hc
    rcases hc with rfl
    · exact ⟨by decide +kernel, sx_w140⟩
  | 28, _, hc => exact absurd hc List.not_mem_nil
  | 29, _, hc => exact absurd hc List.not_mem_nil
  | j + 30, hj, _ => omega
theorem sx_tq_3 : ∀ j, j < 30 → ∀ c ∈ (sx_tc.get (90 + j)).2.2, sx_Pq l ρ (90 + j) c := by
  intro j hj c hc
  match j, hj, hc with
  | 0, _, hc =>
    replace hc : c ∈ [sx_c184] := hc
    simp only [List.mem_cons, List.not_mem_nil, or_false] at hc
    rcases hc with rfl
    · exact ⟨by decide +kernel, sx_w184⟩
  | 1, _, hc =>
    replace hc : c ∈ [sx_c185] := hc
    simp only [List.mem_cons, List.not_mem_nil, or_false] at hc
    rcases hc with rfl
    · exact ⟨by decide +kernel, sx_w185⟩
  | 2, _, hc =>
    replace hc : c ∈ [sx_c186] := hc
    simp only [List.mem_cons, List.not_mem_nil, or_false] at hc
    rcases hc with rfl
    · exact ⟨by decide +kernel, sx_w186⟩
  | 3, _, hc =>
    replace hc : c ∈ [sx_c187] := hc
    simp only [List.mem_cons, List.not_mem_nil, or_false] at hc
    rcases hc with rfl
    · exact ⟨by decide +kernel, sx_w187⟩
  | 4, _, hc => exact absurd hc List.not_mem_nil
  | 5, _, hc =>
    replace hc : c ∈ [sx_c188] := hc
    simp only [List.mem_cons, List.not_mem_nil, or_false] at hc
    rcases hc with rfl
    · exact ⟨by decide +kernel, sx_w188⟩
  | 6, _, hc =>
    replace hc : c ∈ [sx_c189] := hc
    simp only [List.mem_cons, List.not_mem_nil, or_false] at hc
    rcases hc with rfl
    · exact ⟨by decide +kernel, sx_w189⟩
  | 7, _, hc =>
    replace hc : c ∈ [sx_c193] := hc
    simp only [List.mem_cons, List.not_mem_nil, or_false] at hc
    rcases hc with rfl
    · exact ⟨by decide +kernel, sx_w193⟩
  | 8, _, hc => exact absurd hc List.not_mem_nil
  | 9, _, hc => exact absurd hc List.not_mem_nil
  | 10, _, hc => exact absurd hc List.not_mem_nil
  | 11, _, hc => exact absurd hc List.not_mem_nil
  | 12, _, hc => exact absurd hc List.not_mem_nil
  | 13, _, hc =>
    replace hc : c ∈ [sx_c194, sx_c195, sx_c196, sx_c197] := hc
    simp only [List.mem_cons, List.not_mem_nil, or_false] at hc
    rcases hc with rfl | rfl | rfl | rfl
    · exact ⟨by decide +kernel, sx_w194⟩
    · exact ⟨by decide +kernel, sx_w195⟩
    · exact ⟨by decide +kernel, sx_w196⟩
    · exact ⟨by decide +kernel, sx_w197⟩
  | 14, _, hc => exact absurd hc List.not_mem_nil
  | 15, _, hc =>
    replace hc : c ∈ [sx_c174] := hc
    simp only [List.mem_cons, List.not_mem_nil, or_false] at hc
    rcases hc with rfl
    · exact ⟨by decide +kernel, sx_w174⟩
  | 16, _, hc =>
    replace hc : c ∈ [sx_c175] := hc
    simp only [List.mem_cons, List.not_mem_nil, or_false] at hc
    rcases hc with rfl
    · exact ⟨by decide +kernel, sx_w175⟩
  | 17, _, hc =>
    replace hc : c ∈ [sx_c157] := hc
    simp only [List.mem_cons, List.not_mem_nil, or_false] at hc
    rcases hc with rfl
    · exact ⟨by decide +kernel, sx_w157⟩
  | 18, _, hc =>
    replace hc : c ∈ [sx_c176] := hc
    simp only [List.mem_cons, List.not_mem_nil, or_false] at hc
    rcases hc with rfl
    · exact ⟨by decide +kernel, sx_w176⟩
  | 19, _, hc => exact absurd hc List.not_mem_nil
  | 20, _, hc => exact absurd hc List.not_mem_nil
  | 21, _, hc => exact absurd hc List.not_mem_nil
  | 22, _, hc => exact absurd hc List.not_mem_nil
  | 23, _, hc => exact absurd hc List.not_mem_nil
  | 24, _, hc =>
    replace hc : c ∈ [sx_c191] := hc
    simp only [List.mem_cons, List.not_mem_nil, or_false] at hc
    rcases hc with rfl
    · exact ⟨by decide +kernel, sx_w191⟩
  | 25, _, hc =>
    replace hc : c ∈ [sx_c144] := hc
    simp only [List.mem_cons, List.not_mem_nil, or_false] at hc
    rcases hc with rfl
    · exact ⟨by decide +kernel, sx_w144⟩
  | 26, _, hc => exact absurd hc List.not_mem_nil
  | 27, _, hc =>
    replace hc : c ∈ [sx_c199] := hc
    simp only [List.mem_cons, List.not_mem_nil, or_false] at hc
    rcases hc with rfl
    · exact ⟨by decide +kernel, sx_w199⟩
  | 28, _, hc =>
    replace hc : c ∈ [sx_c122] := hc
    simp only [List.mem_cons, List.not_mem_nil, or_false] at hc
    rcases hc with rfl
    · exact ⟨by decide +kernel, sx_w122⟩
  | 29, _, hc =>
    replace hc : c ∈ [sx_c142] := hc
    simp only [List.mem_cons, List.not_mem_nil, or_false] at hc
    rcases hc with rfl
    · exact ⟨by decide +kernel, sx_w142⟩
  | j + 30, hj, _ => omega
theorem sx_tq_4 : ∀ j, j < 30 → ∀ c ∈ (sx_tc.get (120 + j)).2.2, sx_Pq l ρ (120 + j) c := by
  intro j hj c hc
  match j, hj, hc with
  | 0, _, hc =>
    replace hc : c ∈ [sx_c104] := hc
    simp only [List.mem_cons, List.not_mem_nil, or_false] at hc
    rcases hc with rfl
    · exact ⟨by decide +kernel, sx_w104⟩
  | 1, _, hc =>
    replace hc : c ∈ [sx_c143] := hc
    simp only [List.mem_cons, List.not_mem_nil, or_false] at hc
    rcases hc with rfl
    · exact ⟨by decide +kernel, sx_w143⟩
  | 2, _, hc =>
    replace hc : c ∈ [sx_c103] := hc
    simp only [List.mem_cons, List.not_mem_nil, or_false] at hc
    rcases hc with rfl
    · exact ⟨by decide +kernel, sx_w103⟩
  | 3, _, hc =>
    replace hc : c ∈ [sx_c141] := hc
    simp only [List.mem_cons, List.not_mem_nil, or_false] at hc
    rcases hc with rfl
    · exact ⟨by decide +kernel, sx_w141⟩
  | 4, _, hc =>
    replace hc : c ∈ [sx_c201] := hc
    simp only [List.mem_cons, List.not_mem_nil, or_false] at hc
    rcases hc with rfl
    · exact ⟨by decide +kernel, sx_w201⟩
  | 5, _, hc => exact absurd hc List.not_mem_nil
  | 6, _, hc =>
    replace hc : c ∈ [sx_c190] := hc
    simp only [List.mem_cons, List.not_mem_nil, or_false] at hc
    rcases hc with rfl
    · exact ⟨by decide +kernel, sx_w190⟩
  | 7, _, hc => exact absurd hc List.not_mem_nil
  | 8, _, hc => exact absurd hc List.not_mem_nil
  | 9, _, hc => exact absurd hc List.not_mem_nil
  | 10, _, hc => exact absurd hc List.not_mem_nil
  | 11, _, hc =>
    replace hc : c ∈ [sx_c198] := hc
    simp only [List.mem_cons, List.not_mem_nil, or_false] at hc
    rcases hc with rfl
    · exact ⟨by decide +kernel, sx_w198⟩
  | 12, _, hc => exact absurd hc List.not_mem_nil
  | 13, _, hc =>
    replace hc : c ∈ [sx_c200] := hc
    simp only [List.mem_cons, List.not_mem_nil, or_false] at hc
    rcases hc with rfl
    · exact ⟨by decide +kernel, sx_w200⟩
  | 14, _, hc => exact absurd hc List.not_mem_nil
  | 15, _, hc =>
    replace hc : c ∈ [sx_c192] := hc
    simp only [List.mem_cons, List.not_mem_nil, or_false] at hc
    rcases hc with rfl
    · exact ⟨by decide +kernel, sx_w192⟩
  | 16, _, hc => exact absurd hc List.not_mem_nil
  | 17, _, hc =>
    replace hc : c ∈ [sx_c203] := hc
    simp only [List.mem_cons, List.not_mem_nil, or_false] at hc
    rcases hc with rfl
    · exact ⟨by decide +kernel, sx_w203⟩
  | 18, _, hc =>
    replace hc : c ∈ [sx_c202] := hc
    simp only [List.mem_cons, List.not_mem_nil, or_false] at hc
    rcases hc with rfl
    · exact ⟨by decide +kernel, sx_w202⟩
  | 19, _, hc => exact absurd hc List.not_mem_nil
  | 20, _, hc => exact absurd hc List.not_mem_nil
  | 21, _, hc => exact absurd hc List.not_mem_nil
  | 22, _, hc => exact absurd hc List.not_mem_nil
  | 23, _, hc => exact absurd hc List.not_mem_nil
  | 24, _, hc => exact absurd hc List.not_mem_nil
  | 25, _, hc => exact absurd hc List.not_mem_nil
  | 26, _, hc => exact absurd hc List.not_mem_nil
  | 27, _, hc => exact absurd hc List.not_mem_nil
  | 28, _, hc => exact absurd hc List.not_mem_nil
  | 29, _, hc => exact absurd hc List.not_mem_nil
  | j + 30, hj, _ => omega
theorem sx_tq_5 : ∀ j, j < 30 → ∀ c ∈ (sx_tc.get (150 + j)).2.2, sx_Pq l ρ (150 + j) c := by
  intro j hj c hc
  match j, hj, hc with
  | 0, _, hc => exact absurd hc List.not_mem_nil
  | 1, _, hc => exact absurd hc List.not_mem_nil
  | 2, _, hc => exact absurd hc List.not_mem_nil
  | 3, _, hc => exact absurd hc List.not_mem_nil
  | 4, _, hc => exact absurd hc List.not_mem_nil
  | 5, _, hc => exact absurd hc List.not_mem_nil
  | 6, _, hc => exact absurd hc List.not_mem_nil
  | 7, _, hc => exact absurd hc List.not_mem_nil
  | 8, _, hc => exact absurd hc List.not_mem_nil
  | 9, _, hc => exact absurd hc List.not_mem_nil
  | 10, _, hc => exact absurd hc List.not_mem_nil
  | 11, _, hc => exact absurd hc List.not_mem_nil
  | 12, _, hc => exact absurd hc List.not_mem_nil
  | 13, _, hc => exact absurd hc List.not_mem_nil
  | 14, _, hc => exact absurd hc List.not_mem_nil
  | 15, _, hc =>
    replace hc : c ∈ [sx_c222] := hc
    simp only [List.mem_cons, List.not_mem_nil, or_false] at hc
    rcases hc with rfl
    · exact ⟨by decide +kernel, sx_w222⟩
  | 16, _, hc => exact absurd hc List.not_mem_nil
  | 17, _, hc => exact absurd hc List.not_mem_nil
  | 18, _, hc => exact absurd hc List.not_mem_nil
  | 19, _, hc => exact absurd hc List.not_mem_nil
  | 20, _, hc => exact absurd hc List.not_mem_nil
  | 21, _, hc => exact absurd hc List.not_mem_nil
  | 22, _, hc => exact absurd hc List.not_mem_nil
  | 23, _, hc => exact absurd hc List.not_mem_nil
  | 24, _, hc => exact absurd hc List.not_mem_nil
  | 25, _, hc => exact absurd hc List.not_mem_nil
  | 26, _, hc => exact absurd hc List.not_mem_nil
  | 27, _, hc =>
    replace hc : c ∈ [sx_c227] := hc
    simp only [List.mem_cons, List.not_mem_nil, or_false] at hc
    rcases hc with rfl
    · exact ⟨by decide +kernel, sx_w227⟩
  | 28, _, hc => exact absurd hc List.not_mem_nil
  | 29, _, hc => exact absurd hc List.not_mem_nil
  | j + 30, hj, _ => omega
theorem sx_tq_6 : ∀ j, j < 30 → ∀ c ∈ (sx_tc.get (180 + j)).2.2, sx_Pq l ρ (180 + j) c := by
  intro j hj c hc
  match j, hj, hc with
  | 0, _, hc => exact absurd hc List.not_mem_nil
  | 1, _, hc =>
    replace hc : c ∈ [sx_c228, sx_c229, sx_c230, sx_c231, sx_c232, sx_c233] := hc
    simp only [List.mem_cons, List.not_mem_nil, or_false] at hc
    rcases hc with rfl | rfl | rfl | rfl | rfl | rfl
    · exact ⟨by decide +kernel, sx_w228⟩
    · exact ⟨by decide +kernel, sx_w229⟩
    · exact ⟨by decide +kernel, sx_w230⟩
    · exact ⟨by decide +kernel, sx_w231⟩
    · exact ⟨by decide +kernel, sx_w232⟩
    · exact ⟨by decide +kernel, sx_w233⟩
  | 2, _, hc => exact absurd hc List.not_mem_nil
  | 3, _, hc => exact absurd hc List.not_mem_nil
  | 4, _, hc => exact absurd hc List.not_mem_nil
  | 5, _, hc => exact absurd hc List.not_mem_nil
  | 6, _, hc => exact absurd hc List.not_mem_nil
  | 7, _, hc =>
    replace hc : c ∈ [sx_c248] := hc
    simp only [List.mem_cons, List.not_mem_nil, or_false] at hc
    rcases hc with rfl
    · exact ⟨by decide +kernel, sx_w248⟩
  | 8, _, hc =>
    replace hc : c ∈ [sx_c249] := hc
    simp only [List.mem_cons, List.not_mem_nil, or_false] at hc
    rcases hc with rfl
    · exact ⟨by decide +kernel, sx_w249⟩
  | 9, _, hc =>
    replace hc : c ∈ [sx_c250] := hc
    simp only [List.mem_cons, List.not_mem_nil, or_false] at hc
    rcases hc with rfl
    · exact ⟨by decide +kernel, sx_w250⟩
  | 10, _, hc =>
    replace hc : c ∈ [sx_c255] := hc
    simp only [List.mem_cons, List.not_mem_nil, or_false] at hc
    rcases hc with rfl
    · exact ⟨by decide +kernel, sx_w255⟩
  | 11, _, hc =>
    replace hc : c ∈ [sx_c256] := hc
    simp only [List.mem_cons, List.not_mem_nil, or_false] at hc
    rcases hc with rfl
    · exact ⟨by decide +kernel, sx_w256⟩
  | 12, _, hc =>
    replace hc : c ∈ [sx_c252] := hc
    simp only [List.mem_cons, List.not_mem_nil, or_false] at hc
    rcases hc with rfl
    · exact ⟨by decide +kernel, sx_w252⟩
  | 13, _, hc =>
    replace hc : c ∈ [sx_c261] := hc
    simp only [List.mem_cons, List.not_mem_nil, or_false] at hc
    rcases hc with rfl
    · exact ⟨by decide +kernel, sx_w261⟩
  | 14, _, hc => exact absurd hc List.not_mem_nil
  | 15, _, hc =>
    replace hc : c ∈ [sx_c277] := hc
    simp only [List.mem_cons, List.not_mem_nil, or_false] at hc
    rcases hc with rfl
    · exact ⟨by decide +kernel, sx_w277⟩
  | 16, _, hc =>
    replace hc : c ∈ [sx_c264] := hc
    simp only [List.mem_cons, List.not_mem_nil, or_false] at hc
    rcases hc with rfl
    · exact ⟨by decide +kernel, sx_w264⟩
  | 17, _, hc =>
    replace hc : c ∈ [sx_c278] := hc
    simp only [List.mem_cons, List.not_mem_nil, or_false] at hc
    rcases hc with rfl
    · exact ⟨by decide +kernel, sx_w278⟩
  | 18, _, hc =>
    replace hc : c ∈ [sx_c251] := hc
    simp only [List.mem_cons, List.not_mem_nil, or_false] at hc
    rcases hc with rfl
    · exact ⟨by decide +kernel, sx_w251⟩
  | 19, _, hc =>
    replace hc : c ∈ [sx_c265] := hc
    simp only [List.mem_cons, List.not_mem_nil, or_false] at hc
    rcases hc with rfl
    · exact ⟨by decide +kernel, sx_w265⟩
  | 20, _, hc => exact absurd hc List.not_mem_nil
  | 21, _, hc => exact absurd hc List.not_mem_nil
  | 22, _, hc => exact absurd hc List.not_mem_nil
  | 23, _, hc => exact absurd hc List.not_mem_nil
  | 24, _, hc =>
    replace hc : c ∈ [sx_c283] := hc
    simp only [List.mem_cons, List.not_mem_nil, or_false] at hc
    rcases hc with rfl
    · exact ⟨by decide +kernel, sx_w283⟩
  | 25, _, hc =>
    replace hc : c ∈ [sx_c273] := hc
    simp only [List.mem_cons, List.not_mem_nil, or_false] at hc
    rcases hc with rfl
    · exact ⟨by decide +kernel, sx_w273⟩
  | 26, _, hc => exact absurd hc List.not_mem_nil
  | 27, _, hc => exact absurd hc List.not_mem_nil
  | 28, _, hc => exact absurd hc List.not_mem_nil
  | 29, _, hc =>
    replace hc : c ∈ [sx_c288, sx_c289, sx_c290, sx_c291, sx_c292, sx_c293] := hc
    simp only [List.mem_cons, List.not_mem_nil, or_false] at hc
    rcases hc with rfl | rfl | rfl | rfl | rfl | rfl
    · exact ⟨by decide +kernel, sx_w288⟩
    · exact ⟨by decide +kernel, sx_w289⟩
    · exact ⟨by decide +kernel, sx_w290⟩
    · exact ⟨by decide +kernel, sx_w291⟩
    · exact ⟨by decide +kernel, sx_w292⟩
    · exact ⟨by decide +kernel, sx_w293⟩
  | j + 30, hj, _ => omega
theorem sx_tq_7 : ∀ j, j < 30 → ∀ c ∈ (sx_tc.get (210 + j)).2.2, sx_Pq l ρ (210 + j) c := by
  intro j hj c hc
  match j, hj, hc with
  | 0, _, hc => exact absurd hc List.not_mem_nil
  | 1, _, hc => exact absurd hc List.not_mem_nil
  | 2, _, hc => exact absurd hc List.not_mem_nil
  | 3, _, hc => exact absurd hc List.not_mem_nil
  | 4, _, hc => exact absurd hc List.not_mem_nil
  | 5, _, hc => exact absurd hc List.not_mem_nil
  | 6, _, hc => exact absurd hc List.not_mem_nil
  | 7, _, hc => exact absurd hc List.not_mem_nil
  | 8, _, hc => exact absurd hc List.not_mem_nil
  | 9, _, hc => exact absurd hc List.not_mem_nil
  | 10, _, hc =>
    replace hc : c ∈ [sx_c298] := hc
    simp only [List.mem_cons, List.not_mem_nil, or_false] at hc
    rcases hc with rfl
    · exact ⟨by decide +kernel, sx_w298⟩
  | 11, _, hc =>
    replace hc : c ∈ [sx_c266] := hc
    simp only [List.mem_cons, List.not_mem_nil, or_false] at hc
    rcases hc with rfl
    · exact ⟨by decide +kernel, sx_w266⟩
  | 12, _, hc =>
    replace hc : c ∈ [sx_c286] := hc
    simp only [List.mem_cons, List.not_mem_nil, or_false] at hc
    rcases hc with rfl
    · exact ⟨by decide +kernel, sx_w286⟩
  | 13, _, hc => exact absurd hc List.not_mem_nil
  | 14, _, hc =>
    replace hc : c ∈ [sx_c300] := hc
    simp only [List.mem_cons, List.not_mem_nil, or_false] at hc
    rcases hc with rfl
    · exact ⟨by decide +kernel, sx_w300⟩
  | 15, _, hc => exact absurd hc List.not_mem_nil
  | 16, _, hc =>
    replace hc : c ∈ [sx_c254] := hc
    simp only [List.mem_cons, List.not_mem_nil, or_false] at hc
    rcases hc with rfl
    · exact ⟨by decide +kernel, sx_w254⟩
  | 17, _, hc => exact absurd hc List.not_mem_nil
  | 18, _, hc => exact absurd hc List.not_mem_nil
  | 19, _, hc => exact absurd hc List.not_mem_nil
  | 20, _, hc => exact absurd hc List.not_mem_nil
  | 21, _, hc => exact absurd hc List.not_mem_nil
  | 22, _, hc =>
    replace hc : c ∈ [sx_c257] := hc
    simp only [List.mem_cons, List.not_mem_nil, or_false] at hc
    rcases hc with rfl
    · exact ⟨by decide +kernel, sx_w257⟩
  | 23, _, hc => exact absurd hc List.not_mem_nil
  | 24, _, hc =>
    replace hc : c ∈ [sx_c301] := hc
    simp only [List.mem_cons, List.not_mem_nil, or_false] at hc
    rcases hc with rfl
    · exact ⟨by decide +kernel, sx_w301⟩
  | 25, _, hc => exact absurd hc List.not_mem_nil
  | 26, _, hc => exact absurd hc List.not_mem_nil
  | 27, _, hc => exact absurd hc List.not_mem_nil
  | 28, _, hc => exact absurd hc List.not_mem_nil
  | 29, _, hc => exact absurd hc List.not_mem_nil
  | j + 30, hj, _ => omega
theorem sx_tq_8 : ∀ j, j < 30 → ∀ c ∈ (sx_tc.get (240 + j)).2.2, sx_Pq l ρ (240 + j) c := by
  intro j hj c hc
  match j, hj, hc with
  | 0, _, hc =>
    replace hc : c ∈ [sx_c258, sx_c259, sx_c302, sx_c303, sx_c304, sx_c305, sx_c306, sx_c307] := hc
    simp only [List.mem_cons, List.not_mem_nil, or_false] at hc
    rcases hc with rfl | rfl | rfl | rfl | rfl | rfl | rfl | rfl
    · exact ⟨by decide +kernel, sx_w258⟩
    · exact ⟨by decide +kernel, sx_w259⟩
    · exact ⟨by decide +kernel, sx_w302⟩
    · exact ⟨by decide +kernel, sx_w303⟩
    · exact ⟨by decide +kernel, sx_w304⟩
    · exact ⟨by decide +kernel, sx_w305⟩
    · exact ⟨by decide +kernel, sx_w306⟩
    · exact ⟨by decide +kernel, sx_w307⟩
  | 1, _, hc =>
    replace hc : c ∈ [sx_c284] := hc
    simp only [List.mem_cons, List.not_mem_nil, or_false] at hc
    rcases hc with rfl
    · exact ⟨by decide +kernel, sx_w284⟩
  | 2, _, hc =>
    replace hc : c ∈ [sx_c309] := hc
    simp only [List.mem_cons, List.not_mem_nil, or_false] at hc
    rcases hc with rfl
    · exact ⟨by decide +kernel, sx_w309⟩
  | 3, _, hc => exact absurd hc List.not_mem_nil
  | 4, _, hc =>
    replace hc : c ∈ [sx_c312] := hc
    simp only [List.mem_cons, List.not_mem_nil, or_false] at hc
    rcases hc with rfl
    · exact ⟨by decide +kernel, sx_w312⟩
  | 5, _, hc =>
    replace hc : c ∈ [sx_c268] := hc
    simp only [List.mem_cons, List.not_mem_nil, or_false] at hc
    rcases hc with rfl
    · exact ⟨by decide +kernel, sx_w268⟩
  | 6, _, hc => exact absurd hc List.not_mem_nil
  | 7, _, hc =>
    replace hc : c ∈ [sx_c260] := hc
    simp only [List.mem_cons, List.not_mem_nil, or_false] at hc
    rcases hc with rfl
    · exact ⟨by decide +kernel, sx_w260⟩
  | 8, _, hc => exact absurd hc List.not_mem_nil
  | 9, _, hc => exact absurd hc List.not_mem_nil
  | 10, _, hc =>
    replace hc : c ∈ [sx_c314] := hc
    simp only [List.mem_cons, List.not_mem_nil, or_false] at hc
    rcases hc with rfl
    · exact ⟨by decide +kernel, sx_w314⟩
  | 11, _, hc =>
    replace hc : c ∈ [sx_c317, sx_c318, sx_c319] := hc
    simp only [List.mem_cons, List.not_mem_nil, or_false] at hc
    rcases hc with rfl | rfl | rfl
    · exact ⟨by decide +kernel, sx_w317⟩
    · exact ⟨by decide +kernel, sx_w318⟩
    · exact ⟨by decide +kernel, sx_w319⟩
  | 12, _, hc =>
    replace hc : c ∈ [sx_c247] := hc
    simp only [List.mem_cons, List.not_mem_nil, or_false] at hc
    rcases hc with rfl
    · exact ⟨by decide +kernel, sx_w247⟩
  | 13, _, hc =>
    replace hc : c ∈ [sx_c280] := hc
    simp only [List.mem_cons, List.not_mem_nil, or_false] at hc
    rcases hc with rfl
    · exact ⟨by decide +kernel, sx_w280⟩
  | 14, _, hc =>
    replace hc : c ∈ [sx_c322, sx_c323] := hc
    simp only [List.mem_cons, List.not_mem_nil, or_false] at hc
    rcases hc with rfl | rfl
    · exact ⟨by decide +kernel, sx_w322⟩
    · exact ⟨by decide +kernel, sx_w323⟩
  | 15, _, hc =>
    replace hc : c ∈ [sx_c324] := hc
    simp only [List.mem_cons, List.not_mem_nil, or_false] at hc
    rcases hc with rfl
    · exact ⟨by decide +kernel, sx_w324⟩
  | 16, _, hc => exact absurd hc List.not_mem_nil
  | 17, _, hc =>
    replace hc : c ∈ [sx_c326] := hc
    simp only [List.mem_cons, List.not_mem_nil, or_false] at hc
    rcases hc with rfl
    · exact ⟨by decide +kernel, sx_w326⟩
  | 18, _, hc => exact absurd hc List.not_mem_nil
  | 19, _, hc => exact absurd hc List.not_mem_nil
  | 20, _, hc => exact absurd hc List.not_mem_nil
  | 21, _, hc => exact absurd hc List.not_mem_nil
  | 22, _, hc =>
    replace hc : c ∈ [sx_c320, sx_c321] := hc
    simp only [List.mem_cons, List.not_mem_nil, or_false] at hc
    rcases hc with rfl | rfl
    · exact ⟨by decide +kernel, sx_w320⟩
    · exact ⟨by decide +kernel, sx_w321⟩
  | 23, _, hc => exact absurd hc List.not_mem_nil
  | 24, _, hc => exact absurd hc List.not_mem_nil
  | 25, _, hc => exact absurd hc List.not_mem_nil
  | 26, _, hc =>
    replace hc : c ∈ [sx_c267] := hc
    simp only [List.mem_cons, List.not_mem_nil, or_false] at hc
    rcases hc with rfl
    · exact ⟨by decide +kernel, sx_w267⟩
  | 27, _, hc =>
    replace hc : c ∈ [sx_c332] := hc
    simp only [List.mem_cons, List.not_mem_nil, or_false] at hc
    rcases hc with rfl
    · exact ⟨by decide +kernel, sx_w332⟩
  | 28, _, hc =>
    replace hc : c ∈ [sx_c335] := hc
    simp only [List.mem_cons, List.not_mem_nil, or_false] at hc
    rcases hc with rfl
    · exact ⟨by decide +kernel, sx_w335⟩
  | 29, _, hc =>
    replace hc : c ∈ [sx_c269, sx_c270, sx_c271, sx_c272, sx_c274, sx_c276] := hc
    simp only [List.mem_cons, List.not_mem_nil, or_false] at hc
    rcases hc with rfl | rfl | rfl | rfl | rfl | rfl
    · exact ⟨by decide +kernel, sx_w269⟩
    · exact ⟨by decide +kernel, sx_w270⟩
    · exact ⟨by decide +kernel, sx_w271⟩
    · exact ⟨by decide +kernel, sx_w272⟩
    · exact ⟨by decide +kernel, sx_w274⟩
    · exact ⟨by decide +kernel, sx_w276⟩
  | j + 30, hj, _ => omega
theorem sx_tq_9 : ∀ j, j < 24 → ∀ c ∈ (sx_tc.get (270 + j)).2.2, sx_Pq l ρ (270 + j) c := by
  intro j hj c hc
  match j, hj, hc with
  | 0, _, hc =>
    replace hc : c ∈ [sx_c263] := hc
    simp only [List.mem_cons, List.not_mem_nil, or_false] at hc
    rcases hc with rfl
    · exact ⟨by decide +kernel, sx_w263⟩
  | 1, _, hc => exact absurd hc List.not_mem_nil
  | 2, _, hc =>
    replace hc : c ∈ [sx_c308] := hc
    simp only [List.mem_cons, List.not_mem_nil, or_false] at hc
    rcases hc with rfl
    · exact ⟨by decide +kernel, sx_w308⟩
  | 3, _, hc => exact absurd hc List.not_mem_nil
  | 4, _, hc => exact absurd hc List.not_mem_nil
  | 5, _, hc => exact absurd hc List.not_mem_nil
  | 6, _, hc => exact absurd hc List.not_mem_nil
  | 7, _, hc =>
    replace hc : c ∈ [sx_c275] := hc
    simp only [List.mem_cons, List.not_mem_nil, or_false] at hc
    rcases hc with rfl
    · exact ⟨by decide +kernel, sx_w275⟩
  | 8, _, hc =>
    replace hc : c ∈ [sx_c331] := hc
    simp only [List.mem_cons, List.not_mem_nil, or_false] at hc
    rcases hc with rfl
    · exact ⟨by decide +kernel, sx_w331⟩
  | 9, _, hc =>
    replace hc : c ∈ [sx_c333, sx_c334] := hc
    simp only [List.mem_cons, List.not_mem_nil, or_false] at hc
    rcases hc with rfl | rfl
    · exact ⟨by decide +kernel, sx_w333⟩
    · exact ⟨by decide +kernel, sx_w334⟩
  | 10, _, hc =>
    replace hc : c ∈ [sx_c341] := hc
    simp only [List.mem_cons, List.not_mem_nil, or_false] at hc
    rcases hc with rfl
    · exact ⟨by decide +kernel, sx_w341⟩
  | 11, _, hc =>
    replace hc : c ∈ [sx_c342] := hc
    simp only [List.mem_cons, List.not_mem_nil, or_false] at hc
    rcases hc with rfl
    · exact ⟨by decide +kernel, sx_w342⟩
  | 12, _, hc =>
    replace hc : c ∈ [sx_c285] := hc
    simp only [List.mem_cons, List.not_mem_nil, or_false] at hc
    rcases hc with rfl
    · exact ⟨by decide +kernel, sx_w285⟩
  | 13, _, hc => exact absurd hc List.not_mem_nil
  | 14, _, hc => exact absurd hc List.not_mem_nil
  | 15, _, hc =>
    replace hc : c ∈ [sx_c344] := hc
    simp only [List.mem_cons, List.not_mem_nil, or_false] at hc
    rcases hc with rfl
    · exact ⟨by decide +kernel, sx_w344⟩
  | 16, _, hc => exact absurd hc List.not_mem_nil
  | 17, _, hc =>
    replace hc : c ∈ [sx_c345] := hc
    simp only [List.mem_cons, List.not_mem_nil, or_false] at hc
    rcases hc with rfl
    · exact ⟨by decide +kernel, sx_w345⟩
  | 18, _, hc =>
    replace hc : c ∈ [sx_c311] := hc
    simp only [List.mem_cons, List.not_mem_nil, or_false] at hc
    rcases hc with rfl
    · exact ⟨by decide +kernel, sx_w311⟩
  | 19, _, hc =>
    replace hc : c ∈ [sx_c253] := hc
    simp only [List.mem_cons, List.not_mem_nil, or_false] at hc
    rcases hc with rfl
    · exact ⟨by decide +kernel, sx_w253⟩
  | 20, _, hc => exact absurd hc List.not_mem_nil
  | 21, _, hc => exact absurd hc List.not_mem_nil
  | 22, _, hc =>
    replace hc : c ∈ [sx_c279, sx_c281] := hc
    simp only [List.mem_cons, List.not_mem_nil, or_false] at hc
    rcases hc with rfl | rfl
    · exact ⟨by decide +kernel, sx_w279⟩
    · exact ⟨by decide +kernel, sx_w281⟩
  | 23, _, hc => exact absurd hc List.not_mem_nil
  | j + 24, hj, _ => omega
noncomputable def sx_rgt (r : Lean.RArray sx_Me) (a : Nat) : Bool := match r with
  | .leaf _ => true
  | .branch m _ r => Nat.ble m a && sx_rgt r a
theorem sx_at_hi : (sx_tc.get 293).2.2 = [] := rfl
theorem sx_at_lo {mi : Nat} (h : 294 ≤ mi) : (sx_tc.get mi).2.2 = [] := by
  have key : ∀ (r : Lean.RArray sx_Me) (a b : Nat), sx_rgt r a = true → a ≤ b → r.get a = r.get b := by
    intro r
    induction r with
    | leaf x => intro a b _ _; rfl
    | branch m l r ih1 ih2 =>
      intro a b h1 h2
      replace h1 : (Nat.ble m a && sx_rgt r a) = true := h1
      rw [Bool.and_eq_true] at h1
      have h3 := Nat.le_of_ble_eq_true h1.1
      have i2 := ih2 a b h1.2 h2
      rw [Lean.RArray.get_eq_getImpl] at i2 ⊢
      show (if a < m then l.getImpl a else r.getImpl a) = (if b < m then l.getImpl b else r.getImpl b)
      rw [if_neg (by omega), if_neg (by omega)]
      exact i2
  rw [← key sx_tc 293 mi (by decide +kernel) (by omega)]
  exact sx_at_hi
theorem sx_tq_all (mi : Nat) (c : sx_Cn) (hc : c ∈ (sx_tc.get mi).2.2) : sx_Pq l ρ mi c := by
  by_cases h : mi < 294
  · rcases (show (0 ≤ mi ∧ mi < 30) ∨ (30 ≤ mi ∧ mi < 60) ∨ (60 ≤ mi ∧ mi < 90) ∨ (90 ≤ mi ∧ mi < 120) ∨ (120 ≤ mi ∧ mi < 150) ∨ (150 ≤ mi ∧ mi < 180) ∨ (180 ≤ mi ∧ mi < 210) ∨ (210 ≤ mi ∧ mi < 240) ∨ (240 ≤ mi ∧ mi < 270) ∨ (270 ≤ mi ∧ mi < 294) by omega) with h | h | h | h | h | h | h | h | h | h
    · obtain ⟨j, rfl⟩ : ∃ j, mi = 0 + j := ⟨mi - 0, by omega⟩
      exact sx_tq_0 j (by omega) c hc
    · obtain ⟨j, rfl⟩ : ∃ j, mi = 30 + j := ⟨mi - 30, by omega⟩
      exact sx_tq_1 j (by omega) c hc
    · obtain ⟨j, rfl⟩ : ∃ j, mi = 60 + j := ⟨mi - 60, by omega⟩
      exact sx_tq_2 j (by omega) c hc
    · obtain ⟨j, rfl⟩ : ∃ j, mi = 90 + j := ⟨mi - 90, by omega⟩
      exact sx_tq_3 j (by omega) c hc
    · obtain ⟨j, rfl⟩ : ∃ j, mi = 120 + j := ⟨mi - 120, by omega⟩
      exact sx_tq_4 j (by omega) c hc
    · obtain ⟨j, rfl⟩ : ∃ j, mi = 150 + j := ⟨mi - 150, by omega⟩
      exact sx_tq_5 j (by omega) c hc
    · obtain ⟨j, rfl⟩ : ∃ j, mi = 180 + j := ⟨mi - 180, by omega⟩
      exact sx_tq_6 j (by omega) c hc
    · obtain ⟨j, rfl⟩ : ∃ j, mi = 210 + j := ⟨mi - 210, by omega⟩
      exact sx_tq_7 j (by omega) c hc
    · obtain ⟨j, rfl⟩ : ∃ j, mi = 240 + j := ⟨mi - 240, by omega⟩
      exact sx_tq_8 j (by omega) c hc
    · obtain ⟨j, rfl⟩ : ∃ j, mi = 270 + j := ⟨mi - 270, by omega⟩
      exact sx_tq_9 j (by omega) c hc
  · rw [sx_at_lo (by omega)] at hc
    cases hc
theorem sx_tc_all : ∀ i, sx_TcOK l ρ sx_tc i := by
  intro i
  induction i with
  | zero => intro mi c hc; exact ⟨(sx_tq_all (l := l) (ρ := ρ) mi c hc).1, fun h => absurd h (Nat.not_lt_zero _)⟩
  | succ i ih =>
    intro mi c hc
    refine ⟨(ih mi c hc).1, fun hi => ?_⟩
    by_cases e : c.1 = i
    · exact (sx_tq_all mi c hc).2 (by rw [e]; exact ih)
    · exact (ih mi c hc).2 (by omega)
end SXIO
