/-! WHAT IS TO BE SHOWN of each rule -/
theorem sx_gr_W0 {γ : Nat → Int} (h : sx_gran γ) : 0 ≤ γ 18432 ∧ γ 18432 ≤ 255 := by
  have h1 := h 18432 (by decide)
  rw [show sx_sr 18432 = (0, 255) from by decide +kernel] at h1
  exact h1
theorem sx_gr_G0 {γ : Nat → Int} (h : sx_gran γ) : 0 ≤ γ 18433 ∧ γ 18433 ≤ 255 := by
  have h1 := h 18433 (by decide)
  rw [show sx_sr 18433 = (0, 255) from by decide +kernel] at h1
  exact h1
theorem sx_gr_T0 {γ : Nat → Int} (h : sx_gran γ) : (-1) ≤ γ 18434 ∧ γ 18434 ≤ 4140 := by
  have h1 := h 18434 (by decide)
  rw [show sx_sr 18434 = ((-1), 4140) from by decide +kernel] at h1
  exact h1
theorem sx_gr_T1 {γ : Nat → Int} (h : sx_gran γ) : (-1) ≤ γ 18435 ∧ γ 18435 ≤ 4140 := by
  have h1 := h 18435 (by decide)
  rw [show sx_sr 18435 = ((-1), 4140) from by decide +kernel] at h1
  exact h1
theorem sx_gr_T2 {γ : Nat → Int} (h : sx_gran γ) : (-1) ≤ γ 18436 ∧ γ 18436 ≤ 4140 := by
  have h1 := h 18436 (by decide)
  rw [show sx_sr 18436 = ((-1), 4140) from by decide +kernel] at h1
  exact h1
theorem sx_gr_T3 {γ : Nat → Int} (h : sx_gran γ) : (-1) ≤ γ 18437 ∧ γ 18437 ≤ 4140 := by
  have h1 := h 18437 (by decide)
  rw [show sx_sr 18437 = ((-1), 4140) from by decide +kernel] at h1
  exact h1
theorem sx_gr_T4 {γ : Nat → Int} (h : sx_gran γ) : (-1) ≤ γ 18438 ∧ γ 18438 ≤ 4140 := by
  have h1 := h 18438 (by decide)
  rw [show sx_sr 18438 = ((-1), 4140) from by decide +kernel] at h1
  exact h1
theorem sx_gr_zI0 {γ : Nat → Int} (h : sx_gran γ) : 0 ≤ γ 18439 ∧ γ 18439 ≤ 1 := by
  have h1 := h 18439 (by decide)
  rw [show sx_sr 18439 = (0, 1) from by decide +kernel] at h1
  exact h1
theorem sx_gr_zI1 {γ : Nat → Int} (h : sx_gran γ) : 0 ≤ γ 18440 ∧ γ 18440 ≤ 1 := by
  have h1 := h 18440 (by decide)
  rw [show sx_sr 18440 = (0, 1) from by decide +kernel] at h1
  exact h1
theorem sx_gr_zI2 {γ : Nat → Int} (h : sx_gran γ) : 0 ≤ γ 18441 ∧ γ 18441 ≤ 1 := by
  have h1 := h 18441 (by decide)
  rw [show sx_sr 18441 = (0, 1) from by decide +kernel] at h1
  exact h1
theorem sx_gr_zI3 {γ : Nat → Int} (h : sx_gran γ) : 0 ≤ γ 18442 ∧ γ 18442 ≤ 1 := by
  have h1 := h 18442 (by decide)
  rw [show sx_sr 18442 = (0, 1) from by decide +kernel] at h1
  exact h1
theorem sx_gr_zI4 {γ : Nat → Int} (h : sx_gran γ) : 0 ≤ γ 18443 ∧ γ 18443 ≤ 1 := by
  have h1 := h 18443 (by decide)
  rw [show sx_sr 18443 = (0, 1) from by decide +kernel] at h1
  exact h1
theorem sx_gr_zI5 {γ : Nat → Int} (h : sx_gran γ) : 0 ≤ γ 18444 ∧ γ 18444 ≤ 1 := by
  have h1 := h 18444 (by decide)
  rw [show sx_sr 18444 = (0, 1) from by decide +kernel] at h1
  exact h1
theorem sx_gr_zI6 {γ : Nat → Int} (h : sx_gran γ) : 0 ≤ γ 18445 ∧ γ 18445 ≤ 1 := by
  have h1 := h 18445 (by decide)
  rw [show sx_sr 18445 = (0, 1) from by decide +kernel] at h1
  exact h1
theorem sx_gr_zS0 {γ : Nat → Int} (h : sx_gran γ) : 0 ≤ γ 18446 ∧ γ 18446 ≤ 1 := by
  have h1 := h 18446 (by decide)
  rw [show sx_sr 18446 = (0, 1) from by decide +kernel] at h1
  exact h1
theorem sx_gr_zS1 {γ : Nat → Int} (h : sx_gran γ) : 0 ≤ γ 18447 ∧ γ 18447 ≤ 1 := by
  have h1 := h 18447 (by decide)
  rw [show sx_sr 18447 = (0, 1) from by decide +kernel] at h1
  exact h1
theorem sx_gr_zS2 {γ : Nat → Int} (h : sx_gran γ) : 0 ≤ γ 18448 ∧ γ 18448 ≤ 1 := by
  have h1 := h 18448 (by decide)
  rw [show sx_sr 18448 = (0, 1) from by decide +kernel] at h1
  exact h1
theorem sx_gr_zS3 {γ : Nat → Int} (h : sx_gran γ) : 0 ≤ γ 18449 ∧ γ 18449 ≤ 1 := by
  have h1 := h 18449 (by decide)
  rw [show sx_sr 18449 = (0, 1) from by decide +kernel] at h1
  exact h1
theorem sx_gr_zS4 {γ : Nat → Int} (h : sx_gran γ) : 0 ≤ γ 18450 ∧ γ 18450 ≤ 1 := by
  have h1 := h 18450 (by decide)
  rw [show sx_sr 18450 = (0, 1) from by decide +kernel] at h1
  exact h1
theorem sx_gr_zS5 {γ : Nat → Int} (h : sx_gran γ) : 0 ≤ γ 18451 ∧ γ 18451 ≤ 1 := by
  have h1 := h 18451 (by decide)
  rw [show sx_sr 18451 = (0, 1) from by decide +kernel] at h1
  exact h1
theorem sx_gr_zS6 {γ : Nat → Int} (h : sx_gran γ) : 0 ≤ γ 18452 ∧ γ 18452 ≤ 1 := by
  have h1 := h 18452 (by decide)
  rw [show sx_sr 18452 = (0, 1) from by decide +kernel] at h1
  exact h1
theorem sx_gr_B1 {γ : Nat → Int} (h : sx_gran γ) : 0 ≤ γ 18453 ∧ γ 18453 ≤ 8 := by
  have h1 := h 18453 (by decide)
  rw [show sx_sr 18453 = (0, 8) from by decide +kernel] at h1
  exact h1
theorem sx_gr_B2 {γ : Nat → Int} (h : sx_gran γ) : 0 ≤ γ 18454 ∧ γ 18454 ≤ 8 := by
  have h1 := h 18454 (by decide)
  rw [show sx_sr 18454 = (0, 8) from by decide +kernel] at h1
  exact h1
theorem sx_gr_VU {γ : Nat → Int} (h : sx_gran γ) : 0 ≤ γ 18455 ∧ γ 18455 ≤ 8 := by
  have h1 := h 18455 (by decide)
  rw [show sx_sr 18455 = (0, 8) from by decide +kernel] at h1
  exact h1
theorem sx_gr_K {γ : Nat → Int} (h : sx_gran γ) : 0 ≤ γ 18456 ∧ γ 18456 ≤ 4139 := by
  have h1 := h 18456 (by decide)
  rw [show sx_sr 18456 = (0, 4139) from by decide +kernel] at h1
  exact h1
theorem sx_gr_LI {γ : Nat → Int} (h : sx_gran γ) : 0 ≤ γ 18457 ∧ γ 18457 ≤ 8 := by
  have h1 := h 18457 (by decide)
  rw [show sx_sr 18457 = (0, 8) from by decide +kernel] at h1
  exact h1
theorem sx_gr_LV {γ : Nat → Int} (h : sx_gran γ) : 0 ≤ γ 18458 ∧ γ 18458 ≤ 9 := by
  have h1 := h 18458 (by decide)
  rw [show sx_sr 18458 = (0, 9) from by decide +kernel] at h1
  exact h1
theorem sx_gr_MX {γ : Nat → Int} (h : sx_gran γ) : (-1) ≤ γ 18459 ∧ γ 18459 ≤ 9 := by
  have h1 := h 18459 (by decide)
  rw [show sx_sr 18459 = ((-1), 9) from by decide +kernel] at h1
  exact h1
theorem sx_gr_MI {γ : Nat → Int} (h : sx_gran γ) : 0 ≤ γ 18460 ∧ γ 18460 ≤ 8 := by
  have h1 := h 18460 (by decide)
  rw [show sx_sr 18460 = (0, 8) from by decide +kernel] at h1
  exact h1
theorem sx_gr_D {γ : Nat → Int} (h : sx_gran γ) : (-1) ≤ γ 18461 ∧ γ 18461 ≤ 7 := by
  have h1 := h 18461 (by decide)
  rw [show sx_sr 18461 = ((-1), 7) from by decide +kernel] at h1
  exact h1
theorem sx_gr_rK {γ : Nat → Int} (h : sx_gran γ) : 0 ≤ γ 18462 ∧ γ 18462 ≤ 2900 := by
  have h1 := h 18462 (by decide)
  rw [show sx_sr 18462 = (0, 2900) from by decide +kernel] at h1
  exact h1
theorem sx_gr_rV {γ : Nat → Int} (h : sx_gran γ) : 0 ≤ γ 18463 ∧ γ 18463 ≤ 400 := by
  have h1 := h 18463 (by decide)
  rw [show sx_sr 18463 = (0, 400) from by decide +kernel] at h1
  exact h1
theorem sx_gr_rE {γ : Nat → Int} (h : sx_gran γ) : 0 ≤ γ 18464 ∧ γ 18464 ≤ 2900 := by
  have h1 := h 18464 (by decide)
  rw [show sx_sr 18464 = (0, 2900) from by decide +kernel] at h1
  exact h1
theorem sx_gr_rQ {γ : Nat → Int} (h : sx_gran γ) : (-1) ≤ γ 18465 ∧ γ 18465 ≤ 1999 := by
  have h1 := h 18465 (by decide)
  rw [show sx_sr 18465 = ((-1), 1999) from by decide +kernel] at h1
  exact h1
theorem sx_gr_rL {γ : Nat → Int} (h : sx_gran γ) : 0 ≤ γ 18466 ∧ γ 18466 ≤ 2900 := by
  have h1 := h 18466 (by decide)
  rw [show sx_sr 18466 = (0, 2900) from by decide +kernel] at h1
  exact h1
theorem sx_gr_rT0 {γ : Nat → Int} (h : sx_gran γ) : 0 ≤ γ 18467 ∧ γ 18467 ≤ 2000 := by
  have h1 := h 18467 (by decide)
  rw [show sx_sr 18467 = (0, 2000) from by decide +kernel] at h1
  exact h1
theorem sx_gr_rT1 {γ : Nat → Int} (h : sx_gran γ) : 0 ≤ γ 18468 ∧ γ 18468 ≤ 2000 := by
  have h1 := h 18468 (by decide)
  rw [show sx_sr 18468 = (0, 2000) from by decide +kernel] at h1
  exact h1
theorem sx_gr_rSq {γ : Nat → Int} (h : sx_gran γ) : (-1) ≤ γ 18469 ∧ γ 18469 ≤ 107 := by
  have h1 := h 18469 (by decide)
  rw [show sx_sr 18469 = ((-1), 107) from by decide +kernel] at h1
  exact h1
theorem sx_gr_rSs {γ : Nat → Int} (h : sx_gran γ) : (-1) ≤ γ 18470 ∧ γ 18470 ≤ 107 := by
  have h1 := h 18470 (by decide)
  rw [show sx_sr 18470 = ((-1), 107) from by decide +kernel] at h1
  exact h1
theorem sx_gr_rP {γ : Nat → Int} (h : sx_gran γ) : (-1) ≤ γ 18471 ∧ γ 18471 ≤ 7 := by
  have h1 := h 18471 (by decide)
  rw [show sx_sr 18471 = ((-1), 7) from by decide +kernel] at h1
  exact h1
theorem sx_gr_rN {γ : Nat → Int} (h : sx_gran γ) : 0 ≤ γ 18472 ∧ γ 18472 ≤ 12 := by
  have h1 := h 18472 (by decide)
  rw [show sx_sr 18472 = (0, 12) from by decide +kernel] at h1
  exact h1
theorem sx_gr_rF {γ : Nat → Int} (h : sx_gran γ) : 0 ≤ γ 18473 ∧ γ 18473 ≤ 2900 := by
  have h1 := h 18473 (by decide)
  rw [show sx_sr 18473 = (0, 2900) from by decide +kernel] at h1
  exact h1
theorem sx_gr_w0 {γ : Nat → Int} (h : sx_gran γ) : 2560 ≤ γ 18474 ∧ γ 18474 ≤ 2900 := by
  have h1 := h 18474 (by decide)
  rw [show sx_sr 18474 = (2560, 2900) from by decide +kernel] at h1
  exact h1
theorem sx_gr_w1 {γ : Nat → Int} (h : sx_gran γ) : 2560 ≤ γ 18475 ∧ γ 18475 ≤ 2900 := by
  have h1 := h 18475 (by decide)
  rw [show sx_sr 18475 = (2560, 2900) from by decide +kernel] at h1
  exact h1
theorem sx_gr_wh {γ : Nat → Int} (h : sx_gran γ) : 0 ≤ γ 18476 ∧ γ 18476 ≤ 400 := by
  have h1 := h 18476 (by decide)
  rw [show sx_sr 18476 = (0, 400) from by decide +kernel] at h1
  exact h1
theorem sx_gr_wp {γ : Nat → Int} (h : sx_gran γ) : 0 ≤ γ 18477 ∧ γ 18477 ≤ 2 := by
  have h1 := h 18477 (by decide)
  rw [show sx_sr 18477 = (0, 2) from by decide +kernel] at h1
  exact h1
theorem sx_gr_wa {γ : Nat → Int} (h : sx_gran γ) : 2560 ≤ γ 18478 ∧ γ 18478 ≤ 2900 := by
  have h1 := h 18478 (by decide)
  rw [show sx_sr 18478 = (2560, 2900) from by decide +kernel] at h1
  exact h1
theorem sx_gr_tE {γ : Nat → Int} (h : sx_gran γ) : 1280 ≤ γ 18479 ∧ γ 18479 ≤ 2000 := by
  have h1 := h 18479 (by decide)
  rw [show sx_sr 18479 = (1280, 2000) from by decide +kernel] at h1
  exact h1
theorem sx_gr_sp {γ : Nat → Int} (h : sx_gran γ) : 0 ≤ γ 18480 ∧ γ 18480 ≤ 3 := by
  have h1 := h 18480 (by decide)
  rw [show sx_sr 18480 = (0, 3) from by decide +kernel] at h1
  exact h1
theorem sx_gr_sa {γ : Nat → Int} (h : sx_gran γ) : 2560 ≤ γ 18481 ∧ γ 18481 ≤ 2900 := by
  have h1 := h 18481 (by decide)
  rw [show sx_sr 18481 = (2560, 2900) from by decide +kernel] at h1
  exact h1
theorem sx_gr_sb {γ : Nat → Int} (h : sx_gran γ) : 2560 ≤ γ 18482 ∧ γ 18482 ≤ 2900 := by
  have h1 := h 18482 (by decide)
  rw [show sx_sr 18482 = (2560, 2900) from by decide +kernel] at h1
  exact h1
theorem sx_gr_tB {γ : Nat → Int} (h : sx_gran γ) : 1280 ≤ γ 18483 ∧ γ 18483 ≤ 2000 := by
  have h1 := h 18483 (by decide)
  rw [show sx_sr 18483 = (1280, 2000) from by decide +kernel] at h1
  exact h1
theorem sx_gr_sE {γ : Nat → Int} (h : sx_gran γ) : 96 ≤ γ 18484 ∧ γ 18484 ≤ 108 := by
  have h1 := h 18484 (by decide)
  rw [show sx_sr 18484 = (96, 108) from by decide +kernel] at h1
  exact h1
theorem sx_gr_cS {γ : Nat → Int} (h : sx_gran γ) : 2560 ≤ γ 18485 ∧ γ 18485 ≤ 2900 := by
  have h1 := h 18485 (by decide)
  rw [show sx_sr 18485 = (2560, 2900) from by decide +kernel] at h1
  exact h1
theorem sx_gr_cO {γ : Nat → Int} (h : sx_gran γ) : 1280 ≤ γ 18486 ∧ γ 18486 ≤ 2000 := by
  have h1 := h 18486 (by decide)
  rw [show sx_sr 18486 = (1280, 2000) from by decide +kernel] at h1
  exact h1
theorem sx_gr_cp {γ : Nat → Int} (h : sx_gran γ) : 0 ≤ γ 18487 ∧ γ 18487 ≤ 2 := by
  have h1 := h 18487 (by decide)
  rw [show sx_sr 18487 = (0, 2) from by decide +kernel] at h1
  exact h1
theorem sx_gr_cY {γ : Nat → Int} (h : sx_gran γ) : 0 ≤ γ 18488 ∧ γ 18488 ≤ 12 := by
  have h1 := h 18488 (by decide)
  rw [show sx_sr 18488 = (0, 12) from by decide +kernel] at h1
  exact h1
theorem sx_gr_yp {γ : Nat → Int} (h : sx_gran γ) : 0 ≤ γ 18489 ∧ γ 18489 ≤ 3 := by
  have h1 := h 18489 (by decide)
  rw [show sx_sr 18489 = (0, 3) from by decide +kernel] at h1
  exact h1
theorem sx_gr_UA {γ : Nat → Int} (h : sx_gran γ) : 0 ≤ γ 18490 ∧ γ 18490 ≤ 255 := by
  have h1 := h 18490 (by decide)
  rw [show sx_sr 18490 = (0, 255) from by decide +kernel] at h1
  exact h1
theorem sx_gr_UB {γ : Nat → Int} (h : sx_gran γ) : 0 ≤ γ 18491 ∧ γ 18491 ≤ 255 := by
  have h1 := h 18491 (by decide)
  rw [show sx_sr 18491 = (0, 255) from by decide +kernel] at h1
  exact h1
theorem sx_gr_UU {γ : Nat → Int} (h : sx_gran γ) : 0 ≤ γ 18492 ∧ γ 18492 ≤ 255 := by
  have h1 := h 18492 (by decide)
  rw [show sx_sr 18492 = (0, 255) from by decide +kernel] at h1
  exact h1
theorem sx_gr_KA {γ : Nat → Int} (h : sx_gran γ) : 0 ≤ γ 18493 ∧ γ 18493 ≤ 255 := by
  have h1 := h 18493 (by decide)
  rw [show sx_sr 18493 = (0, 255) from by decide +kernel] at h1
  exact h1
theorem sx_gr_KB {γ : Nat → Int} (h : sx_gran γ) : 0 ≤ γ 18494 ∧ γ 18494 ≤ 255 := by
  have h1 := h 18494 (by decide)
  rw [show sx_sr 18494 = (0, 255) from by decide +kernel] at h1
  exact h1
theorem sx_gr_KU {γ : Nat → Int} (h : sx_gran γ) : 0 ≤ γ 18495 ∧ γ 18495 ≤ 255 := by
  have h1 := h 18495 (by decide)
  rw [show sx_sr 18495 = (0, 255) from by decide +kernel] at h1
  exact h1
theorem sx_gr_tI {γ : Nat → Int} (h : sx_gran γ) : (-1) ≤ γ 18496 ∧ γ 18496 ≤ 299 := by
  have h1 := h 18496 (by decide)
  rw [show sx_sr 18496 = ((-1), 299) from by decide +kernel] at h1
  exact h1
theorem sx_gr_tV {γ : Nat → Int} (h : sx_gran γ) : (-128) ≤ γ 18497 ∧ γ 18497 ≤ 127 := by
  have h1 := h 18497 (by decide)
  rw [show sx_sr 18497 = ((-128), 127) from by decide +kernel] at h1
  exact h1
theorem sx_gr_lw {γ : Nat → Int} (h : sx_gran γ) : 0 ≤ γ 18498 ∧ γ 18498 ≤ 8 := by
  have h1 := h 18498 (by decide)
  rw [show sx_sr 18498 = (0, 8) from by decide +kernel] at h1
  exact h1
theorem sx_gr_lI {γ : Nat → Int} (h : sx_gran γ) : 0 ≤ γ 18499 ∧ γ 18499 ≤ 2900 := by
  have h1 := h 18499 (by decide)
  rw [show sx_sr 18499 = (0, 2900) from by decide +kernel] at h1
  exact h1
theorem sx_gr_lV {γ : Nat → Int} (h : sx_gran γ) : (-2147483648) ≤ γ 18500 ∧ γ 18500 ≤ 2147483647 := by
  have h1 := h 18500 (by decide)
  rw [show sx_sr 18500 = ((-2147483648), 2147483647) from by decide +kernel] at h1
  exact h1
theorem sx_q_l_choice_0 {γ : Nat → Int} {A : Nat → Nat → Int} {j : Nat} {y : Int} (hG : sx_GG γ A) (f0 : 0 ≤ 0 + (1 * y + 0)) : ∃ a ∈ sx_r_l_choice.2, ∃ w : Nat → Int, (∀ (i : Nat) p, a.1[i]? = some p → p.2.1 ≤ w i ∧ w i ≤ p.2.2) ∧ (∀ f ∈ a.2.1, 0 ≤ sx_d (sx_th γ (j : Int) y w) f) ∧ (∀ e, a.2.2.2.head? = some e → sx_d (sx_th γ (j : Int) y w) e = y) ∧ sx_GG (sx_gu γ (sx_th γ (j : Int) y w) a.2.2.1) (if false = true then sx_au A 76 j y else A) := ⟨([], [(0, [(19001, 1)])], [], []), List.Mem.head _, (fun _ => 0), fun i p hi => (by
    match i, hi with
    | n + 0, hi => simp at hi), fun f hf => (by
    simp only [List.mem_cons, List.not_mem_nil, or_false] at hf
    rcases hf with rfl
    · exact f0
    ), fun e he => (by cases he), ⟨hG.1, hG.2.1, hG.2.2.1, hG.2.2.2.1, hG.2.2.2.2.1, hG.2.2.2.2.2.1, hG.2.2.2.2.2.2.1, hG.2.2.2.2.2.2.2.1, hG.2.2.2.2.2.2.2.2.1, hG.2.2.2.2.2.2.2.2.2.1, hG.2.2.2.2.2.2.2.2.2.2.1, hG.2.2.2.2.2.2.2.2.2.2.2.1, hG.2.2.2.2.2.2.2.2.2.2.2.2.1, hG.2.2.2.2.2.2.2.2.2.2.2.2.2.1, hG.2.2.2.2.2.2.2.2.2.2.2.2.2.2.1, hG.2.2.2.2.2.2.2.2.2.2.2.2.2.2.2⟩⟩
theorem sx_q_l_opened_0 {γ : Nat → Int} {A : Nat → Nat → Int} {j : Nat} {y : Int} (hG : sx_GG γ A) (f0 : 0 ≤ 0 + (1 * (j : Int) + ((-1) * y + 0))) : ∃ a ∈ sx_r_l_opened.2, ∃ w : Nat → Int, (∀ (i : Nat) p, a.1[i]? = some p → p.2.1 ≤ w i ∧ w i ≤ p.2.2) ∧ (∀ f ∈ a.2.1, 0 ≤ sx_d (sx_th γ (j : Int) y w) f) ∧ (∀ e, a.2.2.2.head? = some e → sx_d (sx_th γ (j : Int) y w) e = y) ∧ sx_GG (sx_gu γ (sx_th γ (j : Int) y w) a.2.2.1) (if false = true then sx_au A 77 j y else A) := ⟨([], [(0, [(19000, 1), (19001, (-1))])], [], []), List.Mem.head _, (fun _ => 0), fun i p hi => (by
    match i, hi with
    | n + 0, hi => simp at hi), fun f hf => (by
    simp only [List.mem_cons, List.not_mem_nil, or_false] at hf
    rcases hf with rfl
    · exact f0
    ), fun e he => (by cases he), ⟨hG.1, hG.2.1, hG.2.2.1, hG.2.2.2.1, hG.2.2.2.2.1, hG.2.2.2.2.2.1, hG.2.2.2.2.2.2.1, hG.2.2.2.2.2.2.2.1, hG.2.2.2.2.2.2.2.2.1, hG.2.2.2.2.2.2.2.2.2.1, hG.2.2.2.2.2.2.2.2.2.2.1, hG.2.2.2.2.2.2.2.2.2.2.2.1, hG.2.2.2.2.2.2.2.2.2.2.2.2.1, hG.2.2.2.2.2.2.2.2.2.2.2.2.2.1, hG.2.2.2.2.2.2.2.2.2.2.2.2.2.2.1, hG.2.2.2.2.2.2.2.2.2.2.2.2.2.2.2⟩⟩
theorem sx_q_l_tx0_0 {γ : Nat → Int} {A : Nat → Nat → Int} {j : Nat} {y : Int} (hG : sx_GG γ A) (hv : 0 + (1 * γ 18497 + 0) = y) : ∃ a ∈ sx_r_l_tx0.2, ∃ w : Nat → Int, (∀ (i : Nat) p, a.1[i]? = some p → p.2.1 ≤ w i ∧ w i ≤ p.2.2) ∧ (∀ f ∈ a.2.1, 0 ≤ sx_d (sx_th γ (j : Int) y w) f) ∧ (∀ e, a.2.2.2.head? = some e → sx_d (sx_th γ (j : Int) y w) e = y) ∧ sx_GG (sx_gu γ (sx_th γ (j : Int) y w) a.2.2.1) (if false = true then sx_au A 110 j y else A) := ⟨([], [], [], [(0, [(18497, 1)])]), List.Mem.head _, (fun _ => 0), fun i p hi => (by
    match i, hi with
    | n + 0, hi => simp at hi), fun f hf => (by cases hf), fun e he => (by cases he; exact hv), ⟨hG.1, hG.2.1, hG.2.2.1, hG.2.2.2.1, hG.2.2.2.2.1, hG.2.2.2.2.2.1, hG.2.2.2.2.2.2.1, hG.2.2.2.2.2.2.2.1, hG.2.2.2.2.2.2.2.2.1, hG.2.2.2.2.2.2.2.2.2.1, hG.2.2.2.2.2.2.2.2.2.2.1, hG.2.2.2.2.2.2.2.2.2.2.2.1, hG.2.2.2.2.2.2.2.2.2.2.2.2.1, hG.2.2.2.2.2.2.2.2.2.2.2.2.2.1, hG.2.2.2.2.2.2.2.2.2.2.2.2.2.2.1, hG.2.2.2.2.2.2.2.2.2.2.2.2.2.2.2⟩⟩
theorem sx_q_l_tx_0 {γ : Nat → Int} {A : Nat → Nat → Int} {j : Nat} {y : Int} (hG : sx_GG γ A) (c8 : sx_g7 (0 + (1 * (j : Int) + 0)) (0 + (1 * y + 0)) (A 110)) : ∃ a ∈ sx_r_l_tx.2, ∃ w : Nat → Int, (∀ (i : Nat) p, a.1[i]? = some p → p.2.1 ≤ w i ∧ w i ≤ p.2.2) ∧ (∀ f ∈ a.2.1, 0 ≤ sx_d (sx_th γ (j : Int) y w) f) ∧ (∀ e, a.2.2.2.head? = some e → sx_d (sx_th γ (j : Int) y w) e = y) ∧ sx_GG (sx_gu γ (sx_th γ (j : Int) y w) a.2.2.1) (if false = true then sx_au A 110 j y else A) := ⟨([], [], [(18496, (0, [(19000, 1)])), (18497, (0, [(19001, 1)]))], []), List.Mem.head _, (fun _ => 0), fun i p hi => (by
    match i, hi with
    | n + 0, hi => simp at hi), fun f hf => (by cases hf), fun e he => (by cases he), ⟨hG.1, hG.2.1, hG.2.2.1, hG.2.2.2.1, hG.2.2.2.2.1, hG.2.2.2.2.2.1, hG.2.2.2.2.2.2.1, hG.2.2.2.2.2.2.2.1, c8, hG.2.2.2.2.2.2.2.2.2.1, hG.2.2.2.2.2.2.2.2.2.2.1, hG.2.2.2.2.2.2.2.2.2.2.2.1, hG.2.2.2.2.2.2.2.2.2.2.2.2.1, hG.2.2.2.2.2.2.2.2.2.2.2.2.2.1, hG.2.2.2.2.2.2.2.2.2.2.2.2.2.2.1, hG.2.2.2.2.2.2.2.2.2.2.2.2.2.2.2⟩⟩
theorem sx_q_l_say_0 {γ : Nat → Int} {A : Nat → Nat → Int} {j : Nat} {y : Int} (hG : sx_GG γ A) (c12 : sx_x2 (γ 18461) (γ 18462) (γ 18463) (γ 18464) (γ 18465) (γ 18466) (γ 18467) (γ 18468) (γ 18469) (γ 18470) (0 + (1 * (j : Int) + 0)) (0 + (1 * y + 0)) (γ 18473) (A 117) (A 119) (A 120) (A 121) (A 116) (A 114) (A 111)) : ∃ a ∈ sx_r_l_say.2, ∃ w : Nat → Int, (∀ (i : Nat) p, a.1[i]? = some p → p.2.1 ≤ w i ∧ w i ≤ p.2.2) ∧ (∀ f ∈ a.2.1, 0 ≤ sx_d (sx_th γ (j : Int) y w) f) ∧ (∀ e, a.2.2.2.head? = some e → sx_d (sx_th γ (j : Int) y w) e = y) ∧ sx_GG (sx_gu γ (sx_th γ (j : Int) y w) a.2.2.1) (if false = true then sx_au A 111 j y else A) := ⟨([], [], [(18471, (0, [(19000, 1)])), (18472, (0, [(19001, 1)]))], []), List.Mem.head _, (fun _ => 0), fun i p hi => (by
    match i, hi with
    | n + 0, hi => simp at hi), fun f hf => (by cases hf), fun e he => (by cases he), ⟨hG.1, hG.2.1, hG.2.2.1, hG.2.2.2.1, hG.2.2.2.2.1, hG.2.2.2.2.2.1, hG.2.2.2.2.2.2.1, hG.2.2.2.2.2.2.2.1, hG.2.2.2.2.2.2.2.2.1, hG.2.2.2.2.2.2.2.2.2.1, hG.2.2.2.2.2.2.2.2.2.2.1, hG.2.2.2.2.2.2.2.2.2.2.2.1, c12, hG.2.2.2.2.2.2.2.2.2.2.2.2.2.1, hG.2.2.2.2.2.2.2.2.2.2.2.2.2.2.1, hG.2.2.2.2.2.2.2.2.2.2.2.2.2.2.2⟩⟩
theorem sx_q_l_sf_0 {γ : Nat → Int} {A : Nat → Nat → Int} {j : Nat} {y : Int} (hG : sx_GG γ A) (w : Nat → Int) (hw0 : 0 ≤ w 0 ∧ w 0 ≤ 2900) (f0 : 0 ≤ 0 + ((-1) * y + (1 * w 0 + 0))) (f1 : 0 ≤ 320 + (1 * y + ((-1) * w 0 + 0))) (c12 : sx_x2 (γ 18461) (0 + (1 * y + 0)) (0 + 0) (0 + (1 * w 0 + 0)) (γ 18465) (γ 18466) (γ 18467) (γ 18468) (γ 18469) (0 + (1 * (j : Int) + 0)) (γ 18471) (γ 18472) (0 + (1 * w 0 + 0)) (A 117) (A 119) (A 120) (A 121) (A 116) (A 114) (A 111)) : ∃ a ∈ sx_r_l_sf.2, ∃ w : Nat → Int, (∀ (i : Nat) p, a.1[i]? = some p → p.2.1 ≤ w i ∧ w i ≤ p.2.2) ∧ (∀ f ∈ a.2.1, 0 ≤ sx_d (sx_th γ (j : Int) y w) f) ∧ (∀ e, a.2.2.2.head? = some e → sx_d (sx_th γ (j : Int) y w) e = y) ∧ sx_GG (sx_gu γ (sx_th γ (j : Int) y w) a.2.2.1) (if false = true then sx_au A 113 j y else A) := ⟨([(0, 0, 2900)], [(0, [(19001, (-1)), (19002, 1)]), (320, [(19001, 1), (19002, (-1))])], [(18462, (0, [(19001, 1)])), (18463, (0, [])), (18464, (0, [(19002, 1)])), (18473, (0, [(19002, 1)])), (18470, (0, [(19000, 1)]))], []), List.Mem.head _, w, fun i p hi => (by
    match i, hi with
    | 0, hi => cases hi; exact hw0
    | n + 1, hi => simp at hi), fun f hf => (by
    simp only [List.mem_cons, List.not_mem_nil, or_false] at hf
    rcases hf with rfl | rfl
    · exact f0
    · exact f1
    ), fun e he => (by cases he), ⟨hG.1, hG.2.1, hG.2.2.1, hG.2.2.2.1, hG.2.2.2.2.1, hG.2.2.2.2.2.1, hG.2.2.2.2.2.2.1, hG.2.2.2.2.2.2.2.1, hG.2.2.2.2.2.2.2.2.1, hG.2.2.2.2.2.2.2.2.2.1, hG.2.2.2.2.2.2.2.2.2.2.1, hG.2.2.2.2.2.2.2.2.2.2.2.1, c12, hG.2.2.2.2.2.2.2.2.2.2.2.2.2.1, hG.2.2.2.2.2.2.2.2.2.2.2.2.2.2.1, hG.2.2.2.2.2.2.2.2.2.2.2.2.2.2.2⟩⟩
theorem sx_q_l_cp5_0 {γ : Nat → Int} {A : Nat → Nat → Int} {j : Nat} {y : Int} (hG : sx_GG γ A) (f0 : 0 ≤ (-2560) + (1 * y + 0)) (f1 : 0 ≤ 0 + (1 * γ 18475 + ((-1) * y + 0))) (c15 : sx_x5 (5 + 0) (0 + (1 * (j : Int) + 0)) (0 + (1 * y + 0)) (A 117) (A 119) (A 120) (A 121) (A 115) (A 116) (A 113) (A 114)) : ∃ a ∈ sx_r_l_cp5.2, ∃ w : Nat → Int, (∀ (i : Nat) p, a.1[i]? = some p → p.2.1 ≤ w i ∧ w i ≤ p.2.2) ∧ (∀ f ∈ a.2.1, 0 ≤ sx_d (sx_th γ (j : Int) y w) f) ∧ (∀ e, a.2.2.2.head? = some e → sx_d (sx_th γ (j : Int) y w) e = y) ∧ sx_GG (sx_gu γ (sx_th γ (j : Int) y w) a.2.2.1) (if false = true then sx_au A 113 j y else A) := ⟨([], [((-2560), [(19001, 1)]), (0, [(18475, 1), (19001, (-1))])], [(18498, (5, [])), (18499, (0, [(19000, 1)])), (18500, (0, [(19001, 1)]))], []), List.Mem.head _, (fun _ => 0), fun i p hi => (by
    match i, hi with
    | n + 0, hi => simp at hi), fun f hf => (by
    simp only [List.mem_cons, List.not_mem_nil, or_false] at hf
    rcases hf with rfl | rfl
    · exact f0
    · exact f1
    ), fun e he => (by cases he), ⟨hG.1, hG.2.1, hG.2.2.1, hG.2.2.2.1, hG.2.2.2.2.1, hG.2.2.2.2.2.1, hG.2.2.2.2.2.2.1, hG.2.2.2.2.2.2.2.1, hG.2.2.2.2.2.2.2.2.1, hG.2.2.2.2.2.2.2.2.2.1, hG.2.2.2.2.2.2.2.2.2.2.1, hG.2.2.2.2.2.2.2.2.2.2.2.1, hG.2.2.2.2.2.2.2.2.2.2.2.2.1, hG.2.2.2.2.2.2.2.2.2.2.2.2.2.1, hG.2.2.2.2.2.2.2.2.2.2.2.2.2.2.1, c15⟩⟩
theorem sx_q_l_st_0 {γ : Nat → Int} {A : Nat → Nat → Int} {j : Nat} {y : Int} (hG : sx_GG γ A) (hv : 0 + (1 * γ 18473 + 0) = y) : ∃ a ∈ sx_r_l_st.2, ∃ w : Nat → Int, (∀ (i : Nat) p, a.1[i]? = some p → p.2.1 ≤ w i ∧ w i ≤ p.2.2) ∧ (∀ f ∈ a.2.1, 0 ≤ sx_d (sx_th γ (j : Int) y w) f) ∧ (∀ e, a.2.2.2.head? = some e → sx_d (sx_th γ (j : Int) y w) e = y) ∧ sx_GG (sx_gu γ (sx_th γ (j : Int) y w) a.2.2.1) (if false = true then sx_au A 114 j y else A) := ⟨([], [], [], [(0, [(18473, 1)])]), List.Mem.head _, (fun _ => 0), fun i p hi => (by
    match i, hi with
    | n + 0, hi => simp at hi), fun f hf => (by cases hf), fun e he => (by cases he; exact hv), ⟨hG.1, hG.2.1, hG.2.2.1, hG.2.2.2.1, hG.2.2.2.2.1, hG.2.2.2.2.2.1, hG.2.2.2.2.2.2.1, hG.2.2.2.2.2.2.2.1, hG.2.2.2.2.2.2.2.2.1, hG.2.2.2.2.2.2.2.2.2.1, hG.2.2.2.2.2.2.2.2.2.2.1, hG.2.2.2.2.2.2.2.2.2.2.2.1, hG.2.2.2.2.2.2.2.2.2.2.2.2.1, hG.2.2.2.2.2.2.2.2.2.2.2.2.2.1, hG.2.2.2.2.2.2.2.2.2.2.2.2.2.2.1, hG.2.2.2.2.2.2.2.2.2.2.2.2.2.2.2⟩⟩
theorem sx_q_l_cp6_0 {γ : Nat → Int} {A : Nat → Nat → Int} {j : Nat} {y : Int} (hG : sx_GG γ A) (f0 : 0 ≤ (-2560) + (1 * y + 0)) (f1 : 0 ≤ 0 + (1 * γ 18475 + ((-1) * y + 0))) (c15 : sx_x5 (6 + 0) (0 + (1 * (j : Int) + 0)) (0 + (1 * y + 0)) (A 117) (A 119) (A 120) (A 121) (A 115) (A 116) (A 113) (A 114)) : ∃ a ∈ sx_r_l_cp6.2, ∃ w : Nat → Int, (∀ (i : Nat) p, a.1[i]? = some p → p.2.1 ≤ w i ∧ w i ≤ p.2.2) ∧ (∀ f ∈ a.2.1, 0 ≤ sx_d (sx_th γ (j : Int) y w) f) ∧ (∀ e, a.2.2.2.head? = some e → sx_d (sx_th γ (j : Int) y w) e = y) ∧ sx_GG (sx_gu γ (sx_th γ (j : Int) y w) a.2.2.1) (if false = true then sx_au A 114 j y else A) := ⟨([], [((-2560), [(19001, 1)]), (0, [(18475, 1), (19001, (-1))])], [(18498, (6, [])), (18499, (0, [(19000, 1)])), (18500, (0, [(19001, 1)]))], []), List.Mem.head _, (fun _ => 0), fun i p hi => (by
    match i, hi with
    | n + 0, hi => simp at hi), fun f hf => (by
    simp only [List.mem_cons, List.not_mem_nil, or_false] at hf
    rcases hf with rfl | rfl
    · exact f0
    · exact f1
    ), fun e he => (by cases he), ⟨hG.1, hG.2.1, hG.2.2.1, hG.2.2.2.1, hG.2.2.2.2.1, hG.2.2.2.2.2.1, hG.2.2.2.2.2.2.1, hG.2.2.2.2.2.2.2.1, hG.2.2.2.2.2.2.2.2.1, hG.2.2.2.2.2.2.2.2.2.1, hG.2.2.2.2.2.2.2.2.2.2.1, hG.2.2.2.2.2.2.2.2.2.2.2.1, hG.2.2.2.2.2.2.2.2.2.2.2.2.1, hG.2.2.2.2.2.2.2.2.2.2.2.2.2.1, hG.2.2.2.2.2.2.2.2.2.2.2.2.2.2.1, c15⟩⟩
theorem sx_q_l_tf_0 {γ : Nat → Int} {A : Nat → Nat → Int} {j : Nat} {y : Int} (hG : sx_GG γ A) (w : Nat → Int) (hw0 : 0 ≤ w 0 ∧ w 0 ≤ 2000) (f0 : 0 ≤ 0 + ((-1) * y + (1 * w 0 + 0))) (f1 : 0 ≤ 0 + ((-160) * γ 18471 + (1 * y + 0))) (f2 : 0 ≤ 160 + (160 * γ 18471 + ((-1) * w 0 + 0))) (c12 : sx_x2 (γ 18461) (γ 18462) (γ 18463) (γ 18464) (γ 18465) (γ 18466) (0 + (1 * y + 0)) (0 + (1 * w 0 + 0)) (0 + (1 * (j : Int) + 0)) (γ 18470) (γ 18471) (γ 18472) (γ 18473) (A 117) (A 119) (A 120) (A 121) (A 116) (A 114) (A 111)) : ∃ a ∈ sx_r_l_tf.2, ∃ w : Nat → Int, (∀ (i : Nat) p, a.1[i]? = some p → p.2.1 ≤ w i ∧ w i ≤ p.2.2) ∧ (∀ f ∈ a.2.1, 0 ≤ sx_d (sx_th γ (j : Int) y w) f) ∧ (∀ e, a.2.2.2.head? = some e → sx_d (sx_th γ (j : Int) y w) e = y) ∧ sx_GG (sx_gu γ (sx_th γ (j : Int) y w) a.2.2.1) (if false = true then sx_au A 115 j y else A) := ⟨([(0, 0, 2000)], [(0, [(19001, (-1)), (19002, 1)]), (0, [(18471, (-160)), (19001, 1)]), (160, [(18471, 160), (19002, (-1))])], [(18467, (0, [(19001, 1)])), (18468, (0, [(19002, 1)])), (18469, (0, [(19000, 1)]))], []), List.Mem.head _, w, fun i p hi => (by
    match i, hi with
    | 0, hi => cases hi; exact hw0
    | n + 1, hi => simp at hi), fun f hf => (by
    simp only [List.mem_cons, List.not_mem_nil, or_false] at hf
    rcases hf with rfl | rfl | rfl
    · exact f0
    · exact f1
    · exact f2
    ), fun e he => (by cases he), ⟨hG.1, hG.2.1, hG.2.2.1, hG.2.2.2.1, hG.2.2.2.2.1, hG.2.2.2.2.2.1, hG.2.2.2.2.2.2.1, hG.2.2.2.2.2.2.2.1, hG.2.2.2.2.2.2.2.2.1, hG.2.2.2.2.2.2.2.2.2.1, hG.2.2.2.2.2.2.2.2.2.2.1, hG.2.2.2.2.2.2.2.2.2.2.2.1, c12, hG.2.2.2.2.2.2.2.2.2.2.2.2.2.1, hG.2.2.2.2.2.2.2.2.2.2.2.2.2.2.1, hG.2.2.2.2.2.2.2.2.2.2.2.2.2.2.2⟩⟩
theorem sx_q_l_cp7_0 {γ : Nat → Int} {A : Nat → Nat → Int} {j : Nat} {y : Int} (hG : sx_GG γ A) (f0 : 0 ≤ (-1280) + (1 * y + 0)) (f1 : 0 ≤ 0 + (1 * γ 18479 + ((-1) * y + 0))) (c15 : sx_x5 (7 + 0) (0 + (1 * (j : Int) + 0)) (0 + (1 * y + 0)) (A 117) (A 119) (A 120) (A 121) (A 115) (A 116) (A 113) (A 114)) : ∃ a ∈ sx_r_l_cp7.2, ∃ w : Nat → Int, (∀ (i : Nat) p, a.1[i]? = some p → p.2.1 ≤ w i ∧ w i ≤ p.2.2) ∧ (∀ f ∈ a.2.1, 0 ≤ sx_d (sx_th γ (j : Int) y w) f) ∧ (∀ e, a.2.2.2.head? = some e → sx_d (sx_th γ (j : Int) y w) e = y) ∧ sx_GG (sx_gu γ (sx_th γ (j : Int) y w) a.2.2.1) (if false = true then sx_au A 115 j y else A) := ⟨([], [((-1280), [(19001, 1)]), (0, [(18479, 1), (19001, (-1))])], [(18498, (7, [])), (18499, (0, [(19000, 1)])), (18500, (0, [(19001, 1)]))], []), List.Mem.head _, (fun _ => 0), fun i p hi => (by
    match i, hi with
    | n + 0, hi => simp at hi), fun f hf => (by
    simp only [List.mem_cons, List.not_mem_nil, or_false] at hf
    rcases hf with rfl | rfl
    · exact f0
    · exact f1
    ), fun e he => (by cases he), ⟨hG.1, hG.2.1, hG.2.2.1, hG.2.2.2.1, hG.2.2.2.2.1, hG.2.2.2.2.2.1, hG.2.2.2.2.2.2.1, hG.2.2.2.2.2.2.2.1, hG.2.2.2.2.2.2.2.2.1, hG.2.2.2.2.2.2.2.2.2.1, hG.2.2.2.2.2.2.2.2.2.2.1, hG.2.2.2.2.2.2.2.2.2.2.2.1, hG.2.2.2.2.2.2.2.2.2.2.2.2.1, hG.2.2.2.2.2.2.2.2.2.2.2.2.2.1, hG.2.2.2.2.2.2.2.2.2.2.2.2.2.2.1, c15⟩⟩
theorem sx_q_l_tt_0 {γ : Nat → Int} {A : Nat → Nat → Int} {j : Nat} {y : Int} (hG : sx_GG γ A) (hv : 0 + (1 * γ 18468 + 0) = y) : ∃ a ∈ sx_r_l_tt.2, ∃ w : Nat → Int, (∀ (i : Nat) p, a.1[i]? = some p → p.2.1 ≤ w i ∧ w i ≤ p.2.2) ∧ (∀ f ∈ a.2.1, 0 ≤ sx_d (sx_th γ (j : Int) y w) f) ∧ (∀ e, a.2.2.2.head? = some e → sx_d (sx_th γ (j : Int) y w) e = y) ∧ sx_GG (sx_gu γ (sx_th γ (j : Int) y w) a.2.2.1) (if false = true then sx_au A 116 j y else A) := ⟨([], [], [], [(0, [(18468, 1)])]), List.Mem.head _, (fun _ => 0), fun i p hi => (by
    match i, hi with
    | n + 0, hi => simp at hi), fun f hf => (by cases hf), fun e he => (by cases he; exact hv), ⟨hG.1, hG.2.1, hG.2.2.1, hG.2.2.2.1, hG.2.2.2.2.1, hG.2.2.2.2.2.1, hG.2.2.2.2.2.2.1, hG.2.2.2.2.2.2.2.1, hG.2.2.2.2.2.2.2.2.1, hG.2.2.2.2.2.2.2.2.2.1, hG.2.2.2.2.2.2.2.2.2.2.1, hG.2.2.2.2.2.2.2.2.2.2.2.1, hG.2.2.2.2.2.2.2.2.2.2.2.2.1, hG.2.2.2.2.2.2.2.2.2.2.2.2.2.1, hG.2.2.2.2.2.2.2.2.2.2.2.2.2.2.1, hG.2.2.2.2.2.2.2.2.2.2.2.2.2.2.2⟩⟩
theorem sx_q_l_cp8_0 {γ : Nat → Int} {A : Nat → Nat → Int} {j : Nat} {y : Int} (hG : sx_GG γ A) (f0 : 0 ≤ (-1280) + (1 * y + 0)) (f1 : 0 ≤ 0 + (1 * γ 18479 + ((-1) * y + 0))) (c15 : sx_x5 (8 + 0) (0 + (1 * (j : Int) + 0)) (0 + (1 * y + 0)) (A 117) (A 119) (A 120) (A 121) (A 115) (A 116) (A 113) (A 114)) : ∃ a ∈ sx_r_l_cp8.2, ∃ w : Nat → Int, (∀ (i : Nat) p, a.1[i]? = some p → p.2.1 ≤ w i ∧ w i ≤ p.2.2) ∧ (∀ f ∈ a.2.1, 0 ≤ sx_d (sx_th γ (j : Int) y w) f) ∧ (∀ e, a.2.2.2.head? = some e → sx_d (sx_th γ (j : Int) y w) e = y) ∧ sx_GG (sx_gu γ (sx_th γ (j : Int) y w) a.2.2.1) (if false = true then sx_au A 116 j y else A) := ⟨([], [((-1280), [(19001, 1)]), (0, [(18479, 1), (19001, (-1))])], [(18498, (8, [])), (18499, (0, [(19000, 1)])), (18500, (0, [(19001, 1)]))], []), List.Mem.head _, (fun _ => 0), fun i p hi => (by
    match i, hi with
    | n + 0, hi => simp at hi), fun f hf => (by
    simp only [List.mem_cons, List.not_mem_nil, or_false] at hf
    rcases hf with rfl | rfl
    · exact f0
    · exact f1
    ), fun e he => (by cases he), ⟨hG.1, hG.2.1, hG.2.2.1, hG.2.2.2.1, hG.2.2.2.2.1, hG.2.2.2.2.2.1, hG.2.2.2.2.2.2.1, hG.2.2.2.2.2.2.2.1, hG.2.2.2.2.2.2.2.2.1, hG.2.2.2.2.2.2.2.2.2.1, hG.2.2.2.2.2.2.2.2.2.2.1, hG.2.2.2.2.2.2.2.2.2.2.2.1, hG.2.2.2.2.2.2.2.2.2.2.2.2.1, hG.2.2.2.2.2.2.2.2.2.2.2.2.2.1, hG.2.2.2.2.2.2.2.2.2.2.2.2.2.2.1, c15⟩⟩
theorem sx_q_l_sg_0 {γ : Nat → Int} {A : Nat → Nat → Int} {j : Nat} {y : Int} (hG : sx_GG γ A) (f0 : 0 ≤ 1 + ((-1) * y + 0)) (c12 : sx_x2 (γ 18461) (1 + (1 * γ 18462 + 0)) (1 + (1 * γ 18463 + 0)) (γ 18464) (γ 18465) (γ 18466) (γ 18467) (γ 18468) (γ 18469) (γ 18470) (γ 18471) (γ 18472) (γ 18473) (A 117) (A 119) (A 120) (A 121) (A 116) (A 114) (A 111)) : ∃ a ∈ sx_r_l_sg.2, ∃ w : Nat → Int, (∀ (i : Nat) p, a.1[i]? = some p → p.2.1 ≤ w i ∧ w i ≤ p.2.2) ∧ (∀ f ∈ a.2.1, 0 ≤ sx_d (sx_th γ (j : Int) y w) f) ∧ (∀ e, a.2.2.2.head? = some e → sx_d (sx_th γ (j : Int) y w) e = y) ∧ sx_GG (sx_gu γ (sx_th γ (j : Int) y w) a.2.2.1) (if false = true then sx_au A 117 j y else A) := ⟨([], [(1, [(19001, (-1))])], [(18462, (1, [(18462, 1)])), (18463, (1, [(18463, 1)]))], []), List.Mem.head _, (fun _ => 0), fun i p hi => (by
    match i, hi with
    | n + 0, hi => simp at hi), fun f hf => (by
    simp only [List.mem_cons, List.not_mem_nil, or_false] at hf
    rcases hf with rfl
    · exact f0
    ), fun e he => (by cases he), ⟨hG.1, hG.2.1, hG.2.2.1, hG.2.2.2.1, hG.2.2.2.2.1, hG.2.2.2.2.2.1, hG.2.2.2.2.2.2.1, hG.2.2.2.2.2.2.2.1, hG.2.2.2.2.2.2.2.2.1, hG.2.2.2.2.2.2.2.2.2.1, hG.2.2.2.2.2.2.2.2.2.2.1, hG.2.2.2.2.2.2.2.2.2.2.2.1, c12, hG.2.2.2.2.2.2.2.2.2.2.2.2.2.1, hG.2.2.2.2.2.2.2.2.2.2.2.2.2.2.1, hG.2.2.2.2.2.2.2.2.2.2.2.2.2.2.2⟩⟩
theorem sx_q_l_sg_1 {γ : Nat → Int} {A : Nat → Nat → Int} {j : Nat} {y : Int} (hG : sx_GG γ A) (f0 : 0 ≤ (-2) + (1 * y + 0)) (f1 : 0 ≤ (-2) + (1 * γ 18463 + 0)) (c12 : sx_x2 (γ 18461) (1 + (1 * γ 18462 + 0)) ((-1) + (1 * γ 18463 + 0)) (γ 18464) (γ 18465) (γ 18466) (γ 18467) (γ 18468) (γ 18469) (γ 18470) (γ 18471) (γ 18472) (γ 18473) (A 117) (A 119) (A 120) (A 121) (A 116) (A 114) (A 111)) : ∃ a ∈ sx_r_l_sg.2, ∃ w : Nat → Int, (∀ (i : Nat) p, a.1[i]? = some p → p.2.1 ≤ w i ∧ w i ≤ p.2.2) ∧ (∀ f ∈ a.2.1, 0 ≤ sx_d (sx_th γ (j : Int) y w) f) ∧ (∀ e, a.2.2.2.head? = some e → sx_d (sx_th γ (j : Int) y w) e = y) ∧ sx_GG (sx_gu γ (sx_th γ (j : Int) y w) a.2.2.1) (if false = true then sx_au A 117 j y else A) := ⟨([], [((-2), [(19001, 1)]), ((-2), [(18463, 1)])], [(18462, (1, [(18462, 1)])), (18463, ((-1), [(18463, 1)]))], []), List.Mem.tail _ (List.Mem.head _), (fun _ => 0), fun i p hi => (by
    match i, hi with
    | n + 0, hi => simp at hi), fun f hf => (by
    simp only [List.mem_cons, List.not_mem_nil, or_false] at hf
    rcases hf with rfl | rfl
    · exact f0
    · exact f1
    ), fun e he => (by cases he), ⟨hG.1, hG.2.1, hG.2.2.1, hG.2.2.2.1, hG.2.2.2.2.1, hG.2.2.2.2.2.1, hG.2.2.2.2.2.2.1, hG.2.2.2.2.2.2.2.1, hG.2.2.2.2.2.2.2.2.1, hG.2.2.2.2.2.2.2.2.2.1, hG.2.2.2.2.2.2.2.2.2.2.1, hG.2.2.2.2.2.2.2.2.2.2.2.1, c12, hG.2.2.2.2.2.2.2.2.2.2.2.2.2.1, hG.2.2.2.2.2.2.2.2.2.2.2.2.2.2.1, hG.2.2.2.2.2.2.2.2.2.2.2.2.2.2.2⟩⟩
theorem sx_q_l_cp1_0 {γ : Nat → Int} {A : Nat → Nat → Int} {j : Nat} {y : Int} (hG : sx_GG γ A) (c15 : sx_x5 (1 + 0) (0 + (1 * (j : Int) + 0)) (0 + (1 * y + 0)) (A 117) (A 119) (A 120) (A 121) (A 115) (A 116) (A 113) (A 114)) : ∃ a ∈ sx_r_l_cp1.2, ∃ w : Nat → Int, (∀ (i : Nat) p, a.1[i]? = some p → p.2.1 ≤ w i ∧ w i ≤ p.2.2) ∧ (∀ f ∈ a.2.1, 0 ≤ sx_d (sx_th γ (j : Int) y w) f) ∧ (∀ e, a.2.2.2.head? = some e → sx_d (sx_th γ (j : Int) y w) e = y) ∧ sx_GG (sx_gu γ (sx_th γ (j : Int) y w) a.2.2.1) (if false = true then sx_au A 117 j y else A) := ⟨([], [], [(18498, (1, [])), (18499, (0, [(19000, 1)])), (18500, (0, [(19001, 1)]))], []), List.Mem.head _, (fun _ => 0), fun i p hi => (by
    match i, hi with
    | n + 0, hi => simp at hi), fun f hf => (by cases hf), fun e he => (by cases he), ⟨hG.1, hG.2.1, hG.2.2.1, hG.2.2.2.1, hG.2.2.2.2.1, hG.2.2.2.2.2.1, hG.2.2.2.2.2.2.1, hG.2.2.2.2.2.2.2.1, hG.2.2.2.2.2.2.2.2.1, hG.2.2.2.2.2.2.2.2.2.1, hG.2.2.2.2.2.2.2.2.2.2.1, hG.2.2.2.2.2.2.2.2.2.2.2.1, hG.2.2.2.2.2.2.2.2.2.2.2.2.1, hG.2.2.2.2.2.2.2.2.2.2.2.2.2.1, hG.2.2.2.2.2.2.2.2.2.2.2.2.2.2.1, c15⟩⟩
theorem sx_q_l_lf_0 {γ : Nat → Int} {A : Nat → Nat → Int} {j : Nat} {y : Int} (hG : sx_GG γ A) (w : Nat → Int) (hw0 : 0 ≤ w 0 ∧ w 0 ≤ 2900) (f0 : 0 ≤ 0 + ((-1) * y + (1 * w 0 + 0))) (f1 : 0 ≤ 320 + (1 * y + ((-1) * w 0 + 0))) (c12 : sx_x2 (γ 18461) (0 + (1 * y + 0)) (0 + 0) (0 + (1 * w 0 + 0)) (0 + (1 * (j : Int) + 0)) (0 + (1 * w 0 + 0)) (γ 18467) (γ 18468) (γ 18469) (γ 18470) (γ 18471) (γ 18472) (γ 18473) (A 117) (A 119) (A 120) (A 121) (A 116) (A 114) (A 111)) : ∃ a ∈ sx_r_l_lf.2, ∃ w : Nat → Int, (∀ (i : Nat) p, a.1[i]? = some p → p.2.1 ≤ w i ∧ w i ≤ p.2.2) ∧ (∀ f ∈ a.2.1, 0 ≤ sx_d (sx_th γ (j : Int) y w) f) ∧ (∀ e, a.2.2.2.head? = some e → sx_d (sx_th γ (j : Int) y w) e = y) ∧ sx_GG (sx_gu γ (sx_th γ (j : Int) y w) a.2.2.1) (if false = true then sx_au A 119 j y else A) := ⟨([(0, 0, 2900)], [(0, [(19001, (-1)), (19002, 1)]), (320, [(19001, 1), (19002, (-1))])], [(18462, (0, [(19001, 1)])), (18463, (0, [])), (18464, (0, [(19002, 1)])), (18465, (0, [(19000, 1)])), (18466, (0, [(19002, 1)]))], []), List.Mem.head _, w, fun i p hi => (by
    match i, hi with
    | 0, hi => cases hi; exact hw0
    | n + 1, hi => simp at hi), fun f hf => (by
    simp only [List.mem_cons, List.not_mem_nil, or_false] at hf
    rcases hf with rfl | rfl
    · exact f0
    · exact f1
    ), fun e he => (by cases he), ⟨hG.1, hG.2.1, hG.2.2.1, hG.2.2.2.1, hG.2.2.2.2.1, hG.2.2.2.2.2.1, hG.2.2.2.2.2.2.1, hG.2.2.2.2.2.2.2.1, hG.2.2.2.2.2.2.2.2.1, hG.2.2.2.2.2.2.2.2.2.1, hG.2.2.2.2.2.2.2.2.2.2.1, hG.2.2.2.2.2.2.2.2.2.2.2.1, c12, hG.2.2.2.2.2.2.2.2.2.2.2.2.2.1, hG.2.2.2.2.2.2.2.2.2.2.2.2.2.2.1, hG.2.2.2.2.2.2.2.2.2.2.2.2.2.2.2⟩⟩
theorem sx_q_l_cp2_0 {γ : Nat → Int} {A : Nat → Nat → Int} {j : Nat} {y : Int} (hG : sx_GG γ A) (f0 : 0 ≤ (-2560) + (1 * y + 0)) (f1 : 0 ≤ 0 + (1 * γ 18475 + ((-1) * y + 0))) (c15 : sx_x5 (2 + 0) (0 + (1 * (j : Int) + 0)) (0 + (1 * y + 0)) (A 117) (A 119) (A 120) (A 121) (A 115) (A 116) (A 113) (A 114)) : ∃ a ∈ sx_r_l_cp2.2, ∃ w : Nat → Int, (∀ (i : Nat) p, a.1[i]? = some p → p.2.1 ≤ w i ∧ w i ≤ p.2.2) ∧ (∀ f ∈ a.2.1, 0 ≤ sx_d (sx_th γ (j : Int) y w) f) ∧ (∀ e, a.2.2.2.head? = some e → sx_d (sx_th γ (j : Int) y w) e = y) ∧ sx_GG (sx_gu γ (sx_th γ (j : Int) y w) a.2.2.1) (if false = true then sx_au A 119 j y else A) := ⟨([], [((-2560), [(19001, 1)]), (0, [(18475, 1), (19001, (-1))])], [(18498, (2, [])), (18499, (0, [(19000, 1)])), (18500, (0, [(19001, 1)]))], []), List.Mem.head _, (fun _ => 0), fun i p hi => (by
    match i, hi with
    | n + 0, hi => simp at hi), fun f hf => (by
    simp only [List.mem_cons, List.not_mem_nil, or_false] at hf
    rcases hf with rfl | rfl
    · exact f0
    · exact f1
    ), fun e he => (by cases he), ⟨hG.1, hG.2.1, hG.2.2.1, hG.2.2.2.1, hG.2.2.2.2.1, hG.2.2.2.2.2.1, hG.2.2.2.2.2.2.1, hG.2.2.2.2.2.2.2.1, hG.2.2.2.2.2.2.2.2.1, hG.2.2.2.2.2.2.2.2.2.1, hG.2.2.2.2.2.2.2.2.2.2.1, hG.2.2.2.2.2.2.2.2.2.2.2.1, hG.2.2.2.2.2.2.2.2.2.2.2.2.1, hG.2.2.2.2.2.2.2.2.2.2.2.2.2.1, hG.2.2.2.2.2.2.2.2.2.2.2.2.2.2.1, c15⟩⟩
theorem sx_q_l_lt_0 {γ : Nat → Int} {A : Nat → Nat → Int} {j : Nat} {y : Int} (hG : sx_GG γ A) (hv : 0 + (1 * γ 18466 + 0) = y) : ∃ a ∈ sx_r_l_lt.2, ∃ w : Nat → Int, (∀ (i : Nat) p, a.1[i]? = some p → p.2.1 ≤ w i ∧ w i ≤ p.2.2) ∧ (∀ f ∈ a.2.1, 0 ≤ sx_d (sx_th γ (j : Int) y w) f) ∧ (∀ e, a.2.2.2.head? = some e → sx_d (sx_th γ (j : Int) y w) e = y) ∧ sx_GG (sx_gu γ (sx_th γ (j : Int) y w) a.2.2.1) (if false = true then sx_au A 120 j y else A) := ⟨([], [], [], [(0, [(18466, 1)])]), List.Mem.head _, (fun _ => 0), fun i p hi => (by
    match i, hi with
    | n + 0, hi => simp at hi), fun f hf => (by cases hf), fun e he => (by cases he; exact hv), ⟨hG.1, hG.2.1, hG.2.2.1, hG.2.2.2.1, hG.2.2.2.2.1, hG.2.2.2.2.2.1, hG.2.2.2.2.2.2.1, hG.2.2.2.2.2.2.2.1, hG.2.2.2.2.2.2.2.2.1, hG.2.2.2.2.2.2.2.2.2.1, hG.2.2.2.2.2.2.2.2.2.2.1, hG.2.2.2.2.2.2.2.2.2.2.2.1, hG.2.2.2.2.2.2.2.2.2.2.2.2.1, hG.2.2.2.2.2.2.2.2.2.2.2.2.2.1, hG.2.2.2.2.2.2.2.2.2.2.2.2.2.2.1, hG.2.2.2.2.2.2.2.2.2.2.2.2.2.2.2⟩⟩
theorem sx_q_l_cp3_0 {γ : Nat → Int} {A : Nat → Nat → Int} {j : Nat} {y : Int} (hG : sx_GG γ A) (f0 : 0 ≤ (-2560) + (1 * y + 0)) (f1 : 0 ≤ 0 + (1 * γ 18475 + ((-1) * y + 0))) (c15 : sx_x5 (3 + 0) (0 + (1 * (j : Int) + 0)) (0 + (1 * y + 0)) (A 117) (A 119) (A 120) (A 121) (A 115) (A 116) (A 113) (A 114)) : ∃ a ∈ sx_r_l_cp3.2, ∃ w : Nat → Int, (∀ (i : Nat) p, a.1[i]? = some p → p.2.1 ≤ w i ∧ w i ≤ p.2.2) ∧ (∀ f ∈ a.2.1, 0 ≤ sx_d (sx_th γ (j : Int) y w) f) ∧ (∀ e, a.2.2.2.head? = some e → sx_d (sx_th γ (j : Int) y w) e = y) ∧ sx_GG (sx_gu γ (sx_th γ (j : Int) y w) a.2.2.1) (if false = true then sx_au A 120 j y else A) := ⟨([], [((-2560), [(19001, 1)]), (0, [(18475, 1), (19001, (-1))])], [(18498, (3, [])), (18499, (0, [(19000, 1)])), (18500, (0, [(19001, 1)]))], []), List.Mem.head _, (fun _ => 0), fun i p hi => (by
    match i, hi with
    | n + 0, hi => simp at hi), fun f hf => (by
    simp only [List.mem_cons, List.not_mem_nil, or_false] at hf
    rcases hf with rfl | rfl
    · exact f0
    · exact f1
    ), fun e he => (by cases he), ⟨hG.1, hG.2.1, hG.2.2.1, hG.2.2.2.1, hG.2.2.2.2.1, hG.2.2.2.2.2.1, hG.2.2.2.2.2.2.1, hG.2.2.2.2.2.2.2.1, hG.2.2.2.2.2.2.2.2.1, hG.2.2.2.2.2.2.2.2.2.1, hG.2.2.2.2.2.2.2.2.2.2.1, hG.2.2.2.2.2.2.2.2.2.2.2.1, hG.2.2.2.2.2.2.2.2.2.2.2.2.1, hG.2.2.2.2.2.2.2.2.2.2.2.2.2.1, hG.2.2.2.2.2.2.2.2.2.2.2.2.2.2.1, c15⟩⟩
theorem sx_q_l_rt_0 {γ : Nat → Int} {A : Nat → Nat → Int} {j : Nat} {y : Int} (hG : sx_GG γ A) (f0 : 0 ≤ 0 + ((-1) * γ 18466 + (1 * y + 0))) (f1 : 0 ≤ 320 + (1 * γ 18466 + ((-1) * y + 0))) (c12 : sx_x2 (γ 18461) (0 + (1 * γ 18466 + 0)) (0 + 0) (0 + (1 * y + 0)) (γ 18465) (γ 18466) (γ 18467) (γ 18468) (γ 18469) (γ 18470) (γ 18471) (γ 18472) (γ 18473) (A 117) (A 119) (A 120) (A 121) (A 116) (A 114) (A 111)) : ∃ a ∈ sx_r_l_rt.2, ∃ w : Nat → Int, (∀ (i : Nat) p, a.1[i]? = some p → p.2.1 ≤ w i ∧ w i ≤ p.2.2) ∧ (∀ f ∈ a.2.1, 0 ≤ sx_d (sx_th γ (j : Int) y w) f) ∧ (∀ e, a.2.2.2.head? = some e → sx_d (sx_th γ (j : Int) y w) e = y) ∧ sx_GG (sx_gu γ (sx_th γ (j : Int) y w) a.2.2.1) (if false = true then sx_au A 121 j y else A) := ⟨([], [(0, [(18466, (-1)), (19001, 1)]), (320, [(18466, 1), (19001, (-1))])], [(18462, (0, [(18466, 1)])), (18463, (0, [])), (18464, (0, [(19001, 1)]))], []), List.Mem.head _, (fun _ => 0), fun i p hi => (by
    match i, hi with
    | n + 0, hi => simp at hi), fun f hf => (by
    simp only [List.mem_cons, List.not_mem_nil, or_false] at hf
    rcases hf with rfl | rfl
    · exact f0
    · exact f1
    ), fun e he => (by cases he), ⟨hG.1, hG.2.1, hG.2.2.1, hG.2.2.2.1, hG.2.2.2.2.1, hG.2.2.2.2.2.1, hG.2.2.2.2.2.2.1, hG.2.2.2.2.2.2.2.1, hG.2.2.2.2.2.2.2.2.1, hG.2.2.2.2.2.2.2.2.2.1, hG.2.2.2.2.2.2.2.2.2.2.1, hG.2.2.2.2.2.2.2.2.2.2.2.1, c12, hG.2.2.2.2.2.2.2.2.2.2.2.2.2.1, hG.2.2.2.2.2.2.2.2.2.2.2.2.2.2.1, hG.2.2.2.2.2.2.2.2.2.2.2.2.2.2.2⟩⟩
theorem sx_q_l_cp4_0 {γ : Nat → Int} {A : Nat → Nat → Int} {j : Nat} {y : Int} (hG : sx_GG γ A) (f0 : 0 ≤ (-2560) + (1 * y + 0)) (f1 : 0 ≤ 0 + (1 * γ 18475 + ((-1) * y + 0))) (c15 : sx_x5 (4 + 0) (0 + (1 * (j : Int) + 0)) (0 + (1 * y + 0)) (A 117) (A 119) (A 120) (A 121) (A 115) (A 116) (A 113) (A 114)) : ∃ a ∈ sx_r_l_cp4.2, ∃ w : Nat → Int, (∀ (i : Nat) p, a.1[i]? = some p → p.2.1 ≤ w i ∧ w i ≤ p.2.2) ∧ (∀ f ∈ a.2.1, 0 ≤ sx_d (sx_th γ (j : Int) y w) f) ∧ (∀ e, a.2.2.2.head? = some e → sx_d (sx_th γ (j : Int) y w) e = y) ∧ sx_GG (sx_gu γ (sx_th γ (j : Int) y w) a.2.2.1) (if false = true then sx_au A 121 j y else A) := ⟨([], [((-2560), [(19001, 1)]), (0, [(18475, 1), (19001, (-1))])], [(18498, (4, [])), (18499, (0, [(19000, 1)])), (18500, (0, [(19001, 1)]))], []), List.Mem.head _, (fun _ => 0), fun i p hi => (by
    match i, hi with
    | n + 0, hi => simp at hi), fun f hf => (by
    simp only [List.mem_cons, List.not_mem_nil, or_false] at hf
    rcases hf with rfl | rfl
    · exact f0
    · exact f1
    ), fun e he => (by cases he), ⟨hG.1, hG.2.1, hG.2.2.1, hG.2.2.2.1, hG.2.2.2.2.1, hG.2.2.2.2.2.1, hG.2.2.2.2.2.2.1, hG.2.2.2.2.2.2.2.1, hG.2.2.2.2.2.2.2.2.1, hG.2.2.2.2.2.2.2.2.2.1, hG.2.2.2.2.2.2.2.2.2.2.1, hG.2.2.2.2.2.2.2.2.2.2.2.1, hG.2.2.2.2.2.2.2.2.2.2.2.2.1, hG.2.2.2.2.2.2.2.2.2.2.2.2.2.1, hG.2.2.2.2.2.2.2.2.2.2.2.2.2.2.1, c15⟩⟩
theorem sx_q_l_zS0_0 {γ : Nat → Int} {A : Nat → Nat → Int} {j : Nat} {y : Int} (hG : sx_GG γ A) (f0 : 0 ≤ 0 + ((-1) * γ 18446 + 0)) (hv : 0 + 0 = y) : ∃ a ∈ sx_r_l_zS0.2, ∃ w : Nat → Int, (∀ (i : Nat) p, a.1[i]? = some p → p.2.1 ≤ w i ∧ w i ≤ p.2.2) ∧ (∀ f ∈ a.2.1, 0 ≤ sx_d (sx_th γ (j : Int) y w) f) ∧ (∀ e, a.2.2.2.head? = some e → sx_d (sx_th γ (j : Int) y w) e = y) ∧ sx_GG (sx_gu γ (sx_th γ (j : Int) y w) a.2.2.1) (if false = true then sx_au A 123 j y else A) := ⟨([], [(0, [(18446, (-1))])], [], [(0, [])]), List.Mem.head _, (fun _ => 0), fun i p hi => (by
    match i, hi with
    | n + 0, hi => simp at hi), fun f hf => (by
    simp only [List.mem_cons, List.not_mem_nil, or_false] at hf
    rcases hf with rfl
    · exact f0
    ), fun e he => (by cases he; exact hv), ⟨hG.1, hG.2.1, hG.2.2.1, hG.2.2.2.1, hG.2.2.2.2.1, hG.2.2.2.2.2.1, hG.2.2.2.2.2.2.1, hG.2.2.2.2.2.2.2.1, hG.2.2.2.2.2.2.2.2.1, hG.2.2.2.2.2.2.2.2.2.1, hG.2.2.2.2.2.2.2.2.2.2.1, hG.2.2.2.2.2.2.2.2.2.2.2.1, hG.2.2.2.2.2.2.2.2.2.2.2.2.1, hG.2.2.2.2.2.2.2.2.2.2.2.2.2.1, hG.2.2.2.2.2.2.2.2.2.2.2.2.2.2.1, hG.2.2.2.2.2.2.2.2.2.2.2.2.2.2.2⟩⟩
theorem sx_q_l_zS0_1 {γ : Nat → Int} {A : Nat → Nat → Int} {j : Nat} {y : Int} (hG : sx_GG γ A) (f0 : 0 ≤ (-42) + (1 * y + 0)) (f1 : 0 ≤ (-1) + (1 * γ 18446 + 0)) : ∃ a ∈ sx_r_l_zS0.2, ∃ w : Nat → Int, (∀ (i : Nat) p, a.1[i]? = some p → p.2.1 ≤ w i ∧ w i ≤ p.2.2) ∧ (∀ f ∈ a.2.1, 0 ≤ sx_d (sx_th γ (j : Int) y w) f) ∧ (∀ e, a.2.2.2.head? = some e → sx_d (sx_th γ (j : Int) y w) e = y) ∧ sx_GG (sx_gu γ (sx_th γ (j : Int) y w) a.2.2.1) (if false = true then sx_au A 123 j y else A) := ⟨([], [((-42), [(19001, 1)]), ((-1), [(18446, 1)])], [], []), List.Mem.tail _ (List.Mem.head _), (fun _ => 0), fun i p hi => (by
    match i, hi with
    | n + 0, hi => simp at hi), fun f hf => (by
    simp only [List.mem_cons, List.not_mem_nil, or_false] at hf
    rcases hf with rfl | rfl
    · exact f0
    · exact f1
    ), fun e he => (by cases he), ⟨hG.1, hG.2.1, hG.2.2.1, hG.2.2.2.1, hG.2.2.2.2.1, hG.2.2.2.2.2.1, hG.2.2.2.2.2.2.1, hG.2.2.2.2.2.2.2.1, hG.2.2.2.2.2.2.2.2.1, hG.2.2.2.2.2.2.2.2.2.1, hG.2.2.2.2.2.2.2.2.2.2.1, hG.2.2.2.2.2.2.2.2.2.2.2.1, hG.2.2.2.2.2.2.2.2.2.2.2.2.1, hG.2.2.2.2.2.2.2.2.2.2.2.2.2.1, hG.2.2.2.2.2.2.2.2.2.2.2.2.2.2.1, hG.2.2.2.2.2.2.2.2.2.2.2.2.2.2.2⟩⟩
theorem sx_q_l_zS1_0 {γ : Nat → Int} {A : Nat → Nat → Int} {j : Nat} {y : Int} (hG : sx_GG γ A) (f0 : 0 ≤ 0 + ((-1) * γ 18447 + 0)) (hv : 0 + 0 = y) : ∃ a ∈ sx_r_l_zS1.2, ∃ w : Nat → Int, (∀ (i : Nat) p, a.1[i]? = some p → p.2.1 ≤ w i ∧ w i ≤ p.2.2) ∧ (∀ f ∈ a.2.1, 0 ≤ sx_d (sx_th γ (j : Int) y w) f) ∧ (∀ e, a.2.2.2.head? = some e → sx_d (sx_th γ (j : Int) y w) e = y) ∧ sx_GG (sx_gu γ (sx_th γ (j : Int) y w) a.2.2.1) (if false = true then sx_au A 123 j y else A) := ⟨([], [(0, [(18447, (-1))])], [], [(0, [])]), List.Mem.head _, (fun _ => 0), fun i p hi => (by
    match i, hi with
    | n + 0, hi => simp at hi), fun f hf => (by
    simp only [List.mem_cons, List.not_mem_nil, or_false] at hf
    rcases hf with rfl
    · exact f0
    ), fun e he => (by cases he; exact hv), ⟨hG.1, hG.2.1, hG.2.2.1, hG.2.2.2.1, hG.2.2.2.2.1, hG.2.2.2.2.2.1, hG.2.2.2.2.2.2.1, hG.2.2.2.2.2.2.2.1, hG.2.2.2.2.2.2.2.2.1, hG.2.2.2.2.2.2.2.2.2.1, hG.2.2.2.2.2.2.2.2.2.2.1, hG.2.2.2.2.2.2.2.2.2.2.2.1, hG.2.2.2.2.2.2.2.2.2.2.2.2.1, hG.2.2.2.2.2.2.2.2.2.2.2.2.2.1, hG.2.2.2.2.2.2.2.2.2.2.2.2.2.2.1, hG.2.2.2.2.2.2.2.2.2.2.2.2.2.2.2⟩⟩
theorem sx_q_l_zS1_1 {γ : Nat → Int} {A : Nat → Nat → Int} {j : Nat} {y : Int} (hG : sx_GG γ A) (f0 : 0 ≤ (-42) + (1 * y + 0)) (f1 : 0 ≤ (-1) + (1 * γ 18447 + 0)) : ∃ a ∈ sx_r_l_zS1.2, ∃ w : Nat → Int, (∀ (i : Nat) p, a.1[i]? = some p → p.2.1 ≤ w i ∧ w i ≤ p.2.2) ∧ (∀ f ∈ a.2.1, 0 ≤ sx_d (sx_th γ (j : Int) y w) f) ∧ (∀ e, a.2.2.2.head? = some e → sx_d (sx_th γ (j : Int) y w) e = y) ∧ sx_GG (sx_gu γ (sx_th γ (j : Int) y w) a.2.2.1) (if false = true then sx_au A 123 j y else A) := ⟨([], [((-42), [(19001, 1)]), ((-1), [(18447, 1)])], [], []), List.Mem.tail _ (List.Mem.head _), (fun _ => 0), fun i p hi => (by
    match i, hi with
    | n + 0, hi => simp at hi), fun f hf => (by
    simp only [List.mem_cons, List.not_mem_nil, or_false] at hf
    rcases hf with rfl | rfl
    · exact f0
    · exact f1
    ), fun e he => (by cases he), ⟨hG.1, hG.2.1, hG.2.2.1, hG.2.2.2.1, hG.2.2.2.2.1, hG.2.2.2.2.2.1, hG.2.2.2.2.2.2.1, hG.2.2.2.2.2.2.2.1, hG.2.2.2.2.2.2.2.2.1, hG.2.2.2.2.2.2.2.2.2.1, hG.2.2.2.2.2.2.2.2.2.2.1, hG.2.2.2.2.2.2.2.2.2.2.2.1, hG.2.2.2.2.2.2.2.2.2.2.2.2.1, hG.2.2.2.2.2.2.2.2.2.2.2.2.2.1, hG.2.2.2.2.2.2.2.2.2.2.2.2.2.2.1, hG.2.2.2.2.2.2.2.2.2.2.2.2.2.2.2⟩⟩
theorem sx_q_l_zS2_0 {γ : Nat → Int} {A : Nat → Nat → Int} {j : Nat} {y : Int} (hG : sx_GG γ A) (f0 : 0 ≤ 0 + ((-1) * γ 18448 + 0)) (hv : 0 + 0 = y) : ∃ a ∈ sx_r_l_zS2.2, ∃ w : Nat → Int, (∀ (i : Nat) p, a.1[i]? = some p → p.2.1 ≤ w i ∧ w i ≤ p.2.2) ∧ (∀ f ∈ a.2.1, 0 ≤ sx_d (sx_th γ (j : Int) y w) f) ∧ (∀ e, a.2.2.2.head? = some e → sx_d (sx_th γ (j : Int) y w) e = y) ∧ sx_GG (sx_gu γ (sx_th γ (j : Int) y w) a.2.2.1) (if false = true then sx_au A 123 j y else A) := ⟨([], [(0, [(18448, (-1))])], [], [(0, [])]), List.Mem.head _, (fun _ => 0), fun i p hi => (by
    match i, hi with
    | n + 0, hi => simp at hi), fun f hf => (by
    simp only [List.mem_cons, List.not_mem_nil, or_false] at hf
    rcases hf with rfl
    · exact f0
    ), fun e he => (by cases he; exact hv), ⟨hG.1, hG.2.1, hG.2.2.1, hG.2.2.2.1, hG.2.2.2.2.1, hG.2.2.2.2.2.1, hG.2.2.2.2.2.2.1, hG.2.2.2.2.2.2.2.1, hG.2.2.2.2.2.2.2.2.1, hG.2.2.2.2.2.2.2.2.2.1, hG.2.2.2.2.2.2.2.2.2.2.1, hG.2.2.2.2.2.2.2.2.2.2.2.1, hG.2.2.2.2.2.2.2.2.2.2.2.2.1, hG.2.2.2.2.2.2.2.2.2.2.2.2.2.1, hG.2.2.2.2.2.2.2.2.2.2.2.2.2.2.1, hG.2.2.2.2.2.2.2.2.2.2.2.2.2.2.2⟩⟩
theorem sx_q_l_zS2_1 {γ : Nat → Int} {A : Nat → Nat → Int} {j : Nat} {y : Int} (hG : sx_GG γ A) (f0 : 0 ≤ (-42) + (1 * y + 0)) (f1 : 0 ≤ (-1) + (1 * γ 18448 + 0)) : ∃ a ∈ sx_r_l_zS2.2, ∃ w : Nat → Int, (∀ (i : Nat) p, a.1[i]? = some p → p.2.1 ≤ w i ∧ w i ≤ p.2.2) ∧ (∀ f ∈ a.2.1, 0 ≤ sx_d (sx_th γ (j : Int) y w) f) ∧ (∀ e, a.2.2.2.head? = some e → sx_d (sx_th γ (j : Int) y w) e = y) ∧ sx_GG (sx_gu γ (sx_th γ (j : Int) y w) a.2.2.1) (if false = true then sx_au A 123 j y else A) := ⟨([], [((-42), [(19001, 1)]), ((-1), [(18448, 1)])], [], []), List.Mem.tail _ (List.Mem.head _), (fun _ => 0), fun i p hi => (by
    match i, hi with
    | n + 0, hi => simp at hi), fun f hf => (by
    simp only [List.mem_cons, List.not_mem_nil, or_false] at hf
    rcases hf with rfl | rfl
    · exact f0
    · exact f1
    ), fun e he => (by cases he), ⟨hG.1, hG.2.1, hG.2.2.1, hG.2.2.2.1, hG.2.2.2.2.1, hG.2.2.2.2.2.1, hG.2.2.2.2.2.2.1, hG.2.2.2.2.2.2.2.1, hG.2.2.2.2.2.2.2.2.1, hG.2.2.2.2.2.2.2.2.2.1, hG.2.2.2.2.2.2.2.2.2.2.1, hG.2.2.2.2.2.2.2.2.2.2.2.1, hG.2.2.2.2.2.2.2.2.2.2.2.2.1, hG.2.2.2.2.2.2.2.2.2.2.2.2.2.1, hG.2.2.2.2.2.2.2.2.2.2.2.2.2.2.1, hG.2.2.2.2.2.2.2.2.2.2.2.2.2.2.2⟩⟩
theorem sx_q_l_zS3_0 {γ : Nat → Int} {A : Nat → Nat → Int} {j : Nat} {y : Int} (hG : sx_GG γ A) (f0 : 0 ≤ 0 + ((-1) * γ 18449 + 0)) (hv : 0 + 0 = y) : ∃ a ∈ sx_r_l_zS3.2, ∃ w : Nat → Int, (∀ (i : Nat) p, a.1[i]? = some p → p.2.1 ≤ w i ∧ w i ≤ p.2.2) ∧ (∀ f ∈ a.2.1, 0 ≤ sx_d (sx_th γ (j : Int) y w) f) ∧ (∀ e, a.2.2.2.head? = some e → sx_d (sx_th γ (j : Int) y w) e = y) ∧ sx_GG (sx_gu γ (sx_th γ (j : Int) y w) a.2.2.1) (if false = true then sx_au A 123 j y else A) := ⟨([], [(0, [(18449, (-1))])], [], [(0, [])]), List.Mem.head _, (fun _ => 0), fun i p hi => (by
    match i, hi with
    | n + 0, hi => simp at hi), fun f hf => (by
    simp only [List.mem_cons, List.not_mem_nil, or_false] at hf
    rcases hf with rfl
    · exact f0
    ), fun e he => (by cases he; exact hv), ⟨hG.1, hG.2.1, hG.2.2.1, hG.2.2.2.1, hG.2.2.2.2.1, hG.2.2.2.2.2.1, hG.2.2.2.2.2.2.1, hG.2.2.2.2.2.2.2.1, hG.2.2.2.2.2.2.2.2.1, hG.2.2.2.2.2.2.2.2.2.1, hG.2.2.2.2.2.2.2.2.2.2.1, hG.2.2.2.2.2.2.2.2.2.2.2.1, hG.2.2.2.2.2.2.2.2.2.2.2.2.1, hG.2.2.2.2.2.2.2.2.2.2.2.2.2.1, hG.2.2.2.2.2.2.2.2.2.2.2.2.2.2.1, hG.2.2.2.2.2.2.2.2.2.2.2.2.2.2.2⟩⟩
theorem sx_q_l_zS3_1 {γ : Nat → Int} {A : Nat → Nat → Int} {j : Nat} {y : Int} (hG : sx_GG γ A) (f0 : 0 ≤ (-42) + (1 * y + 0)) (f1 : 0 ≤ (-1) + (1 * γ 18449 + 0)) : ∃ a ∈ sx_r_l_zS3.2, ∃ w : Nat → Int, (∀ (i : Nat) p, a.1[i]? = some p → p.2.1 ≤ w i ∧ w i ≤ p.2.2) ∧ (∀ f ∈ a.2.1, 0 ≤ sx_d (sx_th γ (j : Int) y w) f) ∧ (∀ e, a.2.2.2.head? = some e → sx_d (sx_th γ (j : Int) y w) e = y) ∧ sx_GG (sx_gu γ (sx_th γ (j : Int) y w) a.2.2.1) (if false = true then sx_au A 123 j y else A) := ⟨([], [((-42), [(19001, 1)]), ((-1), [(18449, 1)])], [], []), List.Mem.tail _ (List.Mem.head _), (fun _ => 0), fun i p hi => (by
    match i, hi with
    | n + 0, hi => simp at hi), fun f hf => (by
    simp only [List.mem_cons, List.not_mem_nil, or_false] at hf
    rcases hf with rfl | rfl
    · exact f0
    · exact f1
    ), fun e he => (by cases he), ⟨hG.1, hG.2.1, hG.2.2.1, hG.2.2.2.1, hG.2.2.2.2.1, hG.2.2.2.2.2.1, hG.2.2.2.2.2.2.1, hG.2.2.2.2.2.2.2.1, hG.2.2.2.2.2.2.2.2.1, hG.2.2.2.2.2.2.2.2.2.1, hG.2.2.2.2.2.2.2.2.2.2.1, hG.2.2.2.2.2.2.2.2.2.2.2.1, hG.2.2.2.2.2.2.2.2.2.2.2.2.1, hG.2.2.2.2.2.2.2.2.2.2.2.2.2.1, hG.2.2.2.2.2.2.2.2.2.2.2.2.2.2.1, hG.2.2.2.2.2.2.2.2.2.2.2.2.2.2.2⟩⟩
theorem sx_q_l_zS4_0 {γ : Nat → Int} {A : Nat → Nat → Int} {j : Nat} {y : Int} (hG : sx_GG γ A) (f0 : 0 ≤ 0 + ((-1) * γ 18450 + 0)) (hv : 0 + 0 = y) : ∃ a ∈ sx_r_l_zS4.2, ∃ w : Nat → Int, (∀ (i : Nat) p, a.1[i]? = some p → p.2.1 ≤ w i ∧ w i ≤ p.2.2) ∧ (∀ f ∈ a.2.1, 0 ≤ sx_d (sx_th γ (j : Int) y w) f) ∧ (∀ e, a.2.2.2.head? = some e → sx_d (sx_th γ (j : Int) y w) e = y) ∧ sx_GG (sx_gu γ (sx_th γ (j : Int) y w) a.2.2.1) (if false = true then sx_au A 123 j y else A) := ⟨([], [(0, [(18450, (-1))])], [], [(0, [])]), List.Mem.head _, (fun _ => 0), fun i p hi => (by
    match i, hi with
    | n + 0, hi => simp at hi), fun f hf => (by
    simp only [List.mem_cons, List.not_mem_nil, or_false] at hf
    rcases hf with rfl
    · exact f0
    ), fun e he => (by cases he; exact hv), ⟨hG.1, hG.2.1, hG.2.2.1, hG.2.2.2.1, hG.2.2.2.2.1, hG.2.2.2.2.2.1, hG.2.2.2.2.2.2.1, hG.2.2.2.2.2.2.2.1, hG.2.2.2.2.2.2.2.2.1, hG.2.2.2.2.2.2.2.2.2.1, hG.2.2.2.2.2.2.2.2.2.2.1, hG.2.2.2.2.2.2.2.2.2.2.2.1, hG.2.2.2.2.2.2.2.2.2.2.2.2.1, hG.2.2.2.2.2.2.2.2.2.2.2.2.2.1, hG.2.2.2.2.2.2.2.2.2.2.2.2.2.2.1, hG.2.2.2.2.2.2.2.2.2.2.2.2.2.2.2⟩⟩
theorem sx_q_l_zS4_1 {γ : Nat → Int} {A : Nat → Nat → Int} {j : Nat} {y : Int} (hG : sx_GG γ A) (f0 : 0 ≤ (-42) + (1 * y + 0)) (f1 : 0 ≤ (-1) + (1 * γ 18450 + 0)) : ∃ a ∈ sx_r_l_zS4.2, ∃ w : Nat → Int, (∀ (i : Nat) p, a.1[i]? = some p → p.2.1 ≤ w i ∧ w i ≤ p.2.2) ∧ (∀ f ∈ a.2.1, 0 ≤ sx_d (sx_th γ (j : Int) y w) f) ∧ (∀ e, a.2.2.2.head? = some e → sx_d (sx_th γ (j : Int) y w) e = y) ∧ sx_GG (sx_gu γ (sx_th γ (j : Int) y w) a.2.2.1) (if false = true then sx_au A 123 j y else A) := ⟨([], [((-42), [(19001, 1)]), ((-1), [(18450, 1)])], [], []), List.Mem.tail _ (List.Mem.head _), (fun _ => 0), fun i p hi => (by
    match i, hi with
    | n + 0, hi => simp at hi), fun f hf => (by
    simp only [List.mem_cons, List.not_mem_nil, or_false] at hf
    rcases hf with rfl | rfl
    · exact f0
    · exact f1
    ), fun e he => (by cases he), ⟨hG.1, hG.2.1, hG.2.2.1, hG.2.2.2.1, hG.2.2.2.2.1, hG.2.2.2.2.2.1, hG.2.2.2.2.2.2.1, hG.2.2.2.2.2.2.2.1, hG.2.2.2.2.2.2.2.2.1, hG.2.2.2.2.2.2.2.2.2.1, hG.2.2.2.2.2.2.2.2.2.2.1, hG.2.2.2.2.2.2.2.2.2.2.2.1, hG.2.2.2.2.2.2.2.2.2.2.2.2.1, hG.2.2.2.2.2.2.2.2.2.2.2.2.2.1, hG.2.2.2.2.2.2.2.2.2.2.2.2.2.2.1, hG.2.2.2.2.2.2.2.2.2.2.2.2.2.2.2⟩⟩
theorem sx_q_l_zS5_0 {γ : Nat → Int} {A : Nat → Nat → Int} {j : Nat} {y : Int} (hG : sx_GG γ A) (f0 : 0 ≤ 0 + ((-1) * γ 18451 + 0)) (hv : 0 + 0 = y) : ∃ a ∈ sx_r_l_zS5.2, ∃ w : Nat → Int, (∀ (i : Nat) p, a.1[i]? = some p → p.2.1 ≤ w i ∧ w i ≤ p.2.2) ∧ (∀ f ∈ a.2.1, 0 ≤ sx_d (sx_th γ (j : Int) y w) f) ∧ (∀ e, a.2.2.2.head? = some e → sx_d (sx_th γ (j : Int) y w) e = y) ∧ sx_GG (sx_gu γ (sx_th γ (j : Int) y w) a.2.2.1) (if false = true then sx_au A 123 j y else A) := ⟨([], [(0, [(18451, (-1))])], [], [(0, [])]), List.Mem.head _, (fun _ => 0), fun i p hi => (by
    match i, hi with
    | n + 0, hi => simp at hi), fun f hf => (by
    simp only [List.mem_cons, List.not_mem_nil, or_false] at hf
    rcases hf with rfl
    · exact f0
    ), fun e he => (by cases he; exact hv), ⟨hG.1, hG.2.1, hG.2.2.1, hG.2.2.2.1, hG.2.2.2.2.1, hG.2.2.2.2.2.1, hG.2.2.2.2.2.2.1, hG.2.2.2.2.2.2.2.1, hG.2.2.2.2.2.2.2.2.1, hG.2.2.2.2.2.2.2.2.2.1, hG.2.2.2.2.2.2.2.2.2.2.1, hG.2.2.2.2.2.2.2.2.2.2.2.1, hG.2.2.2.2.2.2.2.2.2.2.2.2.1, hG.2.2.2.2.2.2.2.2.2.2.2.2.2.1, hG.2.2.2.2.2.2.2.2.2.2.2.2.2.2.1, hG.2.2.2.2.2.2.2.2.2.2.2.2.2.2.2⟩⟩
theorem sx_q_l_zS5_1 {γ : Nat → Int} {A : Nat → Nat → Int} {j : Nat} {y : Int} (hG : sx_GG γ A) (f0 : 0 ≤ (-42) + (1 * y + 0)) (f1 : 0 ≤ (-1) + (1 * γ 18451 + 0)) : ∃ a ∈ sx_r_l_zS5.2, ∃ w : Nat → Int, (∀ (i : Nat) p, a.1[i]? = some p → p.2.1 ≤ w i ∧ w i ≤ p.2.2) ∧ (∀ f ∈ a.2.1, 0 ≤ sx_d (sx_th γ (j : Int) y w) f) ∧ (∀ e, a.2.2.2.head? = some e → sx_d (sx_th γ (j : Int) y w) e = y) ∧ sx_GG (sx_gu γ (sx_th γ (j : Int) y w) a.2.2.1) (if false = true then sx_au A 123 j y else A) := ⟨([], [((-42), [(19001, 1)]), ((-1), [(18451, 1)])], [], []), List.Mem.tail _ (List.Mem.head _), (fun _ => 0), fun i p hi => (by
    match i, hi with
    | n + 0, hi => simp at hi), fun f hf => (by
    simp only [List.mem_cons, List.not_mem_nil, or_false] at hf
    rcases hf with rfl | rfl
    · exact f0
    · exact f1
    ), fun e he => (by cases he), ⟨hG.1, hG.2.1, hG.2.2.1, hG.2.2.2.1, hG.2.2.2.2.1, hG.2.2.2.2.2.1, hG.2.2.2.2.2.2.1, hG.2.2.2.2.2.2.2.1, hG.2.2.2.2.2.2.2.2.1, hG.2.2.2.2.2.2.2.2.2.1, hG.2.2.2.2.2.2.2.2.2.2.1, hG.2.2.2.2.2.2.2.2.2.2.2.1, hG.2.2.2.2.2.2.2.2.2.2.2.2.1, hG.2.2.2.2.2.2.2.2.2.2.2.2.2.1, hG.2.2.2.2.2.2.2.2.2.2.2.2.2.2.1, hG.2.2.2.2.2.2.2.2.2.2.2.2.2.2.2⟩⟩
theorem sx_q_l_zS6_0 {γ : Nat → Int} {A : Nat → Nat → Int} {j : Nat} {y : Int} (hG : sx_GG γ A) (f0 : 0 ≤ 0 + ((-1) * γ 18452 + 0)) (hv : 0 + 0 = y) : ∃ a ∈ sx_r_l_zS6.2, ∃ w : Nat → Int, (∀ (i : Nat) p, a.1[i]? = some p → p.2.1 ≤ w i ∧ w i ≤ p.2.2) ∧ (∀ f ∈ a.2.1, 0 ≤ sx_d (sx_th γ (j : Int) y w) f) ∧ (∀ e, a.2.2.2.head? = some e → sx_d (sx_th γ (j : Int) y w) e = y) ∧ sx_GG (sx_gu γ (sx_th γ (j : Int) y w) a.2.2.1) (if false = true then sx_au A 123 j y else A) := ⟨([], [(0, [(18452, (-1))])], [], [(0, [])]), List.Mem.head _, (fun _ => 0), fun i p hi => (by
    match i, hi with
    | n + 0, hi => simp at hi), fun f hf => (by
    simp only [List.mem_cons, List.not_mem_nil, or_false] at hf
    rcases hf with rfl
    · exact f0
    ), fun e he => (by cases he; exact hv), ⟨hG.1, hG.2.1, hG.2.2.1, hG.2.2.2.1, hG.2.2.2.2.1, hG.2.2.2.2.2.1, hG.2.2.2.2.2.2.1, hG.2.2.2.2.2.2.2.1, hG.2.2.2.2.2.2.2.2.1, hG.2.2.2.2.2.2.2.2.2.1, hG.2.2.2.2.2.2.2.2.2.2.1, hG.2.2.2.2.2.2.2.2.2.2.2.1, hG.2.2.2.2.2.2.2.2.2.2.2.2.1, hG.2.2.2.2.2.2.2.2.2.2.2.2.2.1, hG.2.2.2.2.2.2.2.2.2.2.2.2.2.2.1, hG.2.2.2.2.2.2.2.2.2.2.2.2.2.2.2⟩⟩
theorem sx_q_l_zS6_1 {γ : Nat → Int} {A : Nat → Nat → Int} {j : Nat} {y : Int} (hG : sx_GG γ A) (f0 : 0 ≤ (-42) + (1 * y + 0)) (f1 : 0 ≤ (-1) + (1 * γ 18452 + 0)) : ∃ a ∈ sx_r_l_zS6.2, ∃ w : Nat → Int, (∀ (i : Nat) p, a.1[i]? = some p → p.2.1 ≤ w i ∧ w i ≤ p.2.2) ∧ (∀ f ∈ a.2.1, 0 ≤ sx_d (sx_th γ (j : Int) y w) f) ∧ (∀ e, a.2.2.2.head? = some e → sx_d (sx_th γ (j : Int) y w) e = y) ∧ sx_GG (sx_gu γ (sx_th γ (j : Int) y w) a.2.2.1) (if false = true then sx_au A 123 j y else A) := ⟨([], [((-42), [(19001, 1)]), ((-1), [(18452, 1)])], [], []), List.Mem.tail _ (List.Mem.head _), (fun _ => 0), fun i p hi => (by
    match i, hi with
    | n + 0, hi => simp at hi), fun f hf => (by
    simp only [List.mem_cons, List.not_mem_nil, or_false] at hf
    rcases hf with rfl | rfl
    · exact f0
    · exact f1
    ), fun e he => (by cases he), ⟨hG.1, hG.2.1, hG.2.2.1, hG.2.2.2.1, hG.2.2.2.2.1, hG.2.2.2.2.2.1, hG.2.2.2.2.2.2.1, hG.2.2.2.2.2.2.2.1, hG.2.2.2.2.2.2.2.2.1, hG.2.2.2.2.2.2.2.2.2.1, hG.2.2.2.2.2.2.2.2.2.2.1, hG.2.2.2.2.2.2.2.2.2.2.2.1, hG.2.2.2.2.2.2.2.2.2.2.2.2.1, hG.2.2.2.2.2.2.2.2.2.2.2.2.2.1, hG.2.2.2.2.2.2.2.2.2.2.2.2.2.2.1, hG.2.2.2.2.2.2.2.2.2.2.2.2.2.2.2⟩⟩
theorem sx_q_l_zI0_0 {γ : Nat → Int} {A : Nat → Nat → Int} {j : Nat} {y : Int} (hG : sx_GG γ A) (f0 : 0 ≤ 0 + ((-1) * γ 18439 + 0)) (hv : 0 + 0 = y) : ∃ a ∈ sx_r_l_zI0.2, ∃ w : Nat → Int, (∀ (i : Nat) p, a.1[i]? = some p → p.2.1 ≤ w i ∧ w i ≤ p.2.2) ∧ (∀ f ∈ a.2.1, 0 ≤ sx_d (sx_th γ (j : Int) y w) f) ∧ (∀ e, a.2.2.2.head? = some e → sx_d (sx_th γ (j : Int) y w) e = y) ∧ sx_GG (sx_gu γ (sx_th γ (j : Int) y w) a.2.2.1) (if false = true then sx_au A 124 j y else A) := ⟨([], [(0, [(18439, (-1))])], [], [(0, [])]), List.Mem.head _, (fun _ => 0), fun i p hi => (by
    match i, hi with
    | n + 0, hi => simp at hi), fun f hf => (by
    simp only [List.mem_cons, List.not_mem_nil, or_false] at hf
    rcases hf with rfl
    · exact f0
    ), fun e he => (by cases he; exact hv), ⟨hG.1, hG.2.1, hG.2.2.1, hG.2.2.2.1, hG.2.2.2.2.1, hG.2.2.2.2.2.1, hG.2.2.2.2.2.2.1, hG.2.2.2.2.2.2.2.1, hG.2.2.2.2.2.2.2.2.1, hG.2.2.2.2.2.2.2.2.2.1, hG.2.2.2.2.2.2.2.2.2.2.1, hG.2.2.2.2.2.2.2.2.2.2.2.1, hG.2.2.2.2.2.2.2.2.2.2.2.2.1, hG.2.2.2.2.2.2.2.2.2.2.2.2.2.1, hG.2.2.2.2.2.2.2.2.2.2.2.2.2.2.1, hG.2.2.2.2.2.2.2.2.2.2.2.2.2.2.2⟩⟩
theorem sx_q_l_zI0_1 {γ : Nat → Int} {A : Nat → Nat → Int} {j : Nat} {y : Int} (hG : sx_GG γ A) (f0 : 0 ≤ (-42) + (1 * y + 0)) (f1 : 0 ≤ (-1) + (1 * γ 18439 + 0)) : ∃ a ∈ sx_r_l_zI0.2, ∃ w : Nat → Int, (∀ (i : Nat) p, a.1[i]? = some p → p.2.1 ≤ w i ∧ w i ≤ p.2.2) ∧ (∀ f ∈ a.2.1, 0 ≤ sx_d (sx_th γ (j : Int) y w) f) ∧ (∀ e, a.2.2.2.head? = some e → sx_d (sx_th γ (j : Int) y w) e = y) ∧ sx_GG (sx_gu γ (sx_th γ (j : Int) y w) a.2.2.1) (if false = true then sx_au A 124 j y else A) := ⟨([], [((-42), [(19001, 1)]), ((-1), [(18439, 1)])], [], []), List.Mem.tail _ (List.Mem.head _), (fun _ => 0), fun i p hi => (by
    match i, hi with
    | n + 0, hi => simp at hi), fun f hf => (by
    simp only [List.mem_cons, List.not_mem_nil, or_false] at hf
    rcases hf with rfl | rfl
    · exact f0
    · exact f1
    ), fun e he => (by cases he), ⟨hG.1, hG.2.1, hG.2.2.1, hG.2.2.2.1, hG.2.2.2.2.1, hG.2.2.2.2.2.1, hG.2.2.2.2.2.2.1, hG.2.2.2.2.2.2.2.1, hG.2.2.2.2.2.2.2.2.1, hG.2.2.2.2.2.2.2.2.2.1, hG.2.2.2.2.2.2.2.2.2.2.1, hG.2.2.2.2.2.2.2.2.2.2.2.1, hG.2.2.2.2.2.2.2.2.2.2.2.2.1, hG.2.2.2.2.2.2.2.2.2.2.2.2.2.1, hG.2.2.2.2.2.2.2.2.2.2.2.2.2.2.1, hG.2.2.2.2.2.2.2.2.2.2.2.2.2.2.2⟩⟩
theorem sx_q_l_zI1_0 {γ : Nat → Int} {A : Nat → Nat → Int} {j : Nat} {y : Int} (hG : sx_GG γ A) (f0 : 0 ≤ 0 + ((-1) * γ 18440 + 0)) (hv : 0 + 0 = y) : ∃ a ∈ sx_r_l_zI1.2, ∃ w : Nat → Int, (∀ (i : Nat) p, a.1[i]? = some p → p.2.1 ≤ w i ∧ w i ≤ p.2.2) ∧ (∀ f ∈ a.2.1, 0 ≤ sx_d (sx_th γ (j : Int) y w) f) ∧ (∀ e, a.2.2.2.head? = some e → sx_d (sx_th γ (j : Int) y w) e = y) ∧ sx_GG (sx_gu γ (sx_th γ (j : Int) y w) a.2.2.1) (if false = true then sx_au A 124 j y else A) := ⟨([], [(0, [(18440, (-1))])], [], [(0, [])]), List.Mem.head _, (fun _ => 0), fun i p hi => (by
    match i, hi with
    | n + 0, hi => simp at hi), fun f hf => (by
    simp only [List.mem_cons, List.not_mem_nil, or_false] at hf
    rcases hf with rfl
    · exact f0
    ), fun e he => (by cases he; exact hv), ⟨hG.1, hG.2.1, hG.2.2.1, hG.2.2.2.1, hG.2.2.2.2.1, hG.2.2.2.2.2.1, hG.2.2.2.2.2.2.1, hG.2.2.2.2.2.2.2.1, hG.2.2.2.2.2.2.2.2.1, hG.2.2.2.2.2.2.2.2.2.1, hG.2.2.2.2.2.2.2.2.2.2.1, hG.2.2.2.2.2.2.2.2.2.2.2.1, hG.2.2.2.2.2.2.2.2.2.2.2.2.1, hG.2.2.2.2.2.2.2.2.2.2.2.2.2.1, hG.2.2.2.2.2.2.2.2.2.2.2.2.2.2.1, hG.2.2.2.2.2.2.2.2.2.2.2.2.2.2.2⟩⟩
theorem sx_q_l_zI1_1 {γ : Nat → Int} {A : Nat → Nat → Int} {j : Nat} {y : Int} (hG : sx_GG γ A) (f0 : 0 ≤ (-42) + (1 * y + 0)) (f1 : 0 ≤ (-1) + (1 * γ 18440 + 0)) : ∃ a ∈ sx_r_l_zI1.2, ∃ w : Nat → Int, (∀ (i : Nat) p, a.1[i]? = some p → p.2.1 ≤ w i ∧ w i ≤ p.2.2) ∧ (∀ f ∈ a.2.1, 0 ≤ sx_d (sx_th γ (j : Int) y w) f) ∧ (∀ e, a.2.2.2.head? = some e → sx_d (sx_th γ (j : Int) y w) e = y) ∧ sx_GG (sx_gu γ (sx_th γ (j : Int) y w) a.2.2.1) (if false = true then sx_au A 124 j y else A) := ⟨([], [((-42), [(19001, 1)]), ((-1), [(18440, 1)])], [], []), List.Mem.tail _ (List.Mem.head _), (fun _ => 0), fun i p hi => (by
    match i, hi with
    | n + 0, hi => simp at hi), fun f hf => (by
    simp only [List.mem_cons, List.not_mem_nil, or_false] at hf
    rcases hf with rfl | rfl
    · exact f0
    · exact f1
    ), fun e he => (by cases he), ⟨hG.1, hG.2.1, hG.2.2.1, hG.2.2.2.1, hG.2.2.2.2.1, hG.2.2.2.2.2.1, hG.2.2.2.2.2.2.1, hG.2.2.2.2.2.2.2.1, hG.2.2.2.2.2.2.2.2.1, hG.2.2.2.2.2.2.2.2.2.1, hG.2.2.2.2.2.2.2.2.2.2.1, hG.2.2.2.2.2.2.2.2.2.2.2.1, hG.2.2.2.2.2.2.2.2.2.2.2.2.1, hG.2.2.2.2.2.2.2.2.2.2.2.2.2.1, hG.2.2.2.2.2.2.2.2.2.2.2.2.2.2.1, hG.2.2.2.2.2.2.2.2.2.2.2.2.2.2.2⟩⟩
theorem sx_q_l_zI2_0 {γ : Nat → Int} {A : Nat → Nat → Int} {j : Nat} {y : Int} (hG : sx_GG γ A) (f0 : 0 ≤ 0 + ((-1) * γ 18441 + 0)) (hv : 0 + 0 = y) : ∃ a ∈ sx_r_l_zI2.2, ∃ w : Nat → Int, (∀ (i : Nat) p, a.1[i]? = some p → p.2.1 ≤ w i ∧ w i ≤ p.2.2) ∧ (∀ f ∈ a.2.1, 0 ≤ sx_d (sx_th γ (j : Int) y w) f) ∧ (∀ e, a.2.2.2.head? = some e → sx_d (sx_th γ (j : Int) y w) e = y) ∧ sx_GG (sx_gu γ (sx_th γ (j : Int) y w) a.2.2.1) (if false = true then sx_au A 124 j y else A) := ⟨([], [(0, [(18441, (-1))])], [], [(0, [])]), List.Mem.head _, (fun _ => 0), fun i p hi => (by
    match i, hi with
    | n + 0, hi => simp at hi), fun f hf => (by
    simp only [List.mem_cons, List.not_mem_nil, or_false] at hf
    rcases hf with rfl
    · exact f0
    ), fun e he => (by cases he; exact hv), ⟨hG.1, hG.2.1, hG.2.2.1, hG.2.2.2.1, hG.2.2.2.2.1, hG.2.2.2.2.2.1, hG.2.2.2.2.2.2.1, hG.2.2.2.2.2.2.2.1, hG.2.2.2.2.2.2.2.2.1, hG.2.2.2.2.2.2.2.2.2.1, hG.2.2.2.2.2.2.2.2.2.2.1, hG.2.2.2.2.2.2.2.2.2.2.2.1, hG.2.2.2.2.2.2.2.2.2.2.2.2.1, hG.2.2.2.2.2.2.2.2.2.2.2.2.2.1, hG.2.2.2.2.2.2.2.2.2.2.2.2.2.2.1, hG.2.2.2.2.2.2.2.2.2.2.2.2.2.2.2⟩⟩
theorem sx_q_l_zI2_1 {γ : Nat → Int} {A : Nat → Nat → Int} {j : Nat} {y : Int} (hG : sx_GG γ A) (f0 : 0 ≤ (-42) + (1 * y + 0)) (f1 : 0 ≤ (-1) + (1 * γ 18441 + 0)) : ∃ a ∈ sx_r_l_zI2.2, ∃ w : Nat → Int, (∀ (i : Nat) p, a.1[i]? = some p → p.2.1 ≤ w i ∧ w i ≤ p.2.2) ∧ (∀ f ∈ a.2.1, 0 ≤ sx_d (sx_th γ (j : Int) y w) f) ∧ (∀ e, a.2.2.2.head? = some e → sx_d (sx_th γ (j : Int) y w) e = y) ∧ sx_GG (sx_gu γ (sx_th γ (j : Int) y w) a.2.2.1) (if false = true then sx_au A 124 j y else A) := ⟨([], [((-42), [(19001, 1)]), ((-1), [(18441, 1)])], [], []), List.Mem.tail _ (List.Mem.head _), (fun _ => 0), fun i p hi => (by
    match i, hi with
    | n + 0, hi => simp at hi), fun f hf => (by
    simp only [List.mem_cons, List.not_mem_nil, or_false] at hf
    rcases hf with rfl | rfl
    · exact f0
    · exact f1
    ), fun e he => (by cases he), ⟨hG.1, hG.2.1, hG.2.2.1, hG.2.2.2.1, hG.2.2.2.2.1, hG.2.2.2.2.2.1, hG.2.2.2.2.2.2.1, hG.2.2.2.2.2.2.2.1, hG.2.2.2.2.2.2.2.2.1, hG.2.2.2.2.2.2.2.2.2.1, hG.2.2.2.2.2.2.2.2.2.2.1, hG.2.2.2.2.2.2.2.2.2.2.2.1, hG.2.2.2.2.2.2.2.2.2.2.2.2.1, hG.2.2.2.2.2.2.2.2.2.2.2.2.2.1, hG.2.2.2.2.2.2.2.2.2.2.2.2.2.2.1, hG.2.2.2.2.2.2.2.2.2.2.2.2.2.2.2⟩⟩
theorem sx_q_l_zI3_0 {γ : Nat → Int} {A : Nat → Nat → Int} {j : Nat} {y : Int} (hG : sx_GG γ A) (f0 : 0 ≤ 0 + ((-1) * γ 18442 + 0)) (hv : 0 + 0 = y) : ∃ a ∈ sx_r_l_zI3.2, ∃ w : Nat → Int, (∀ (i : Nat) p, a.1[i]? = some p → p.2.1 ≤ w i ∧ w i ≤ p.2.2) ∧ (∀ f ∈ a.2.1, 0 ≤ sx_d (sx_th γ (j : Int) y w) f) ∧ (∀ e, a.2.2.2.head? = some e → sx_d (sx_th γ (j : Int) y w) e = y) ∧ sx_GG (sx_gu γ (sx_th γ (j : Int) y w) a.2.2.1) (if false = true then sx_au A 124 j y else A) := ⟨([], [(0, [(18442, (-1))])], [], [(0, [])]), List.Mem.head _, (fun _ => 0), fun i p hi => (by
    match i, hi with
    | n + 0, hi => simp at hi), fun f hf => (by
    simp only [List.mem_cons, List.not_mem_nil, or_false] at hf
    rcases hf with rfl
    · exact f0
    ), fun e he => (by cases he; exact hv), ⟨hG.1, hG.2.1, hG.2.2.1, hG.2.2.2.1, hG.2.2.2.2.1, hG.2.2.2.2.2.1, hG.2.2.2.2.2.2.1, hG.2.2.2.2.2.2.2.1, hG.2.2.2.2.2.2.2.2.1, hG.2.2.2.2.2.2.2.2.2.1, hG.2.2.2.2.2.2.2.2.2.2.1, hG.2.2.2.2.2.2.2.2.2.2.2.1, hG.2.2.2.2.2.2.2.2.2.2.2.2.1, hG.2.2.2.2.2.2.2.2.2.2.2.2.2.1, hG.2.2.2.2.2.2.2.2.2.2.2.2.2.2.1, hG.2.2.2.2.2.2.2.2.2.2.2.2.2.2.2⟩⟩
theorem sx_q_l_zI3_1 {γ : Nat → Int} {A : Nat → Nat → Int} {j : Nat} {y : Int} (hG : sx_GG γ A) (f0 : 0 ≤ (-42) + (1 * y + 0)) (f1 : 0 ≤ (-1) + (1 * γ 18442 + 0)) : ∃ a ∈ sx_r_l_zI3.2, ∃ w : Nat → Int, (∀ (i : Nat) p, a.1[i]? = some p → p.2.1 ≤ w i ∧ w i ≤ p.2.2) ∧ (∀ f ∈ a.2.1, 0 ≤ sx_d (sx_th γ (j : Int) y w) f) ∧ (∀ e, a.2.2.2.head? = some e → sx_d (sx_th γ (j : Int) y w) e = y) ∧ sx_GG (sx_gu γ (sx_th γ (j : Int) y w) a.2.2.1) (if false = true then sx_au A 124 j y else A) := ⟨([], [((-42), [(19001, 1)]), ((-1), [(18442, 1)])], [], []), List.Mem.tail _ (List.Mem.head _), (fun _ => 0), fun i p hi => (by
    match i, hi with
    | n + 0, hi => simp at hi), fun f hf => (by
    simp only [List.mem_cons, List.not_mem_nil, or_false] at hf
    rcases hf with rfl | rfl
    · exact f0
    · exact f1
    ), fun e he => (by cases he), ⟨hG.1, hG.2.1, hG.2.2.1, hG.2.2.2.1, hG.2.2.2.2.1, hG.2.2.2.2.2.1, hG.2.2.2.2.2.2.1, hG.2.2.2.2.2.2.2.1, hG.2.2.2.2.2.2.2.2.1, hG.2.2.2.2.2.2.2.2.2.1, hG.2.2.2.2.2.2.2.2.2.2.1, hG.2.2.2.2.2.2.2.2.2.2.2.1, hG.2.2.2.2.2.2.2.2.2.2.2.2.1, hG.2.2.2.2.2.2.2.2.2.2.2.2.2.1, hG.2.2.2.2.2.2.2.2.2.2.2.2.2.2.1, hG.2.2.2.2.2.2.2.2.2.2.2.2.2.2.2⟩⟩
theorem sx_q_l_zI4_0 {γ : Nat → Int} {A : Nat → Nat → Int} {j : Nat} {y : Int} (hG : sx_GG γ A) (f0 : 0 ≤ 0 + ((-1) * γ 18443 + 0)) (hv : 0 + 0 = y) : ∃ a ∈ sx_r_l_zI4.2, ∃ w : Nat → Int, (∀ (i : Nat) p, a.1[i]? = some p → p.2.1 ≤ w i ∧ w i ≤ p.2.2) ∧ (∀ f ∈ a.2.1, 0 ≤ sx_d (sx_th γ (j : Int) y w) f) ∧ (∀ e, a.2.2.2.head? = some e → sx_d (sx_th γ (j : Int) y w) e = y) ∧ sx_GG (sx_gu γ (sx_th γ (j : Int) y w) a.2.2.1) (if false = true then sx_au A 124 j y else A) := ⟨([], [(0, [(18443, (-1))])], [], [(0, [])]), List.Mem.head _, (fun _ => 0), fun i p hi => (by
    match i, hi with
    | n + 0, hi => simp at hi), fun f hf => (by
    simp only [List.mem_cons, List.not_mem_nil, or_false] at hf
    rcases hf with rfl
    · exact f0
    ), fun e he => (by cases he; exact hv), ⟨hG.1, hG.2.1, hG.2.2.1, hG.2.2.2.1, hG.2.2.2.2.1, hG.2.2.2.2.2.1, hG.2.2.2.2.2.2.1, hG.2.2.2.2.2.2.2.1, hG.2.2.2.2.2.2.2.2.1, hG.2.2.2.2.2.2.2.2.2.1, hG.2.2.2.2.2.2.2.2.2.2.1, hG.2.2.2.2.2.2.2.2.2.2.2.1, hG.2.2.2.2.2.2.2.2.2.2.2.2.1, hG.2.2.2.2.2.2.2.2.2.2.2.2.2.1, hG.2.2.2.2.2.2.2.2.2.2.2.2.2.2.1, hG.2.2.2.2.2.2.2.2.2.2.2.2.2.2.2⟩⟩
theorem sx_q_l_zI4_1 {γ : Nat → Int} {A : Nat → Nat → Int} {j : Nat} {y : Int} (hG : sx_GG γ A) (f0 : 0 ≤ (-42) + (1 * y + 0)) (f1 : 0 ≤ (-1) + (1 * γ 18443 + 0)) : ∃ a ∈ sx_r_l_zI4.2, ∃ w : Nat → Int, (∀ (i : Nat) p, a.1[i]? = some p → p.2.1 ≤ w i ∧ w i ≤ p.2.2) ∧ (∀ f ∈ a.2.1, 0 ≤ sx_d (sx_th γ (j : Int) y w) f) ∧ (∀ e, a.2.2.2.head? = some e → sx_d (sx_th γ (j : Int) y w) e = y) ∧ sx_GG (sx_gu γ (sx_th γ (j : Int) y w) a.2.2.1) (if false = true then sx_au A 124 j y else A) := ⟨([], [((-42), [(19001, 1)]), ((-1), [(18443, 1)])], [], []), List.Mem.tail _ (List.Mem.head _), (fun _ => 0), fun i p hi => (by
    match i, hi with
    | n + 0, hi => simp at hi), fun f hf => (by
    simp only [List.mem_cons, List.not_mem_nil, or_false] at hf
    rcases hf with rfl | rfl
    · exact f0
    · exact f1
    ), fun e he => (by cases he), ⟨hG.1, hG.2.1, hG.2.2.1, hG.2.2.2.1, hG.2.2.2.2.1, hG.2.2.2.2.2.1, hG.2.2.2.2.2.2.1, hG.2.2.2.2.2.2.2.1, hG.2.2.2.2.2.2.2.2.1, hG.2.2.2.2.2.2.2.2.2.1, hG.2.2.2.2.2.2.2.2.2.2.1, hG.2.2.2.2.2.2.2.2.2.2.2.1, hG.2.2.2.2.2.2.2.2.2.2.2.2.1, hG.2.2.2.2.2.2.2.2.2.2.2.2.2.1, hG.2.2.2.2.2.2.2.2.2.2.2.2.2.2.1, hG.2.2.2.2.2.2.2.2.2.2.2.2.2.2.2⟩⟩
theorem sx_q_l_zI5_0 {γ : Nat → Int} {A : Nat → Nat → Int} {j : Nat} {y : Int} (hG : sx_GG γ A) (f0 : 0 ≤ 0 + ((-1) * γ 18444 + 0)) (hv : 0 + 0 = y) : ∃ a ∈ sx_r_l_zI5.2, ∃ w : Nat → Int, (∀ (i : Nat) p, a.1[i]? = some p → p.2.1 ≤ w i ∧ w i ≤ p.2.2) ∧ (∀ f ∈ a.2.1, 0 ≤ sx_d (sx_th γ (j : Int) y w) f) ∧ (∀ e, a.2.2.2.head? = some e → sx_d (sx_th γ (j : Int) y w) e = y) ∧ sx_GG (sx_gu γ (sx_th γ (j : Int) y w) a.2.2.1) (if false = true then sx_au A 124 j y else A) := ⟨([], [(0, [(18444, (-1))])], [], [(0, [])]), List.Mem.head _, (fun _ => 0), fun i p hi => (by
    match i, hi with
    | n + 0, hi => simp at hi), fun f hf => (by
    simp only [List.mem_cons, List.not_mem_nil, or_false] at hf
    rcases hf with rfl
    · exact f0
    ), fun e he => (by cases he; exact hv), ⟨hG.1, hG.2.1, hG.2.2.1, hG.2.2.2.1, hG.2.2.2.2.1, hG.2.2.2.2.2.1, hG.2.2.2.2.2.2.1, hG.2.2.2.2.2.2.2.1, hG.2.2.2.2.2.2.2.2.1, hG.2.2.2.2.2.2.2.2.2.1, hG.2.2.2.2.2.2.2.2.2.2.1, hG.2.2.2.2.2.2.2.2.2.2.2.1, hG.2.2.2.2.2.2.2.2.2.2.2.2.1, hG.2.2.2.2.2.2.2.2.2.2.2.2.2.1, hG.2.2.2.2.2.2.2.2.2.2.2.2.2.2.1, hG.2.2.2.2.2.2.2.2.2.2.2.2.2.2.2⟩⟩
theorem sx_q_l_zI5_1 {γ : Nat → Int} {A : Nat → Nat → Int} {j : Nat} {y : Int} (hG : sx_GG γ A) (f0 : 0 ≤ (-42) + (1 * y + 0)) (f1 : 0 ≤ (-1) + (1 * γ 18444 + 0)) : ∃ a ∈ sx_r_l_zI5.2, ∃ w : Nat → Int, (∀ (i : Nat) p, a.1[i]? = some p → p.2.1 ≤ w i ∧ w i ≤ p.2.2) ∧ (∀ f ∈ a.2.1, 0 ≤ sx_d (sx_th γ (j : Int) y w) f) ∧ (∀ e, a.2.2.2.head? = some e → sx_d (sx_th γ (j : Int) y w) e = y) ∧ sx_GG (sx_gu γ (sx_th γ (j : Int) y w) a.2.2.1) (if false = true then sx_au A 124 j y else A) := ⟨([], [((-42), [(19001, 1)]), ((-1), [(18444, 1)])], [], []), List.Mem.tail _ (List.Mem.head _), (fun _ => 0), fun i p hi => (by
    match i, hi with
    | n + 0, hi => simp at hi), fun f hf => (by
    simp only [List.mem_cons, List.not_mem_nil, or_false] at hf
    rcases hf with rfl | rfl
    · exact f0
    · exact f1
    ), fun e he => (by cases he), ⟨hG.1, hG.2.1, hG.2.2.1, hG.2.2.2.1, hG.2.2.2.2.1, hG.2.2.2.2.2.1, hG.2.2.2.2.2.2.1, hG.2.2.2.2.2.2.2.1, hG.2.2.2.2.2.2.2.2.1, hG.2.2.2.2.2.2.2.2.2.1, hG.2.2.2.2.2.2.2.2.2.2.1, hG.2.2.2.2.2.2.2.2.2.2.2.1, hG.2.2.2.2.2.2.2.2.2.2.2.2.1, hG.2.2.2.2.2.2.2.2.2.2.2.2.2.1, hG.2.2.2.2.2.2.2.2.2.2.2.2.2.2.1, hG.2.2.2.2.2.2.2.2.2.2.2.2.2.2.2⟩⟩
theorem sx_q_l_zI6_0 {γ : Nat → Int} {A : Nat → Nat → Int} {j : Nat} {y : Int} (hG : sx_GG γ A) (f0 : 0 ≤ 0 + ((-1) * γ 18445 + 0)) (hv : 0 + 0 = y) : ∃ a ∈ sx_r_l_zI6.2, ∃ w : Nat → Int, (∀ (i : Nat) p, a.1[i]? = some p → p.2.1 ≤ w i ∧ w i ≤ p.2.2) ∧ (∀ f ∈ a.2.1, 0 ≤ sx_d (sx_th γ (j : Int) y w) f) ∧ (∀ e, a.2.2.2.head? = some e → sx_d (sx_th γ (j : Int) y w) e = y) ∧ sx_GG (sx_gu γ (sx_th γ (j : Int) y w) a.2.2.1) (if false = true then sx_au A 124 j y else A) := ⟨([], [(0, [(18445, (-1))])], [], [(0, [])]), List.Mem.head _, (fun _ => 0), fun i p hi => (by
    match i, hi with
    | n + 0, hi => simp at hi), fun f hf => (by
    simp only [List.mem_cons, List.not_mem_nil, or_false] at hf
    rcases hf with rfl
    · exact f0
    ), fun e he => (by cases he; exact hv), ⟨hG.1, hG.2.1, hG.2.2.1, hG.2.2.2.1, hG.2.2.2.2.1, hG.2.2.2.2.2.1, hG.2.2.2.2.2.2.1, hG.2.2.2.2.2.2.2.1, hG.2.2.2.2.2.2.2.2.1, hG.2.2.2.2.2.2.2.2.2.1, hG.2.2.2.2.2.2.2.2.2.2.1, hG.2.2.2.2.2.2.2.2.2.2.2.1, hG.2.2.2.2.2.2.2.2.2.2.2.2.1, hG.2.2.2.2.2.2.2.2.2.2.2.2.2.1, hG.2.2.2.2.2.2.2.2.2.2.2.2.2.2.1, hG.2.2.2.2.2.2.2.2.2.2.2.2.2.2.2⟩⟩
theorem sx_q_l_zI6_1 {γ : Nat → Int} {A : Nat → Nat → Int} {j : Nat} {y : Int} (hG : sx_GG γ A) (f0 : 0 ≤ (-42) + (1 * y + 0)) (f1 : 0 ≤ (-1) + (1 * γ 18445 + 0)) : ∃ a ∈ sx_r_l_zI6.2, ∃ w : Nat → Int, (∀ (i : Nat) p, a.1[i]? = some p → p.2.1 ≤ w i ∧ w i ≤ p.2.2) ∧ (∀ f ∈ a.2.1, 0 ≤ sx_d (sx_th γ (j : Int) y w) f) ∧ (∀ e, a.2.2.2.head? = some e → sx_d (sx_th γ (j : Int) y w) e = y) ∧ sx_GG (sx_gu γ (sx_th γ (j : Int) y w) a.2.2.1) (if false = true then sx_au A 124 j y else A) := ⟨([], [((-42), [(19001, 1)]), ((-1), [(18445, 1)])], [], []), List.Mem.tail _ (List.Mem.head _), (fun _ => 0), fun i p hi => (by
    match i, hi with
    | n + 0, hi => simp at hi), fun f hf => (by
    simp only [List.mem_cons, List.not_mem_nil, or_false] at hf
    rcases hf with rfl | rfl
    · exact f0
    · exact f1
    ), fun e he => (by cases he), ⟨hG.1, hG.2.1, hG.2.2.1, hG.2.2.2.1, hG.2.2.2.2.1, hG.2.2.2.2.2.1, hG.2.2.2.2.2.2.1, hG.2.2.2.2.2.2.2.1, hG.2.2.2.2.2.2.2.2.1, hG.2.2.2.2.2.2.2.2.2.1, hG.2.2.2.2.2.2.2.2.2.2.1, hG.2.2.2.2.2.2.2.2.2.2.2.1, hG.2.2.2.2.2.2.2.2.2.2.2.2.1, hG.2.2.2.2.2.2.2.2.2.2.2.2.2.1, hG.2.2.2.2.2.2.2.2.2.2.2.2.2.2.1, hG.2.2.2.2.2.2.2.2.2.2.2.2.2.2.2⟩⟩
theorem sx_q_l_room0_0 {γ : Nat → Int} {A : Nat → Nat → Int} {j : Nat} {y : Int} (hG : sx_GG γ A) (hv : 0 + (1 * γ 18458 + 0) = y) : ∃ a ∈ sx_r_l_room0.2, ∃ w : Nat → Int, (∀ (i : Nat) p, a.1[i]? = some p → p.2.1 ≤ w i ∧ w i ≤ p.2.2) ∧ (∀ f ∈ a.2.1, 0 ≤ sx_d (sx_th γ (j : Int) y w) f) ∧ (∀ e, a.2.2.2.head? = some e → sx_d (sx_th γ (j : Int) y w) e = y) ∧ sx_GG (sx_gu γ (sx_th γ (j : Int) y w) a.2.2.1) (if false = true then sx_au A 131 j y else A) := ⟨([], [], [], [(0, [(18458, 1)])]), List.Mem.head _, (fun _ => 0), fun i p hi => (by
    match i, hi with
    | n + 0, hi => simp at hi), fun f hf => (by cases hf), fun e he => (by cases he; exact hv), ⟨hG.1, hG.2.1, hG.2.2.1, hG.2.2.2.1, hG.2.2.2.2.1, hG.2.2.2.2.2.1, hG.2.2.2.2.2.2.1, hG.2.2.2.2.2.2.2.1, hG.2.2.2.2.2.2.2.2.1, hG.2.2.2.2.2.2.2.2.2.1, hG.2.2.2.2.2.2.2.2.2.2.1, hG.2.2.2.2.2.2.2.2.2.2.2.1, hG.2.2.2.2.2.2.2.2.2.2.2.2.1, hG.2.2.2.2.2.2.2.2.2.2.2.2.2.1, hG.2.2.2.2.2.2.2.2.2.2.2.2.2.2.1, hG.2.2.2.2.2.2.2.2.2.2.2.2.2.2.2⟩⟩
theorem sx_q_l_room_0 {γ : Nat → Int} {A : Nat → Nat → Int} {j : Nat} {y : Int} (hG : sx_GG γ A) (f0 : 0 ≤ 0 + (1 * (j : Int) + ((-1) * y + 0))) (f1 : 0 ≤ (-1) + ((-1) * γ 18459 + (1 * y + 0))) (c7 : sx_g6 (γ 18455) (γ 18456) (0 + (1 * (j : Int) + 0)) (0 + (1 * y + 0)) (0 + (1 * y + 0)) (1 + (1 * (j : Int) + 0)) (A 131)) : ∃ a ∈ sx_r_l_room.2, ∃ w : Nat → Int, (∀ (i : Nat) p, a.1[i]? = some p → p.2.1 ≤ w i ∧ w i ≤ p.2.2) ∧ (∀ f ∈ a.2.1, 0 ≤ sx_d (sx_th γ (j : Int) y w) f) ∧ (∀ e, a.2.2.2.head? = some e → sx_d (sx_th γ (j : Int) y w) e = y) ∧ sx_GG (sx_gu γ (sx_th γ (j : Int) y w) a.2.2.1) (if false = true then sx_au A 131 j y else A) := ⟨([], [(0, [(19000, 1), (19001, (-1))]), ((-1), [(18459, (-1)), (19001, 1)])], [(18457, (0, [(19000, 1)])), (18458, (0, [(19001, 1)])), (18459, (0, [(19001, 1)])), (18460, (1, [(19000, 1)]))], []), List.Mem.head _, (fun _ => 0), fun i p hi => (by
    match i, hi with
    | n + 0, hi => simp at hi), fun f hf => (by
    simp only [List.mem_cons, List.not_mem_nil, or_false] at hf
    rcases hf with rfl | rfl
    · exact f0
    · exact f1
    ), fun e he => (by cases he), ⟨hG.1, hG.2.1, hG.2.2.1, hG.2.2.2.1, hG.2.2.2.2.1, hG.2.2.2.2.2.1, hG.2.2.2.2.2.2.1, c7, hG.2.2.2.2.2.2.2.2.1, hG.2.2.2.2.2.2.2.2.2.1, hG.2.2.2.2.2.2.2.2.2.2.1, hG.2.2.2.2.2.2.2.2.2.2.2.1, hG.2.2.2.2.2.2.2.2.2.2.2.2.1, hG.2.2.2.2.2.2.2.2.2.2.2.2.2.1, hG.2.2.2.2.2.2.2.2.2.2.2.2.2.2.1, hG.2.2.2.2.2.2.2.2.2.2.2.2.2.2.2⟩⟩
theorem sx_q_l_room_1 {γ : Nat → Int} {A : Nat → Nat → Int} {j : Nat} {y : Int} (hG : sx_GG γ A) (f0 : 0 ≤ 0 + (1 * (j : Int) + ((-1) * y + 0))) (f1 : 0 ≤ 0 + (1 * γ 18459 + ((-1) * y + 0))) (c7 : sx_g6 (γ 18455) (γ 18456) (0 + (1 * (j : Int) + 0)) (0 + (1 * y + 0)) (γ 18459) (γ 18460) (A 131)) : ∃ a ∈ sx_r_l_room.2, ∃ w : Nat → Int, (∀ (i : Nat) p, a.1[i]? = some p → p.2.1 ≤ w i ∧ w i ≤ p.2.2) ∧ (∀ f ∈ a.2.1, 0 ≤ sx_d (sx_th γ (j : Int) y w) f) ∧ (∀ e, a.2.2.2.head? = some e → sx_d (sx_th γ (j : Int) y w) e = y) ∧ sx_GG (sx_gu γ (sx_th γ (j : Int) y w) a.2.2.1) (if false = true then sx_au A 131 j y else A) := ⟨([], [(0, [(19000, 1), (19001, (-1))]), (0, [(18459, 1), (19001, (-1))])], [(18457, (0, [(19000, 1)])), (18458, (0, [(19001, 1)]))], []), List.Mem.tail _ (List.Mem.head _), (fun _ => 0), fun i p hi => (by
    match i, hi with
    | n + 0, hi => simp at hi), fun f hf => (by
    simp only [List.mem_cons, List.not_mem_nil, or_false] at hf
    rcases hf with rfl | rfl
    · exact f0
    · exact f1
    ), fun e he => (by cases he), ⟨hG.1, hG.2.1, hG.2.2.1, hG.2.2.2.1, hG.2.2.2.2.1, hG.2.2.2.2.2.1, hG.2.2.2.2.2.2.1, c7, hG.2.2.2.2.2.2.2.2.1, hG.2.2.2.2.2.2.2.2.2.1, hG.2.2.2.2.2.2.2.2.2.2.1, hG.2.2.2.2.2.2.2.2.2.2.2.1, hG.2.2.2.2.2.2.2.2.2.2.2.2.1, hG.2.2.2.2.2.2.2.2.2.2.2.2.2.1, hG.2.2.2.2.2.2.2.2.2.2.2.2.2.2.1, hG.2.2.2.2.2.2.2.2.2.2.2.2.2.2.2⟩⟩
theorem sx_q_l_who_0 {γ : Nat → Int} {A : Nat → Nat → Int} {j : Nat} {y : Int} (hG : sx_GG γ A) (hv : 0 + (1 * γ 18432 + 0) = y) : ∃ a ∈ sx_r_l_who.2, ∃ w : Nat → Int, (∀ (i : Nat) p, a.1[i]? = some p → p.2.1 ≤ w i ∧ w i ≤ p.2.2) ∧ (∀ f ∈ a.2.1, 0 ≤ sx_d (sx_th γ (j : Int) y w) f) ∧ (∀ e, a.2.2.2.head? = some e → sx_d (sx_th γ (j : Int) y w) e = y) ∧ sx_GG (sx_gu γ (sx_th γ (j : Int) y w) a.2.2.1) (if false = true then sx_au A 135 j y else A) := ⟨([], [], [], [(0, [(18432, 1)])]), List.Mem.head _, (fun _ => 0), fun i p hi => (by
    match i, hi with
    | n + 0, hi => simp at hi), fun f hf => (by cases hf), fun e he => (by cases he; exact hv), ⟨hG.1, hG.2.1, hG.2.2.1, hG.2.2.2.1, hG.2.2.2.2.1, hG.2.2.2.2.2.1, hG.2.2.2.2.2.2.1, hG.2.2.2.2.2.2.2.1, hG.2.2.2.2.2.2.2.2.1, hG.2.2.2.2.2.2.2.2.2.1, hG.2.2.2.2.2.2.2.2.2.2.1, hG.2.2.2.2.2.2.2.2.2.2.2.1, hG.2.2.2.2.2.2.2.2.2.2.2.2.1, hG.2.2.2.2.2.2.2.2.2.2.2.2.2.1, hG.2.2.2.2.2.2.2.2.2.2.2.2.2.2.1, hG.2.2.2.2.2.2.2.2.2.2.2.2.2.2.2⟩⟩
theorem sx_q_l_goal_0 {γ : Nat → Int} {A : Nat → Nat → Int} {j : Nat} {y : Int} (hG : sx_GG γ A) (hv : 0 + (1 * γ 18433 + 0) = y) : ∃ a ∈ sx_r_l_goal.2, ∃ w : Nat → Int, (∀ (i : Nat) p, a.1[i]? = some p → p.2.1 ≤ w i ∧ w i ≤ p.2.2) ∧ (∀ f ∈ a.2.1, 0 ≤ sx_d (sx_th γ (j : Int) y w) f) ∧ (∀ e, a.2.2.2.head? = some e → sx_d (sx_th γ (j : Int) y w) e = y) ∧ sx_GG (sx_gu γ (sx_th γ (j : Int) y w) a.2.2.1) (if false = true then sx_au A 136 j y else A) := ⟨([], [], [], [(0, [(18433, 1)])]), List.Mem.head _, (fun _ => 0), fun i p hi => (by
    match i, hi with
    | n + 0, hi => simp at hi), fun f hf => (by cases hf), fun e he => (by cases he; exact hv), ⟨hG.1, hG.2.1, hG.2.2.1, hG.2.2.2.1, hG.2.2.2.2.1, hG.2.2.2.2.2.1, hG.2.2.2.2.2.2.1, hG.2.2.2.2.2.2.2.1, hG.2.2.2.2.2.2.2.2.1, hG.2.2.2.2.2.2.2.2.2.1, hG.2.2.2.2.2.2.2.2.2.2.1, hG.2.2.2.2.2.2.2.2.2.2.2.1, hG.2.2.2.2.2.2.2.2.2.2.2.2.1, hG.2.2.2.2.2.2.2.2.2.2.2.2.2.1, hG.2.2.2.2.2.2.2.2.2.2.2.2.2.2.1, hG.2.2.2.2.2.2.2.2.2.2.2.2.2.2.2⟩⟩
theorem sx_q_l_week0_0 {γ : Nat → Int} {A : Nat → Nat → Int} {j : Nat} {y : Int} (hG : sx_GG γ A) (hv : 0 + (1 * γ 18434 + 0) = y) : ∃ a ∈ sx_r_l_week0.2, ∃ w : Nat → Int, (∀ (i : Nat) p, a.1[i]? = some p → p.2.1 ≤ w i ∧ w i ≤ p.2.2) ∧ (∀ f ∈ a.2.1, 0 ≤ sx_d (sx_th γ (j : Int) y w) f) ∧ (∀ e, a.2.2.2.head? = some e → sx_d (sx_th γ (j : Int) y w) e = y) ∧ sx_GG (sx_gu γ (sx_th γ (j : Int) y w) a.2.2.1) (if false = true then sx_au A 140 j y else A) := ⟨([], [], [], [(0, [(18434, 1)])]), List.Mem.head _, (fun _ => 0), fun i p hi => (by
    match i, hi with
    | n + 0, hi => simp at hi), fun f hf => (by cases hf), fun e he => (by cases he; exact hv), ⟨hG.1, hG.2.1, hG.2.2.1, hG.2.2.2.1, hG.2.2.2.2.1, hG.2.2.2.2.2.1, hG.2.2.2.2.2.2.1, hG.2.2.2.2.2.2.2.1, hG.2.2.2.2.2.2.2.2.1, hG.2.2.2.2.2.2.2.2.2.1, hG.2.2.2.2.2.2.2.2.2.2.1, hG.2.2.2.2.2.2.2.2.2.2.2.1, hG.2.2.2.2.2.2.2.2.2.2.2.2.1, hG.2.2.2.2.2.2.2.2.2.2.2.2.2.1, hG.2.2.2.2.2.2.2.2.2.2.2.2.2.2.1, hG.2.2.2.2.2.2.2.2.2.2.2.2.2.2.2⟩⟩
theorem sx_q_l_week1_0 {γ : Nat → Int} {A : Nat → Nat → Int} {j : Nat} {y : Int} (hG : sx_GG γ A) (hv : 0 + (1 * γ 18435 + 0) = y) : ∃ a ∈ sx_r_l_week1.2, ∃ w : Nat → Int, (∀ (i : Nat) p, a.1[i]? = some p → p.2.1 ≤ w i ∧ w i ≤ p.2.2) ∧ (∀ f ∈ a.2.1, 0 ≤ sx_d (sx_th γ (j : Int) y w) f) ∧ (∀ e, a.2.2.2.head? = some e → sx_d (sx_th γ (j : Int) y w) e = y) ∧ sx_GG (sx_gu γ (sx_th γ (j : Int) y w) a.2.2.1) (if false = true then sx_au A 140 j y else A) := ⟨([], [], [], [(0, [(18435, 1)])]), List.Mem.head _, (fun _ => 0), fun i p hi => (by
    match i, hi with
    | n + 0, hi => simp at hi), fun f hf => (by cases hf), fun e he => (by cases he; exact hv), ⟨hG.1, hG.2.1, hG.2.2.1, hG.2.2.2.1, hG.2.2.2.2.1, hG.2.2.2.2.2.1, hG.2.2.2.2.2.2.1, hG.2.2.2.2.2.2.2.1, hG.2.2.2.2.2.2.2.2.1, hG.2.2.2.2.2.2.2.2.2.1, hG.2.2.2.2.2.2.2.2.2.2.1, hG.2.2.2.2.2.2.2.2.2.2.2.1, hG.2.2.2.2.2.2.2.2.2.2.2.2.1, hG.2.2.2.2.2.2.2.2.2.2.2.2.2.1, hG.2.2.2.2.2.2.2.2.2.2.2.2.2.2.1, hG.2.2.2.2.2.2.2.2.2.2.2.2.2.2.2⟩⟩
theorem sx_q_l_week2_0 {γ : Nat → Int} {A : Nat → Nat → Int} {j : Nat} {y : Int} (hG : sx_GG γ A) (hv : 0 + (1 * γ 18436 + 0) = y) : ∃ a ∈ sx_r_l_week2.2, ∃ w : Nat → Int, (∀ (i : Nat) p, a.1[i]? = some p → p.2.1 ≤ w i ∧ w i ≤ p.2.2) ∧ (∀ f ∈ a.2.1, 0 ≤ sx_d (sx_th γ (j : Int) y w) f) ∧ (∀ e, a.2.2.2.head? = some e → sx_d (sx_th γ (j : Int) y w) e = y) ∧ sx_GG (sx_gu γ (sx_th γ (j : Int) y w) a.2.2.1) (if false = true then sx_au A 140 j y else A) := ⟨([], [], [], [(0, [(18436, 1)])]), List.Mem.head _, (fun _ => 0), fun i p hi => (by
    match i, hi with
    | n + 0, hi => simp at hi), fun f hf => (by cases hf), fun e he => (by cases he; exact hv), ⟨hG.1, hG.2.1, hG.2.2.1, hG.2.2.2.1, hG.2.2.2.2.1, hG.2.2.2.2.2.1, hG.2.2.2.2.2.2.1, hG.2.2.2.2.2.2.2.1, hG.2.2.2.2.2.2.2.2.1, hG.2.2.2.2.2.2.2.2.2.1, hG.2.2.2.2.2.2.2.2.2.2.1, hG.2.2.2.2.2.2.2.2.2.2.2.1, hG.2.2.2.2.2.2.2.2.2.2.2.2.1, hG.2.2.2.2.2.2.2.2.2.2.2.2.2.1, hG.2.2.2.2.2.2.2.2.2.2.2.2.2.2.1, hG.2.2.2.2.2.2.2.2.2.2.2.2.2.2.2⟩⟩
theorem sx_q_l_week3_0 {γ : Nat → Int} {A : Nat → Nat → Int} {j : Nat} {y : Int} (hG : sx_GG γ A) (hv : 0 + (1 * γ 18437 + 0) = y) : ∃ a ∈ sx_r_l_week3.2, ∃ w : Nat → Int, (∀ (i : Nat) p, a.1[i]? = some p → p.2.1 ≤ w i ∧ w i ≤ p.2.2) ∧ (∀ f ∈ a.2.1, 0 ≤ sx_d (sx_th γ (j : Int) y w) f) ∧ (∀ e, a.2.2.2.head? = some e → sx_d (sx_th γ (j : Int) y w) e = y) ∧ sx_GG (sx_gu γ (sx_th γ (j : Int) y w) a.2.2.1) (if false = true then sx_au A 140 j y else A) := ⟨([], [], [], [(0, [(18437, 1)])]), List.Mem.head _, (fun _ => 0), fun i p hi => (by
    match i, hi with
    | n + 0, hi => simp at hi), fun f hf => (by cases hf), fun e he => (by cases he; exact hv), ⟨hG.1, hG.2.1, hG.2.2.1, hG.2.2.2.1, hG.2.2.2.2.1, hG.2.2.2.2.2.1, hG.2.2.2.2.2.2.1, hG.2.2.2.2.2.2.2.1, hG.2.2.2.2.2.2.2.2.1, hG.2.2.2.2.2.2.2.2.2.1, hG.2.2.2.2.2.2.2.2.2.2.1, hG.2.2.2.2.2.2.2.2.2.2.2.1, hG.2.2.2.2.2.2.2.2.2.2.2.2.1, hG.2.2.2.2.2.2.2.2.2.2.2.2.2.1, hG.2.2.2.2.2.2.2.2.2.2.2.2.2.2.1, hG.2.2.2.2.2.2.2.2.2.2.2.2.2.2.2⟩⟩
theorem sx_q_l_week4_0 {γ : Nat → Int} {A : Nat → Nat → Int} {j : Nat} {y : Int} (hG : sx_GG γ A) (hv : 0 + (1 * γ 18438 + 0) = y) : ∃ a ∈ sx_r_l_week4.2, ∃ w : Nat → Int, (∀ (i : Nat) p, a.1[i]? = some p → p.2.1 ≤ w i ∧ w i ≤ p.2.2) ∧ (∀ f ∈ a.2.1, 0 ≤ sx_d (sx_th γ (j : Int) y w) f) ∧ (∀ e, a.2.2.2.head? = some e → sx_d (sx_th γ (j : Int) y w) e = y) ∧ sx_GG (sx_gu γ (sx_th γ (j : Int) y w) a.2.2.1) (if false = true then sx_au A 140 j y else A) := ⟨([], [], [], [(0, [(18438, 1)])]), List.Mem.head _, (fun _ => 0), fun i p hi => (by
    match i, hi with
    | n + 0, hi => simp at hi), fun f hf => (by cases hf), fun e he => (by cases he; exact hv), ⟨hG.1, hG.2.1, hG.2.2.1, hG.2.2.2.1, hG.2.2.2.2.1, hG.2.2.2.2.2.1, hG.2.2.2.2.2.2.1, hG.2.2.2.2.2.2.2.1, hG.2.2.2.2.2.2.2.2.1, hG.2.2.2.2.2.2.2.2.2.1, hG.2.2.2.2.2.2.2.2.2.2.1, hG.2.2.2.2.2.2.2.2.2.2.2.1, hG.2.2.2.2.2.2.2.2.2.2.2.2.1, hG.2.2.2.2.2.2.2.2.2.2.2.2.2.1, hG.2.2.2.2.2.2.2.2.2.2.2.2.2.2.1, hG.2.2.2.2.2.2.2.2.2.2.2.2.2.2.2⟩⟩
theorem sx_q_s_choicea_0 {γ : Nat → Int} {A : Nat → Nat → Int} {j : Nat} {y : Int} (hG : sx_GG γ A) (f0 : 0 ≤ 0 + ((-1) * γ 18453 + (1 * (j : Int) + 0))) (f1 : 0 ≤ 0 + (1 * γ 18453 + ((-1) * (j : Int) + 0))) (c5 : sx_g4 (1 + (1 * γ 18453 + 0)) (sx_au A 76 j y 76)) : ∃ a ∈ sx_r_s_choicea.2, ∃ w : Nat → Int, (∀ (i : Nat) p, a.1[i]? = some p → p.2.1 ≤ w i ∧ w i ≤ p.2.2) ∧ (∀ f ∈ a.2.1, 0 ≤ sx_d (sx_th γ (j : Int) y w) f) ∧ (∀ e, a.2.2.2.head? = some e → sx_d (sx_th γ (j : Int) y w) e = y) ∧ sx_GG (sx_gu γ (sx_th γ (j : Int) y w) a.2.2.1) (if true = true then sx_au A 76 j y else A) := ⟨([], [(0, [(18453, (-1)), (19000, 1)]), (0, [(18453, 1), (19000, (-1))])], [(18453, (1, [(18453, 1)]))], []), List.Mem.head _, (fun _ => 0), fun i p hi => (by
    match i, hi with
    | n + 0, hi => simp at hi), fun f hf => (by
    simp only [List.mem_cons, List.not_mem_nil, or_false] at hf
    rcases hf with rfl | rfl
    · exact f0
    · exact f1
    ), fun e he => (by cases he), ⟨hG.1, hG.2.1, hG.2.2.1, hG.2.2.2.1, hG.2.2.2.2.1, c5, hG.2.2.2.2.2.2.1, hG.2.2.2.2.2.2.2.1, hG.2.2.2.2.2.2.2.2.1, hG.2.2.2.2.2.2.2.2.2.1, hG.2.2.2.2.2.2.2.2.2.2.1, hG.2.2.2.2.2.2.2.2.2.2.2.1, hG.2.2.2.2.2.2.2.2.2.2.2.2.1, hG.2.2.2.2.2.2.2.2.2.2.2.2.2.1, hG.2.2.2.2.2.2.2.2.2.2.2.2.2.2.1, hG.2.2.2.2.2.2.2.2.2.2.2.2.2.2.2⟩⟩
theorem sx_q_s_choicea_1 {γ : Nat → Int} {A : Nat → Nat → Int} {j : Nat} {y : Int} (hG : sx_GG γ A) (f0 : 0 ≤ (-1) + (1 * γ 18453 + ((-1) * (j : Int) + 0))) (c5 : sx_g4 (γ 18453) (sx_au A 76 j y 76)) : ∃ a ∈ sx_r_s_choicea.2, ∃ w : Nat → Int, (∀ (i : Nat) p, a.1[i]? = some p → p.2.1 ≤ w i ∧ w i ≤ p.2.2) ∧ (∀ f ∈ a.2.1, 0 ≤ sx_d (sx_th γ (j : Int) y w) f) ∧ (∀ e, a.2.2.2.head? = some e → sx_d (sx_th γ (j : Int) y w) e = y) ∧ sx_GG (sx_gu γ (sx_th γ (j : Int) y w) a.2.2.1) (if true = true then sx_au A 76 j y else A) := ⟨([], [((-1), [(18453, 1), (19000, (-1))])], [], []), List.Mem.tail _ (List.Mem.head _), (fun _ => 0), fun i p hi => (by
    match i, hi with
    | n + 0, hi => simp at hi), fun f hf => (by
    simp only [List.mem_cons, List.not_mem_nil, or_false] at hf
    rcases hf with rfl
    · exact f0
    ), fun e he => (by cases he), ⟨hG.1, hG.2.1, hG.2.2.1, hG.2.2.2.1, hG.2.2.2.2.1, c5, hG.2.2.2.2.2.2.1, hG.2.2.2.2.2.2.2.1, hG.2.2.2.2.2.2.2.2.1, hG.2.2.2.2.2.2.2.2.2.1, hG.2.2.2.2.2.2.2.2.2.2.1, hG.2.2.2.2.2.2.2.2.2.2.2.1, hG.2.2.2.2.2.2.2.2.2.2.2.2.1, hG.2.2.2.2.2.2.2.2.2.2.2.2.2.1, hG.2.2.2.2.2.2.2.2.2.2.2.2.2.2.1, hG.2.2.2.2.2.2.2.2.2.2.2.2.2.2.2⟩⟩
theorem sx_q_s_choiceb_0 {γ : Nat → Int} {A : Nat → Nat → Int} {j : Nat} {y : Int} (hG : sx_GG γ A) (c5 : sx_g4 (γ 18453) (sx_au A 76 j y 76)) : ∃ a ∈ sx_r_s_choiceb.2, ∃ w : Nat → Int, (∀ (i : Nat) p, a.1[i]? = some p → p.2.1 ≤ w i ∧ w i ≤ p.2.2) ∧ (∀ f ∈ a.2.1, 0 ≤ sx_d (sx_th γ (j : Int) y w) f) ∧ (∀ e, a.2.2.2.head? = some e → sx_d (sx_th γ (j : Int) y w) e = y) ∧ sx_GG (sx_gu γ (sx_th γ (j : Int) y w) a.2.2.1) (if true = true then sx_au A 76 j y else A) := ⟨([], [], [], []), List.Mem.head _, (fun _ => 0), fun i p hi => (by
    match i, hi with
    | n + 0, hi => simp at hi), fun f hf => (by cases hf), fun e he => (by cases he), ⟨hG.1, hG.2.1, hG.2.2.1, hG.2.2.2.1, hG.2.2.2.2.1, c5, hG.2.2.2.2.2.2.1, hG.2.2.2.2.2.2.2.1, hG.2.2.2.2.2.2.2.2.1, hG.2.2.2.2.2.2.2.2.2.1, hG.2.2.2.2.2.2.2.2.2.2.1, hG.2.2.2.2.2.2.2.2.2.2.2.1, hG.2.2.2.2.2.2.2.2.2.2.2.2.1, hG.2.2.2.2.2.2.2.2.2.2.2.2.2.1, hG.2.2.2.2.2.2.2.2.2.2.2.2.2.2.1, hG.2.2.2.2.2.2.2.2.2.2.2.2.2.2.2⟩⟩
theorem sx_q_s_choicec_0 {γ : Nat → Int} {A : Nat → Nat → Int} {j : Nat} {y : Int} (hG : sx_GG γ A) (c5 : sx_g4 (0 + (1 * (j : Int) + 0)) (sx_au A 76 j y 76)) : ∃ a ∈ sx_r_s_choicec.2, ∃ w : Nat → Int, (∀ (i : Nat) p, a.1[i]? = some p → p.2.1 ≤ w i ∧ w i ≤ p.2.2) ∧ (∀ f ∈ a.2.1, 0 ≤ sx_d (sx_th γ (j : Int) y w) f) ∧ (∀ e, a.2.2.2.head? = some e → sx_d (sx_th γ (j : Int) y w) e = y) ∧ sx_GG (sx_gu γ (sx_th γ (j : Int) y w) a.2.2.1) (if true = true then sx_au A 76 j y else A) := ⟨([], [], [(18453, (0, [(19000, 1)]))], []), List.Mem.head _, (fun _ => 0), fun i p hi => (by
    match i, hi with
    | n + 0, hi => simp at hi), fun f hf => (by cases hf), fun e he => (by cases he), ⟨hG.1, hG.2.1, hG.2.2.1, hG.2.2.2.1, hG.2.2.2.2.1, c5, hG.2.2.2.2.2.2.1, hG.2.2.2.2.2.2.2.1, hG.2.2.2.2.2.2.2.2.1, hG.2.2.2.2.2.2.2.2.2.1, hG.2.2.2.2.2.2.2.2.2.2.1, hG.2.2.2.2.2.2.2.2.2.2.2.1, hG.2.2.2.2.2.2.2.2.2.2.2.2.1, hG.2.2.2.2.2.2.2.2.2.2.2.2.2.1, hG.2.2.2.2.2.2.2.2.2.2.2.2.2.2.1, hG.2.2.2.2.2.2.2.2.2.2.2.2.2.2.2⟩⟩
theorem sx_q_s_choiced_0 {γ : Nat → Int} {A : Nat → Nat → Int} {j : Nat} {y : Int} (hG : sx_GG γ A) (c5 : sx_g4 (0 + 0) (sx_au A 76 j y 76)) : ∃ a ∈ sx_r_s_choiced.2, ∃ w : Nat → Int, (∀ (i : Nat) p, a.1[i]? = some p → p.2.1 ≤ w i ∧ w i ≤ p.2.2) ∧ (∀ f ∈ a.2.1, 0 ≤ sx_d (sx_th γ (j : Int) y w) f) ∧ (∀ e, a.2.2.2.head? = some e → sx_d (sx_th γ (j : Int) y w) e = y) ∧ sx_GG (sx_gu γ (sx_th γ (j : Int) y w) a.2.2.1) (if true = true then sx_au A 76 j y else A) := ⟨([], [], [(18453, (0, []))], []), List.Mem.head _, (fun _ => 0), fun i p hi => (by
    match i, hi with
    | n + 0, hi => simp at hi), fun f hf => (by cases hf), fun e he => (by cases he), ⟨hG.1, hG.2.1, hG.2.2.1, hG.2.2.2.1, hG.2.2.2.2.1, c5, hG.2.2.2.2.2.2.1, hG.2.2.2.2.2.2.2.1, hG.2.2.2.2.2.2.2.2.1, hG.2.2.2.2.2.2.2.2.2.1, hG.2.2.2.2.2.2.2.2.2.2.1, hG.2.2.2.2.2.2.2.2.2.2.2.1, hG.2.2.2.2.2.2.2.2.2.2.2.2.1, hG.2.2.2.2.2.2.2.2.2.2.2.2.2.1, hG.2.2.2.2.2.2.2.2.2.2.2.2.2.2.1, hG.2.2.2.2.2.2.2.2.2.2.2.2.2.2.2⟩⟩
theorem sx_q_s_openeda_0 {γ : Nat → Int} {A : Nat → Nat → Int} {j : Nat} {y : Int} (hG : sx_GG γ A) (f0 : 0 ≤ 0 + ((-1) * γ 18454 + (1 * (j : Int) + 0))) (f1 : 0 ≤ 0 + (1 * γ 18454 + ((-1) * (j : Int) + 0))) (c6 : sx_g5 (1 + (1 * γ 18454 + 0)) (sx_au A 77 j y 77)) : ∃ a ∈ sx_r_s_openeda.2, ∃ w : Nat → Int, (∀ (i : Nat) p, a.1[i]? = some p → p.2.1 ≤ w i ∧ w i ≤ p.2.2) ∧ (∀ f ∈ a.2.1, 0 ≤ sx_d (sx_th γ (j : Int) y w) f) ∧ (∀ e, a.2.2.2.head? = some e → sx_d (sx_th γ (j : Int) y w) e = y) ∧ sx_GG (sx_gu γ (sx_th γ (j : Int) y w) a.2.2.1) (if true = true then sx_au A 77 j y else A) := ⟨([], [(0, [(18454, (-1)), (19000, 1)]), (0, [(18454, 1), (19000, (-1))])], [(18454, (1, [(18454, 1)]))], []), List.Mem.head _, (fun _ => 0), fun i p hi => (by
    match i, hi with
    | n + 0, hi => simp at hi), fun f hf => (by
    simp only [List.mem_cons, List.not_mem_nil, or_false] at hf
    rcases hf with rfl | rfl
    · exact f0
    · exact f1
    ), fun e he => (by cases he), ⟨hG.1, hG.2.1, hG.2.2.1, hG.2.2.2.1, hG.2.2.2.2.1, hG.2.2.2.2.2.1, c6, hG.2.2.2.2.2.2.2.1, hG.2.2.2.2.2.2.2.2.1, hG.2.2.2.2.2.2.2.2.2.1, hG.2.2.2.2.2.2.2.2.2.2.1, hG.2.2.2.2.2.2.2.2.2.2.2.1, hG.2.2.2.2.2.2.2.2.2.2.2.2.1, hG.2.2.2.2.2.2.2.2.2.2.2.2.2.1, hG.2.2.2.2.2.2.2.2.2.2.2.2.2.2.1, hG.2.2.2.2.2.2.2.2.2.2.2.2.2.2.2⟩⟩
theorem sx_q_s_openeda_1 {γ : Nat → Int} {A : Nat → Nat → Int} {j : Nat} {y : Int} (hG : sx_GG γ A) (f0 : 0 ≤ (-1) + (1 * γ 18454 + ((-1) * (j : Int) + 0))) (c6 : sx_g5 (γ 18454) (sx_au A 77 j y 77)) : ∃ a ∈ sx_r_s_openeda.2, ∃ w : Nat → Int, (∀ (i : Nat) p, a.1[i]? = some p → p.2.1 ≤ w i ∧ w i ≤ p.2.2) ∧ (∀ f ∈ a.2.1, 0 ≤ sx_d (sx_th γ (j : Int) y w) f) ∧ (∀ e, a.2.2.2.head? = some e → sx_d (sx_th γ (j : Int) y w) e = y) ∧ sx_GG (sx_gu γ (sx_th γ (j : Int) y w) a.2.2.1) (if true = true then sx_au A 77 j y else A) := ⟨([], [((-1), [(18454, 1), (19000, (-1))])], [], []), List.Mem.tail _ (List.Mem.head _), (fun _ => 0), fun i p hi => (by
    match i, hi with
    | n + 0, hi => simp at hi), fun f hf => (by
    simp only [List.mem_cons, List.not_mem_nil, or_false] at hf
    rcases hf with rfl
    · exact f0
    ), fun e he => (by cases he), ⟨hG.1, hG.2.1, hG.2.2.1, hG.2.2.2.1, hG.2.2.2.2.1, hG.2.2.2.2.2.1, c6, hG.2.2.2.2.2.2.2.1, hG.2.2.2.2.2.2.2.2.1, hG.2.2.2.2.2.2.2.2.2.1, hG.2.2.2.2.2.2.2.2.2.2.1, hG.2.2.2.2.2.2.2.2.2.2.2.1, hG.2.2.2.2.2.2.2.2.2.2.2.2.1, hG.2.2.2.2.2.2.2.2.2.2.2.2.2.1, hG.2.2.2.2.2.2.2.2.2.2.2.2.2.2.1, hG.2.2.2.2.2.2.2.2.2.2.2.2.2.2.2⟩⟩
theorem sx_q_s_openedb_0 {γ : Nat → Int} {A : Nat → Nat → Int} {j : Nat} {y : Int} (hG : sx_GG γ A) (c6 : sx_g5 (γ 18454) (sx_au A 77 j y 77)) : ∃ a ∈ sx_r_s_openedb.2, ∃ w : Nat → Int, (∀ (i : Nat) p, a.1[i]? = some p → p.2.1 ≤ w i ∧ w i ≤ p.2.2) ∧ (∀ f ∈ a.2.1, 0 ≤ sx_d (sx_th γ (j : Int) y w) f) ∧ (∀ e, a.2.2.2.head? = some e → sx_d (sx_th γ (j : Int) y w) e = y) ∧ sx_GG (sx_gu γ (sx_th γ (j : Int) y w) a.2.2.1) (if true = true then sx_au A 77 j y else A) := ⟨([], [], [], []), List.Mem.head _, (fun _ => 0), fun i p hi => (by
    match i, hi with
    | n + 0, hi => simp at hi), fun f hf => (by cases hf), fun e he => (by cases he), ⟨hG.1, hG.2.1, hG.2.2.1, hG.2.2.2.1, hG.2.2.2.2.1, hG.2.2.2.2.2.1, c6, hG.2.2.2.2.2.2.2.1, hG.2.2.2.2.2.2.2.2.1, hG.2.2.2.2.2.2.2.2.2.1, hG.2.2.2.2.2.2.2.2.2.2.1, hG.2.2.2.2.2.2.2.2.2.2.2.1, hG.2.2.2.2.2.2.2.2.2.2.2.2.1, hG.2.2.2.2.2.2.2.2.2.2.2.2.2.1, hG.2.2.2.2.2.2.2.2.2.2.2.2.2.2.1, hG.2.2.2.2.2.2.2.2.2.2.2.2.2.2.2⟩⟩
theorem sx_q_s_openedc_0 {γ : Nat → Int} {A : Nat → Nat → Int} {j : Nat} {y : Int} (hG : sx_GG γ A) (c6 : sx_g5 (0 + (1 * (j : Int) + 0)) (sx_au A 77 j y 77)) : ∃ a ∈ sx_r_s_openedc.2, ∃ w : Nat → Int, (∀ (i : Nat) p, a.1[i]? = some p → p.2.1 ≤ w i ∧ w i ≤ p.2.2) ∧ (∀ f ∈ a.2.1, 0 ≤ sx_d (sx_th γ (j : Int) y w) f) ∧ (∀ e, a.2.2.2.head? = some e → sx_d (sx_th γ (j : Int) y w) e = y) ∧ sx_GG (sx_gu γ (sx_th γ (j : Int) y w) a.2.2.1) (if true = true then sx_au A 77 j y else A) := ⟨([], [], [(18454, (0, [(19000, 1)]))], []), List.Mem.head _, (fun _ => 0), fun i p hi => (by
    match i, hi with
    | n + 0, hi => simp at hi), fun f hf => (by cases hf), fun e he => (by cases he), ⟨hG.1, hG.2.1, hG.2.2.1, hG.2.2.2.1, hG.2.2.2.2.1, hG.2.2.2.2.2.1, c6, hG.2.2.2.2.2.2.2.1, hG.2.2.2.2.2.2.2.2.1, hG.2.2.2.2.2.2.2.2.2.1, hG.2.2.2.2.2.2.2.2.2.2.1, hG.2.2.2.2.2.2.2.2.2.2.2.1, hG.2.2.2.2.2.2.2.2.2.2.2.2.1, hG.2.2.2.2.2.2.2.2.2.2.2.2.2.1, hG.2.2.2.2.2.2.2.2.2.2.2.2.2.2.1, hG.2.2.2.2.2.2.2.2.2.2.2.2.2.2.2⟩⟩
theorem sx_q_s_openedd_0 {γ : Nat → Int} {A : Nat → Nat → Int} {j : Nat} {y : Int} (hG : sx_GG γ A) (c6 : sx_g5 (0 + 0) (sx_au A 77 j y 77)) : ∃ a ∈ sx_r_s_openedd.2, ∃ w : Nat → Int, (∀ (i : Nat) p, a.1[i]? = some p → p.2.1 ≤ w i ∧ w i ≤ p.2.2) ∧ (∀ f ∈ a.2.1, 0 ≤ sx_d (sx_th γ (j : Int) y w) f) ∧ (∀ e, a.2.2.2.head? = some e → sx_d (sx_th γ (j : Int) y w) e = y) ∧ sx_GG (sx_gu γ (sx_th γ (j : Int) y w) a.2.2.1) (if true = true then sx_au A 77 j y else A) := ⟨([], [], [(18454, (0, []))], []), List.Mem.head _, (fun _ => 0), fun i p hi => (by
    match i, hi with
    | n + 0, hi => simp at hi), fun f hf => (by cases hf), fun e he => (by cases he), ⟨hG.1, hG.2.1, hG.2.2.1, hG.2.2.2.1, hG.2.2.2.2.1, hG.2.2.2.2.2.1, c6, hG.2.2.2.2.2.2.2.1, hG.2.2.2.2.2.2.2.2.1, hG.2.2.2.2.2.2.2.2.2.1, hG.2.2.2.2.2.2.2.2.2.2.1, hG.2.2.2.2.2.2.2.2.2.2.2.1, hG.2.2.2.2.2.2.2.2.2.2.2.2.1, hG.2.2.2.2.2.2.2.2.2.2.2.2.2.1, hG.2.2.2.2.2.2.2.2.2.2.2.2.2.2.1, hG.2.2.2.2.2.2.2.2.2.2.2.2.2.2.2⟩⟩
theorem sx_q_s_tx_0 {γ : Nat → Int} {A : Nat → Nat → Int} {j : Nat} {y : Int} (hG : sx_GG γ A) (c8 : sx_g7 ((-1) + 0) (0 + 0) (sx_au A 110 j y 110)) : ∃ a ∈ sx_r_s_tx.2, ∃ w : Nat → Int, (∀ (i : Nat) p, a.1[i]? = some p → p.2.1 ≤ w i ∧ w i ≤ p.2.2) ∧ (∀ f ∈ a.2.1, 0 ≤ sx_d (sx_th γ (j : Int) y w) f) ∧ (∀ e, a.2.2.2.head? = some e → sx_d (sx_th γ (j : Int) y w) e = y) ∧ sx_GG (sx_gu γ (sx_th γ (j : Int) y w) a.2.2.1) (if true = true then sx_au A 110 j y else A) := ⟨([], [], [(18496, ((-1), [])), (18497, (0, []))], []), List.Mem.head _, (fun _ => 0), fun i p hi => (by
    match i, hi with
    | n + 0, hi => simp at hi), fun f hf => (by cases hf), fun e he => (by cases he), ⟨hG.1, hG.2.1, hG.2.2.1, hG.2.2.2.1, hG.2.2.2.2.1, hG.2.2.2.2.2.1, hG.2.2.2.2.2.2.1, hG.2.2.2.2.2.2.2.1, c8, hG.2.2.2.2.2.2.2.2.2.1, hG.2.2.2.2.2.2.2.2.2.2.1, hG.2.2.2.2.2.2.2.2.2.2.2.1, hG.2.2.2.2.2.2.2.2.2.2.2.2.1, hG.2.2.2.2.2.2.2.2.2.2.2.2.2.1, hG.2.2.2.2.2.2.2.2.2.2.2.2.2.2.1, hG.2.2.2.2.2.2.2.2.2.2.2.2.2.2.2⟩⟩
theorem sx_q_s_sayA_0 {γ : Nat → Int} {A : Nat → Nat → Int} {j : Nat} {y : Int} (hG : sx_GG γ A) (c11 : sx_x1 (γ 18461) (A 117) (A 119) (A 120) (A 121) (A 115) (A 116) (A 113) (A 114) (sx_au A 111 j y 111)) (c12 : sx_x2 (γ 18461) (0 + 0) (0 + 0) (0 + 0) ((-1) + 0) (0 + 0) (0 + 0) (0 + 0) ((-1) + 0) ((-1) + 0) ((-1) + 0) (0 + 0) (0 + 0) (A 117) (A 119) (A 120) (A 121) (A 116) (A 114) (sx_au A 111 j y 111)) : ∃ a ∈ sx_r_s_sayA.2, ∃ w : Nat → Int, (∀ (i : Nat) p, a.1[i]? = some p → p.2.1 ≤ w i ∧ w i ≤ p.2.2) ∧ (∀ f ∈ a.2.1, 0 ≤ sx_d (sx_th γ (j : Int) y w) f) ∧ (∀ e, a.2.2.2.head? = some e → sx_d (sx_th γ (j : Int) y w) e = y) ∧ sx_GG (sx_gu γ (sx_th γ (j : Int) y w) a.2.2.1) (if true = true then sx_au A 111 j y else A) := ⟨([], [], [(18462, (0, [])), (18463, (0, [])), (18464, (0, [])), (18465, ((-1), [])), (18466, (0, [])), (18467, (0, [])), (18468, (0, [])), (18469, ((-1), [])), (18470, ((-1), [])), (18471, ((-1), [])), (18472, (0, [])), (18473, (0, []))], []), List.Mem.head _, (fun _ => 0), fun i p hi => (by
    match i, hi with
    | n + 0, hi => simp at hi), fun f hf => (by cases hf), fun e he => (by cases he), ⟨hG.1, hG.2.1, hG.2.2.1, hG.2.2.2.1, hG.2.2.2.2.1, hG.2.2.2.2.2.1, hG.2.2.2.2.2.2.1, hG.2.2.2.2.2.2.2.1, hG.2.2.2.2.2.2.2.2.1, hG.2.2.2.2.2.2.2.2.2.1, hG.2.2.2.2.2.2.2.2.2.2.1, c11, c12, hG.2.2.2.2.2.2.2.2.2.2.2.2.2.1, hG.2.2.2.2.2.2.2.2.2.2.2.2.2.2.1, hG.2.2.2.2.2.2.2.2.2.2.2.2.2.2.2⟩⟩
theorem sx_q_s_sayB_0 {γ : Nat → Int} {A : Nat → Nat → Int} {j : Nat} {y : Int} (hG : sx_GG γ A) (c11 : sx_x1 ((-1) + 0) (A 117) (A 119) (A 120) (A 121) (A 115) (A 116) (A 113) (A 114) (sx_au A 111 j y 111)) (c12 : sx_x2 ((-1) + 0) (0 + 0) (0 + 0) (0 + 0) ((-1) + 0) (0 + 0) (0 + 0) (0 + 0) ((-1) + 0) ((-1) + 0) ((-1) + 0) (0 + 0) (0 + 0) (A 117) (A 119) (A 120) (A 121) (A 116) (A 114) (sx_au A 111 j y 111)) (c14 : sx_x4 ((-1) + 0) (γ 18485) (γ 18486) (γ 18487) (γ 18488) (γ 18489) (A 117) (A 119) (A 120) (A 121) (A 115) (A 116) (A 113) (A 114)) (c15 : sx_x5 (0 + 0) (γ 18499) (γ 18500) (A 117) (A 119) (A 120) (A 121) (A 115) (A 116) (A 113) (A 114)) : ∃ a ∈ sx_r_s_sayB.2, ∃ w : Nat → Int, (∀ (i : Nat) p, a.1[i]? = some p → p.2.1 ≤ w i ∧ w i ≤ p.2.2) ∧ (∀ f ∈ a.2.1, 0 ≤ sx_d (sx_th γ (j : Int) y w) f) ∧ (∀ e, a.2.2.2.head? = some e → sx_d (sx_th γ (j : Int) y w) e = y) ∧ sx_GG (sx_gu γ (sx_th γ (j : Int) y w) a.2.2.1) (if true = true then sx_au A 111 j y else A) := ⟨([], [], [(18462, (0, [])), (18463, (0, [])), (18464, (0, [])), (18465, ((-1), [])), (18466, (0, [])), (18467, (0, [])), (18468, (0, [])), (18469, ((-1), [])), (18470, ((-1), [])), (18471, ((-1), [])), (18472, (0, [])), (18473, (0, [])), (18498, (0, [])), (18461, ((-1), []))], []), List.Mem.head _, (fun _ => 0), fun i p hi => (by
    match i, hi with
    | n + 0, hi => simp at hi), fun f hf => (by cases hf), fun e he => (by cases he), ⟨hG.1, hG.2.1, hG.2.2.1, hG.2.2.2.1, hG.2.2.2.2.1, hG.2.2.2.2.2.1, hG.2.2.2.2.2.2.1, hG.2.2.2.2.2.2.2.1, hG.2.2.2.2.2.2.2.2.1, hG.2.2.2.2.2.2.2.2.2.1, hG.2.2.2.2.2.2.2.2.2.2.1, c11, c12, hG.2.2.2.2.2.2.2.2.2.2.2.2.2.1, c14, c15⟩⟩
theorem sx_q_s_sfA_0 {γ : Nat → Int} {A : Nat → Nat → Int} {j : Nat} {y : Int} (hG : sx_GG γ A) (c11 : sx_x1 (γ 18461) (A 117) (A 119) (A 120) (A 121) (A 115) (A 116) (sx_au A 113 j y 113) (A 114) (A 111)) (c12 : sx_x2 (γ 18461) (0 + 0) (0 + 0) (0 + 0) ((-1) + 0) (0 + 0) (0 + 0) (0 + 0) ((-1) + 0) ((-1) + 0) ((-1) + 0) (0 + 0) (0 + 0) (A 117) (A 119) (A 120) (A 121) (A 116) (A 114) (A 111)) (c13 : sx_x3 (0 + (1 * y + 0)) (0 + (1 * y + 0)) (0 + 0) (0 + 0) (γ 18478) (γ 18479) (1 + 0) (0 + (1 * y + 0)) (γ 18482) (γ 18483) (γ 18484) (A 117) (A 119) (A 120) (A 121) (A 115) (A 116) (sx_au A 113 j y 113) (A 114)) (c14 : sx_x4 (γ 18461) (γ 18485) (γ 18486) (γ 18487) (γ 18488) (γ 18489) (A 117) (A 119) (A 120) (A 121) (A 115) (A 116) (sx_au A 113 j y 113) (A 114)) (c15 : sx_x5 (0 + 0) (γ 18499) (γ 18500) (A 117) (A 119) (A 120) (A 121) (A 115) (A 116) (sx_au A 113 j y 113) (A 114)) : ∃ a ∈ sx_r_s_sfA.2, ∃ w : Nat → Int, (∀ (i : Nat) p, a.1[i]? = some p → p.2.1 ≤ w i ∧ w i ≤ p.2.2) ∧ (∀ f ∈ a.2.1, 0 ≤ sx_d (sx_th γ (j : Int) y w) f) ∧ (∀ e, a.2.2.2.head? = some e → sx_d (sx_th γ (j : Int) y w) e = y) ∧ sx_GG (sx_gu γ (sx_th γ (j : Int) y w) a.2.2.1) (if true = true then sx_au A 113 j y else A) := ⟨([], [], [(18462, (0, [])), (18463, (0, [])), (18464, (0, [])), (18465, ((-1), [])), (18466, (0, [])), (18467, (0, [])), (18468, (0, [])), (18469, ((-1), [])), (18470, ((-1), [])), (18471, ((-1), [])), (18472, (0, [])), (18473, (0, [])), (18498, (0, [])), (18480, (1, [])), (18481, (0, [(19001, 1)])), (18474, (0, [(19001, 1)])), (18475, (0, [(19001, 1)])), (18476, (0, [])), (18477, (0, []))], []), List.Mem.head _, (fun _ => 0), fun i p hi => (by
    match i, hi with
    | n + 0, hi => simp at hi), fun f hf => (by cases hf), fun e he => (by cases he), ⟨hG.1, hG.2.1, hG.2.2.1, hG.2.2.2.1, hG.2.2.2.2.1, hG.2.2.2.2.2.1, hG.2.2.2.2.2.2.1, hG.2.2.2.2.2.2.2.1, hG.2.2.2.2.2.2.2.2.1, hG.2.2.2.2.2.2.2.2.2.1, hG.2.2.2.2.2.2.2.2.2.2.1, c11, c12, c13, c14, c15⟩⟩
theorem sx_q_s_sfC_0 {γ : Nat → Int} {A : Nat → Nat → Int} {j : Nat} {y : Int} (hG : sx_GG γ A) (c11 : sx_x1 (γ 18461) (A 117) (A 119) (A 120) (A 121) (A 115) (A 116) (sx_au A 113 j y 113) (A 114) (A 111)) (c12 : sx_x2 (γ 18461) (0 + 0) (0 + 0) (0 + 0) ((-1) + 0) (0 + 0) (0 + 0) (0 + 0) ((-1) + 0) ((-1) + 0) ((-1) + 0) (0 + 0) (0 + 0) (A 117) (A 119) (A 120) (A 121) (A 116) (A 114) (A 111)) (c13 : sx_x3 (γ 18474) (γ 18475) (γ 18476) (γ 18477) (γ 18478) (γ 18479) (γ 18480) (γ 18481) (γ 18482) (γ 18483) (γ 18484) (A 117) (A 119) (A 120) (A 121) (A 115) (A 116) (sx_au A 113 j y 113) (A 114)) (c14 : sx_x4 (γ 18461) (γ 18485) (γ 18486) (γ 18487) (γ 18488) (1 + 0) (A 117) (A 119) (A 120) (A 121) (A 115) (A 116) (sx_au A 113 j y 113) (A 114)) (c15 : sx_x5 (0 + 0) (γ 18499) (γ 18500) (A 117) (A 119) (A 120) (A 121) (A 115) (A 116) (sx_au A 113 j y 113) (A 114)) : ∃ a ∈ sx_r_s_sfC.2, ∃ w : Nat → Int, (∀ (i : Nat) p, a.1[i]? = some p → p.2.1 ≤ w i ∧ w i ≤ p.2.2) ∧ (∀ f ∈ a.2.1, 0 ≤ sx_d (sx_th γ (j : Int) y w) f) ∧ (∀ e, a.2.2.2.head? = some e → sx_d (sx_th γ (j : Int) y w) e = y) ∧ sx_GG (sx_gu γ (sx_th γ (j : Int) y w) a.2.2.1) (if true = true then sx_au A 113 j y else A) := ⟨([], [], [(18462, (0, [])), (18463, (0, [])), (18464, (0, [])), (18465, ((-1), [])), (18466, (0, [])), (18467, (0, [])), (18468, (0, [])), (18469, ((-1), [])), (18470, ((-1), [])), (18471, ((-1), [])), (18472, (0, [])), (18473, (0, [])), (18498, (0, [])), (18489, (1, []))], []), List.Mem.head _, (fun _ => 0), fun i p hi => (by
    match i, hi with
    | n + 0, hi => simp at hi), fun f hf => (by cases hf), fun e he => (by cases he), ⟨hG.1, hG.2.1, hG.2.2.1, hG.2.2.2.1, hG.2.2.2.2.1, hG.2.2.2.2.2.1, hG.2.2.2.2.2.2.1, hG.2.2.2.2.2.2.2.1, hG.2.2.2.2.2.2.2.2.1, hG.2.2.2.2.2.2.2.2.2.1, hG.2.2.2.2.2.2.2.2.2.2.1, c11, c12, c13, c14, c15⟩⟩
theorem sx_q_s_stA_0 {γ : Nat → Int} {A : Nat → Nat → Int} {j : Nat} {y : Int} (hG : sx_GG γ A) (c11 : sx_x1 (γ 18461) (A 117) (A 119) (A 120) (A 121) (A 115) (A 116) (A 113) (sx_au A 114 j y 114) (A 111)) (c12 : sx_x2 (γ 18461) (0 + 0) (0 + 0) (0 + 0) ((-1) + 0) (0 + 0) (0 + 0) (0 + 0) ((-1) + 0) ((-1) + 0) ((-1) + 0) (0 + 0) (0 + 0) (A 117) (A 119) (A 120) (A 121) (A 116) (sx_au A 114 j y 114) (A 111)) (c13 : sx_x3 (γ 18474) (γ 18475) (γ 18476) (γ 18477) (γ 18478) (γ 18479) (2 + 0) (γ 18481) (0 + (1 * y + 0)) (γ 18483) (γ 18484) (A 117) (A 119) (A 120) (A 121) (A 115) (A 116) (A 113) (sx_au A 114 j y 114)) (c14 : sx_x4 (γ 18461) (γ 18485) (γ 18486) (γ 18487) (γ 18488) (γ 18489) (A 117) (A 119) (A 120) (A 121) (A 115) (A 116) (A 113) (sx_au A 114 j y 114)) (c15 : sx_x5 (0 + 0) (γ 18499) (γ 18500) (A 117) (A 119) (A 120) (A 121) (A 115) (A 116) (A 113) (sx_au A 114 j y 114)) : ∃ a ∈ sx_r_s_stA.2, ∃ w : Nat → Int, (∀ (i : Nat) p, a.1[i]? = some p → p.2.1 ≤ w i ∧ w i ≤ p.2.2) ∧ (∀ f ∈ a.2.1, 0 ≤ sx_d (sx_th γ (j : Int) y w) f) ∧ (∀ e, a.2.2.2.head? = some e → sx_d (sx_th γ (j : Int) y w) e = y) ∧ sx_GG (sx_gu γ (sx_th γ (j : Int) y w) a.2.2.1) (if true = true then sx_au A 114 j y else A) := ⟨([], [], [(18462, (0, [])), (18463, (0, [])), (18464, (0, [])), (18465, ((-1), [])), (18466, (0, [])), (18467, (0, [])), (18468, (0, [])), (18469, ((-1), [])), (18470, ((-1), [])), (18471, ((-1), [])), (18472, (0, [])), (18473, (0, [])), (18498, (0, [])), (18480, (2, [])), (18482, (0, [(19001, 1)]))], []), List.Mem.head _, (fun _ => 0), fun i p hi => (by
    match i, hi with
    | n + 0, hi => simp at hi), fun f hf => (by cases hf), fun e he => (by cases he), ⟨hG.1, hG.2.1, hG.2.2.1, hG.2.2.2.1, hG.2.2.2.2.1, hG.2.2.2.2.2.1, hG.2.2.2.2.2.2.1, hG.2.2.2.2.2.2.2.1, hG.2.2.2.2.2.2.2.2.1, hG.2.2.2.2.2.2.2.2.2.1, hG.2.2.2.2.2.2.2.2.2.2.1, c11, c12, c13, c14, c15⟩⟩
theorem sx_q_s_stC_0 {γ : Nat → Int} {A : Nat → Nat → Int} {j : Nat} {y : Int} (hG : sx_GG γ A) (c11 : sx_x1 (γ 18461) (A 117) (A 119) (A 120) (A 121) (A 115) (A 116) (A 113) (sx_au A 114 j y 114) (A 111)) (c12 : sx_x2 (γ 18461) (0 + 0) (0 + 0) (0 + 0) ((-1) + 0) (0 + 0) (0 + 0) (0 + 0) ((-1) + 0) ((-1) + 0) ((-1) + 0) (0 + 0) (0 + 0) (A 117) (A 119) (A 120) (A 121) (A 116) (sx_au A 114 j y 114) (A 111)) (c13 : sx_x3 (γ 18474) (γ 18475) (γ 18476) (γ 18477) (γ 18478) (γ 18479) (γ 18480) (γ 18481) (γ 18482) (γ 18483) (γ 18484) (A 117) (A 119) (A 120) (A 121) (A 115) (A 116) (A 113) (sx_au A 114 j y 114)) (c14 : sx_x4 (γ 18461) (γ 18485) (γ 18486) (γ 18487) (γ 18488) (2 + 0) (A 117) (A 119) (A 120) (A 121) (A 115) (A 116) (A 113) (sx_au A 114 j y 114)) (c15 : sx_x5 (0 + 0) (γ 18499) (γ 18500) (A 117) (A 119) (A 120) (A 121) (A 115) (A 116) (A 113) (sx_au A 114 j y 114)) : ∃ a ∈ sx_r_s_stC.2, ∃ w : Nat → Int, (∀ (i : Nat) p, a.1[i]? = some p → p.2.1 ≤ w i ∧ w i ≤ p.2.2) ∧ (∀ f ∈ a.2.1, 0 ≤ sx_d (sx_th γ (j : Int) y w) f) ∧ (∀ e, a.2.2.2.head? = some e → sx_d (sx_th γ (j : Int) y w) e = y) ∧ sx_GG (sx_gu γ (sx_th γ (j : Int) y w) a.2.2.1) (if true = true then sx_au A 114 j y else A) := ⟨([], [], [(18462, (0, [])), (18463, (0, [])), (18464, (0, [])), (18465, ((-1), [])), (18466, (0, [])), (18467, (0, [])), (18468, (0, [])), (18469, ((-1), [])), (18470, ((-1), [])), (18471, ((-1), [])), (18472, (0, [])), (18473, (0, [])), (18498, (0, [])), (18489, (2, []))], []), List.Mem.head _, (fun _ => 0), fun i p hi => (by
    match i, hi with
    | n + 0, hi => simp at hi), fun f hf => (by cases hf), fun e he => (by cases he), ⟨hG.1, hG.2.1, hG.2.2.1, hG.2.2.2.1, hG.2.2.2.2.1, hG.2.2.2.2.2.1, hG.2.2.2.2.2.2.1, hG.2.2.2.2.2.2.2.1, hG.2.2.2.2.2.2.2.2.1, hG.2.2.2.2.2.2.2.2.2.1, hG.2.2.2.2.2.2.2.2.2.2.1, c11, c12, c13, c14, c15⟩⟩
theorem sx_q_s_tfA_0 {γ : Nat → Int} {A : Nat → Nat → Int} {j : Nat} {y : Int} (hG : sx_GG γ A) (c11 : sx_x1 (γ 18461) (A 117) (A 119) (A 120) (A 121) (sx_au A 115 j y 115) (A 116) (A 113) (A 114) (A 111)) (c12 : sx_x2 (γ 18461) (0 + 0) (0 + 0) (0 + 0) ((-1) + 0) (0 + 0) (0 + 0) (0 + 0) ((-1) + 0) ((-1) + 0) ((-1) + 0) (0 + 0) (0 + 0) (A 117) (A 119) (A 120) (A 121) (A 116) (A 114) (A 111)) (c13 : sx_x3 (γ 18474) (γ 18475) (γ 18476) (γ 18477) (γ 18478) (γ 18479) (3 + 0) (γ 18481) (γ 18482) (0 + (1 * y + 0)) (γ 18484) (A 117) (A 119) (A 120) (A 121) (sx_au A 115 j y 115) (A 116) (A 113) (A 114)) (c14 : sx_x4 (γ 18461) (γ 18485) (γ 18486) (γ 18487) (γ 18488) (γ 18489) (A 117) (A 119) (A 120) (A 121) (sx_au A 115 j y 115) (A 116) (A 113) (A 114)) (c15 : sx_x5 (0 + 0) (γ 18499) (γ 18500) (A 117) (A 119) (A 120) (A 121) (sx_au A 115 j y 115) (A 116) (A 113) (A 114)) : ∃ a ∈ sx_r_s_tfA.2, ∃ w : Nat → Int, (∀ (i : Nat) p, a.1[i]? = some p → p.2.1 ≤ w i ∧ w i ≤ p.2.2) ∧ (∀ f ∈ a.2.1, 0 ≤ sx_d (sx_th γ (j : Int) y w) f) ∧ (∀ e, a.2.2.2.head? = some e → sx_d (sx_th γ (j : Int) y w) e = y) ∧ sx_GG (sx_gu γ (sx_th γ (j : Int) y w) a.2.2.1) (if true = true then sx_au A 115 j y else A) := ⟨([], [], [(18462, (0, [])), (18463, (0, [])), (18464, (0, [])), (18465, ((-1), [])), (18466, (0, [])), (18467, (0, [])), (18468, (0, [])), (18469, ((-1), [])), (18470, ((-1), [])), (18471, ((-1), [])), (18472, (0, [])), (18473, (0, [])), (18498, (0, [])), (18480, (3, [])), (18483, (0, [(19001, 1)]))], []), List.Mem.head _, (fun _ => 0), fun i p hi => (by
    match i, hi with
    | n + 0, hi => simp at hi), fun f hf => (by cases hf), fun e he => (by cases he), ⟨hG.1, hG.2.1, hG.2.2.1, hG.2.2.2.1, hG.2.2.2.2.1, hG.2.2.2.2.2.1, hG.2.2.2.2.2.2.1, hG.2.2.2.2.2.2.2.1, hG.2.2.2.2.2.2.2.2.1, hG.2.2.2.2.2.2.2.2.2.1, hG.2.2.2.2.2.2.2.2.2.2.1, c11, c12, c13, c14, c15⟩⟩
theorem sx_q_s_tfC_0 {γ : Nat → Int} {A : Nat → Nat → Int} {j : Nat} {y : Int} (hG : sx_GG γ A) (c11 : sx_x1 (γ 18461) (A 117) (A 119) (A 120) (A 121) (sx_au A 115 j y 115) (A 116) (A 113) (A 114) (A 111)) (c12 : sx_x2 (γ 18461) (0 + 0) (0 + 0) (0 + 0) ((-1) + 0) (0 + 0) (0 + 0) (0 + 0) ((-1) + 0) ((-1) + 0) ((-1) + 0) (0 + 0) (0 + 0) (A 117) (A 119) (A 120) (A 121) (A 116) (A 114) (A 111)) (c13 : sx_x3 (γ 18474) (γ 18475) (γ 18476) (γ 18477) (γ 18478) (γ 18479) (γ 18480) (γ 18481) (γ 18482) (γ 18483) (γ 18484) (A 117) (A 119) (A 120) (A 121) (sx_au A 115 j y 115) (A 116) (A 113) (A 114)) (c14 : sx_x4 (γ 18461) (γ 18485) (γ 18486) (γ 18487) (γ 18488) (3 + 0) (A 117) (A 119) (A 120) (A 121) (sx_au A 115 j y 115) (A 116) (A 113) (A 114)) (c15 : sx_x5 (0 + 0) (γ 18499) (γ 18500) (A 117) (A 119) (A 120) (A 121) (sx_au A 115 j y 115) (A 116) (A 113) (A 114)) : ∃ a ∈ sx_r_s_tfC.2, ∃ w : Nat → Int, (∀ (i : Nat) p, a.1[i]? = some p → p.2.1 ≤ w i ∧ w i ≤ p.2.2) ∧ (∀ f ∈ a.2.1, 0 ≤ sx_d (sx_th γ (j : Int) y w) f) ∧ (∀ e, a.2.2.2.head? = some e → sx_d (sx_th γ (j : Int) y w) e = y) ∧ sx_GG (sx_gu γ (sx_th γ (j : Int) y w) a.2.2.1) (if true = true then sx_au A 115 j y else A) := ⟨([], [], [(18462, (0, [])), (18463, (0, [])), (18464, (0, [])), (18465, ((-1), [])), (18466, (0, [])), (18467, (0, [])), (18468, (0, [])), (18469, ((-1), [])), (18470, ((-1), [])), (18471, ((-1), [])), (18472, (0, [])), (18473, (0, [])), (18498, (0, [])), (18489, (3, []))], []), List.Mem.head _, (fun _ => 0), fun i p hi => (by
    match i, hi with
    | n + 0, hi => simp at hi), fun f hf => (by cases hf), fun e he => (by cases he), ⟨hG.1, hG.2.1, hG.2.2.1, hG.2.2.2.1, hG.2.2.2.2.1, hG.2.2.2.2.2.1, hG.2.2.2.2.2.2.1, hG.2.2.2.2.2.2.2.1, hG.2.2.2.2.2.2.2.2.1, hG.2.2.2.2.2.2.2.2.2.1, hG.2.2.2.2.2.2.2.2.2.2.1, c11, c12, c13, c14, c15⟩⟩
theorem sx_q_s_ttA_0 {γ : Nat → Int} {A : Nat → Nat → Int} {j : Nat} {y : Int} (hG : sx_GG γ A) (c11 : sx_x1 (γ 18461) (A 117) (A 119) (A 120) (A 121) (A 115) (sx_au A 116 j y 116) (A 113) (A 114) (A 111)) (c12 : sx_x2 (γ 18461) (0 + 0) (0 + 0) (0 + 0) ((-1) + 0) (0 + 0) (0 + 0) (0 + 0) ((-1) + 0) ((-1) + 0) ((-1) + 0) (0 + 0) (0 + 0) (A 117) (A 119) (A 120) (A 121) (sx_au A 116 j y 116) (A 114) (A 111)) (c13 : sx_x3 (γ 18474) (γ 18475) (γ 18476) (γ 18477) (γ 18478) (γ 18479) (0 + 0) (γ 18481) (γ 18482) (γ 18483) (1 + (1 * γ 18484 + 0)) (A 117) (A 119) (A 120) (A 121) (A 115) (sx_au A 116 j y 116) (A 113) (A 114)) (c14 : sx_x4 (γ 18461) (γ 18485) (γ 18486) (γ 18487) (γ 18488) (γ 18489) (A 117) (A 119) (A 120) (A 121) (A 115) (sx_au A 116 j y 116) (A 113) (A 114)) (c15 : sx_x5 (0 + 0) (γ 18499) (γ 18500) (A 117) (A 119) (A 120) (A 121) (A 115) (sx_au A 116 j y 116) (A 113) (A 114)) : ∃ a ∈ sx_r_s_ttA.2, ∃ w : Nat → Int, (∀ (i : Nat) p, a.1[i]? = some p → p.2.1 ≤ w i ∧ w i ≤ p.2.2) ∧ (∀ f ∈ a.2.1, 0 ≤ sx_d (sx_th γ (j : Int) y w) f) ∧ (∀ e, a.2.2.2.head? = some e → sx_d (sx_th γ (j : Int) y w) e = y) ∧ sx_GG (sx_gu γ (sx_th γ (j : Int) y w) a.2.2.1) (if true = true then sx_au A 116 j y else A) := ⟨([], [], [(18462, (0, [])), (18463, (0, [])), (18464, (0, [])), (18465, ((-1), [])), (18466, (0, [])), (18467, (0, [])), (18468, (0, [])), (18469, ((-1), [])), (18470, ((-1), [])), (18471, ((-1), [])), (18472, (0, [])), (18473, (0, [])), (18498, (0, [])), (18480, (0, [])), (18484, (1, [(18484, 1)]))], []), List.Mem.head _, (fun _ => 0), fun i p hi => (by
    match i, hi with
    | n + 0, hi => simp at hi), fun f hf => (by cases hf), fun e he => (by cases he), ⟨hG.1, hG.2.1, hG.2.2.1, hG.2.2.2.1, hG.2.2.2.2.1, hG.2.2.2.2.2.1, hG.2.2.2.2.2.2.1, hG.2.2.2.2.2.2.2.1, hG.2.2.2.2.2.2.2.2.1, hG.2.2.2.2.2.2.2.2.2.1, hG.2.2.2.2.2.2.2.2.2.2.1, c11, c12, c13, c14, c15⟩⟩
theorem sx_q_s_ttC_0 {γ : Nat → Int} {A : Nat → Nat → Int} {j : Nat} {y : Int} (hG : sx_GG γ A) (c11 : sx_x1 (γ 18461) (A 117) (A 119) (A 120) (A 121) (A 115) (sx_au A 116 j y 116) (A 113) (A 114) (A 111)) (c12 : sx_x2 (γ 18461) (0 + 0) (0 + 0) (0 + 0) ((-1) + 0) (0 + 0) (0 + 0) (0 + 0) ((-1) + 0) ((-1) + 0) ((-1) + 0) (0 + 0) (0 + 0) (A 117) (A 119) (A 120) (A 121) (sx_au A 116 j y 116) (A 114) (A 111)) (c13 : sx_x3 (γ 18474) (γ 18475) (γ 18476) (γ 18477) (γ 18478) (γ 18479) (γ 18480) (γ 18481) (γ 18482) (γ 18483) (γ 18484) (A 117) (A 119) (A 120) (A 121) (A 115) (sx_au A 116 j y 116) (A 113) (A 114)) (c14 : sx_x4 (γ 18461) (γ 18485) (γ 18486) (γ 18487) (1 + (1 * γ 18488 + 0)) (0 + 0) (A 117) (A 119) (A 120) (A 121) (A 115) (sx_au A 116 j y 116) (A 113) (A 114)) (c15 : sx_x5 (0 + 0) (γ 18499) (γ 18500) (A 117) (A 119) (A 120) (A 121) (A 115) (sx_au A 116 j y 116) (A 113) (A 114)) : ∃ a ∈ sx_r_s_ttC.2, ∃ w : Nat → Int, (∀ (i : Nat) p, a.1[i]? = some p → p.2.1 ≤ w i ∧ w i ≤ p.2.2) ∧ (∀ f ∈ a.2.1, 0 ≤ sx_d (sx_th γ (j : Int) y w) f) ∧ (∀ e, a.2.2.2.head? = some e → sx_d (sx_th γ (j : Int) y w) e = y) ∧ sx_GG (sx_gu γ (sx_th γ (j : Int) y w) a.2.2.1) (if true = true then sx_au A 116 j y else A) := ⟨([], [], [(18462, (0, [])), (18463, (0, [])), (18464, (0, [])), (18465, ((-1), [])), (18466, (0, [])), (18467, (0, [])), (18468, (0, [])), (18469, ((-1), [])), (18470, ((-1), [])), (18471, ((-1), [])), (18472, (0, [])), (18473, (0, [])), (18498, (0, [])), (18489, (0, [])), (18488, (1, [(18488, 1)]))], []), List.Mem.head _, (fun _ => 0), fun i p hi => (by
    match i, hi with
    | n + 0, hi => simp at hi), fun f hf => (by cases hf), fun e he => (by cases he), ⟨hG.1, hG.2.1, hG.2.2.1, hG.2.2.2.1, hG.2.2.2.2.1, hG.2.2.2.2.2.1, hG.2.2.2.2.2.2.1, hG.2.2.2.2.2.2.2.1, hG.2.2.2.2.2.2.2.2.1, hG.2.2.2.2.2.2.2.2.2.1, hG.2.2.2.2.2.2.2.2.2.2.1, c11, c12, c13, c14, c15⟩⟩
theorem sx_q_s_sgA_0 {γ : Nat → Int} {A : Nat → Nat → Int} {j : Nat} {y : Int} (hG : sx_GG γ A) (c11 : sx_x1 (γ 18461) (sx_au A 117 j y 117) (A 119) (A 120) (A 121) (A 115) (A 116) (A 113) (A 114) (A 111)) (c12 : sx_x2 (γ 18461) (0 + 0) (0 + 0) (0 + 0) ((-1) + 0) (0 + 0) (0 + 0) (0 + 0) ((-1) + 0) ((-1) + 0) ((-1) + 0) (0 + 0) (0 + 0) (sx_au A 117 j y 117) (A 119) (A 120) (A 121) (A 116) (A 114) (A 111)) (c13 : sx_x3 (γ 18474) (1 + (1 * γ 18475 + 0)) (1 + (1 * γ 18476 + 0)) (γ 18477) (γ 18478) (γ 18479) (γ 18480) (γ 18481) (γ 18482) (γ 18483) (γ 18484) (sx_au A 117 j y 117) (A 119) (A 120) (A 121) (A 115) (A 116) (A 113) (A 114)) (c14 : sx_x4 (γ 18461) (γ 18485) (γ 18486) (γ 18487) (γ 18488) (γ 18489) (sx_au A 117 j y 117) (A 119) (A 120) (A 121) (A 115) (A 116) (A 113) (A 114)) (c15 : sx_x5 (0 + 0) (γ 18499) (γ 18500) (sx_au A 117 j y 117) (A 119) (A 120) (A 121) (A 115) (A 116) (A 113) (A 114)) : ∃ a ∈ sx_r_s_sgA.2, ∃ w : Nat → Int, (∀ (i : Nat) p, a.1[i]? = some p → p.2.1 ≤ w i ∧ w i ≤ p.2.2) ∧ (∀ f ∈ a.2.1, 0 ≤ sx_d (sx_th γ (j : Int) y w) f) ∧ (∀ e, a.2.2.2.head? = some e → sx_d (sx_th γ (j : Int) y w) e = y) ∧ sx_GG (sx_gu γ (sx_th γ (j : Int) y w) a.2.2.1) (if true = true then sx_au A 117 j y else A) := ⟨([], [], [(18462, (0, [])), (18463, (0, [])), (18464, (0, [])), (18465, ((-1), [])), (18466, (0, [])), (18467, (0, [])), (18468, (0, [])), (18469, ((-1), [])), (18470, ((-1), [])), (18471, ((-1), [])), (18472, (0, [])), (18473, (0, [])), (18498, (0, [])), (18475, (1, [(18475, 1)])), (18476, (1, [(18476, 1)]))], []), List.Mem.head _, (fun _ => 0), fun i p hi => (by
    match i, hi with
    | n + 0, hi => simp at hi), fun f hf => (by cases hf), fun e he => (by cases he), ⟨hG.1, hG.2.1, hG.2.2.1, hG.2.2.2.1, hG.2.2.2.2.1, hG.2.2.2.2.2.1, hG.2.2.2.2.2.2.1, hG.2.2.2.2.2.2.2.1, hG.2.2.2.2.2.2.2.2.1, hG.2.2.2.2.2.2.2.2.2.1, hG.2.2.2.2.2.2.2.2.2.2.1, c11, c12, c13, c14, c15⟩⟩
theorem sx_q_s_sgB_0 {γ : Nat → Int} {A : Nat → Nat → Int} {j : Nat} {y : Int} (hG : sx_GG γ A) (c11 : sx_x1 (γ 18461) (sx_au A 117 j y 117) (A 119) (A 120) (A 121) (A 115) (A 116) (A 113) (A 114) (A 111)) (c12 : sx_x2 (γ 18461) (0 + 0) (0 + 0) (0 + 0) ((-1) + 0) (0 + 0) (0 + 0) (0 + 0) ((-1) + 0) ((-1) + 0) ((-1) + 0) (0 + 0) (0 + 0) (sx_au A 117 j y 117) (A 119) (A 120) (A 121) (A 116) (A 114) (A 111)) (c13 : sx_x3 (γ 18474) (1 + (1 * γ 18475 + 0)) ((-1) + (1 * γ 18476 + 0)) (γ 18477) (γ 18478) (γ 18479) (γ 18480) (γ 18481) (γ 18482) (γ 18483) (γ 18484) (sx_au A 117 j y 117) (A 119) (A 120) (A 121) (A 115) (A 116) (A 113) (A 114)) (c14 : sx_x4 (γ 18461) (γ 18485) (γ 18486) (γ 18487) (γ 18488) (γ 18489) (sx_au A 117 j y 117) (A 119) (A 120) (A 121) (A 115) (A 116) (A 113) (A 114)) (c15 : sx_x5 (0 + 0) (γ 18499) (γ 18500) (sx_au A 117 j y 117) (A 119) (A 120) (A 121) (A 115) (A 116) (A 113) (A 114)) : ∃ a ∈ sx_r_s_sgB.2, ∃ w : Nat → Int, (∀ (i : Nat) p, a.1[i]? = some p → p.2.1 ≤ w i ∧ w i ≤ p.2.2) ∧ (∀ f ∈ a.2.1, 0 ≤ sx_d (sx_th γ (j : Int) y w) f) ∧ (∀ e, a.2.2.2.head? = some e → sx_d (sx_th γ (j : Int) y w) e = y) ∧ sx_GG (sx_gu γ (sx_th γ (j : Int) y w) a.2.2.1) (if true = true then sx_au A 117 j y else A) := ⟨([], [], [(18462, (0, [])), (18463, (0, [])), (18464, (0, [])), (18465, ((-1), [])), (18466, (0, [])), (18467, (0, [])), (18468, (0, [])), (18469, ((-1), [])), (18470, ((-1), [])), (18471, ((-1), [])), (18472, (0, [])), (18473, (0, [])), (18498, (0, [])), (18475, (1, [(18475, 1)])), (18476, ((-1), [(18476, 1)]))], []), List.Mem.head _, (fun _ => 0), fun i p hi => (by
    match i, hi with
    | n + 0, hi => simp at hi), fun f hf => (by cases hf), fun e he => (by cases he), ⟨hG.1, hG.2.1, hG.2.2.1, hG.2.2.2.1, hG.2.2.2.2.1, hG.2.2.2.2.2.1, hG.2.2.2.2.2.2.1, hG.2.2.2.2.2.2.2.1, hG.2.2.2.2.2.2.2.2.1, hG.2.2.2.2.2.2.2.2.2.1, hG.2.2.2.2.2.2.2.2.2.2.1, c11, c12, c13, c14, c15⟩⟩
theorem sx_q_s_sgC_0 {γ : Nat → Int} {A : Nat → Nat → Int} {j : Nat} {y : Int} (hG : sx_GG γ A) (c11 : sx_x1 (γ 18461) (sx_au A 117 j y 117) (A 119) (A 120) (A 121) (A 115) (A 116) (A 113) (A 114) (A 111)) (c12 : sx_x2 (γ 18461) (0 + 0) (0 + 0) (0 + 0) ((-1) + 0) (0 + 0) (0 + 0) (0 + 0) ((-1) + 0) ((-1) + 0) ((-1) + 0) (0 + 0) (0 + 0) (sx_au A 117 j y 117) (A 119) (A 120) (A 121) (A 116) (A 114) (A 111)) (c13 : sx_x3 (γ 18474) (γ 18475) (γ 18476) (γ 18477) (γ 18478) (γ 18479) (γ 18480) (γ 18481) (γ 18482) (γ 18483) (γ 18484) (sx_au A 117 j y 117) (A 119) (A 120) (A 121) (A 115) (A 116) (A 113) (A 114)) (c14 : sx_x4 (γ 18461) (1 + (1 * γ 18485 + 0)) (γ 18486) (γ 18487) (γ 18488) (γ 18489) (sx_au A 117 j y 117) (A 119) (A 120) (A 121) (A 115) (A 116) (A 113) (A 114)) (c15 : sx_x5 (0 + 0) (γ 18499) (γ 18500) (sx_au A 117 j y 117) (A 119) (A 120) (A 121) (A 115) (A 116) (A 113) (A 114)) : ∃ a ∈ sx_r_s_sgC.2, ∃ w : Nat → Int, (∀ (i : Nat) p, a.1[i]? = some p → p.2.1 ≤ w i ∧ w i ≤ p.2.2) ∧ (∀ f ∈ a.2.1, 0 ≤ sx_d (sx_th γ (j : Int) y w) f) ∧ (∀ e, a.2.2.2.head? = some e → sx_d (sx_th γ (j : Int) y w) e = y) ∧ sx_GG (sx_gu γ (sx_th γ (j : Int) y w) a.2.2.1) (if true = true then sx_au A 117 j y else A) := ⟨([], [], [(18462, (0, [])), (18463, (0, [])), (18464, (0, [])), (18465, ((-1), [])), (18466, (0, [])), (18467, (0, [])), (18468, (0, [])), (18469, ((-1), [])), (18470, ((-1), [])), (18471, ((-1), [])), (18472, (0, [])), (18473, (0, [])), (18498, (0, [])), (18485, (1, [(18485, 1)]))], []), List.Mem.head _, (fun _ => 0), fun i p hi => (by
    match i, hi with
    | n + 0, hi => simp at hi), fun f hf => (by cases hf), fun e he => (by cases he), ⟨hG.1, hG.2.1, hG.2.2.1, hG.2.2.2.1, hG.2.2.2.2.1, hG.2.2.2.2.2.1, hG.2.2.2.2.2.2.1, hG.2.2.2.2.2.2.2.1, hG.2.2.2.2.2.2.2.2.1, hG.2.2.2.2.2.2.2.2.2.1, hG.2.2.2.2.2.2.2.2.2.2.1, c11, c12, c13, c14, c15⟩⟩
theorem sx_q_s_lfA_0 {γ : Nat → Int} {A : Nat → Nat → Int} {j : Nat} {y : Int} (hG : sx_GG γ A) (c11 : sx_x1 (γ 18461) (A 117) (sx_au A 119 j y 119) (A 120) (A 121) (A 115) (A 116) (A 113) (A 114) (A 111)) (c12 : sx_x2 (γ 18461) (0 + 0) (0 + 0) (0 + 0) ((-1) + 0) (0 + 0) (0 + 0) (0 + 0) ((-1) + 0) ((-1) + 0) ((-1) + 0) (0 + 0) (0 + 0) (A 117) (sx_au A 119 j y 119) (A 120) (A 121) (A 116) (A 114) (A 111)) (c13 : sx_x3 (0 + (1 * y + 0)) (0 + (1 * y + 0)) (0 + 0) (1 + 0) (0 + (1 * y + 0)) (γ 18479) (γ 18480) (γ 18481) (γ 18482) (γ 18483) (γ 18484) (A 117) (sx_au A 119 j y 119) (A 120) (A 121) (A 115) (A 116) (A 113) (A 114)) (c14 : sx_x4 (γ 18461) (γ 18485) (γ 18486) (γ 18487) (γ 18488) (γ 18489) (A 117) (sx_au A 119 j y 119) (A 120) (A 121) (A 115) (A 116) (A 113) (A 114)) (c15 : sx_x5 (0 + 0) (γ 18499) (γ 18500) (A 117) (sx_au A 119 j y 119) (A 120) (A 121) (A 115) (A 116) (A 113) (A 114)) : ∃ a ∈ sx_r_s_lfA.2, ∃ w : Nat → Int, (∀ (i : Nat) p, a.1[i]? = some p → p.2.1 ≤ w i ∧ w i ≤ p.2.2) ∧ (∀ f ∈ a.2.1, 0 ≤ sx_d (sx_th γ (j : Int) y w) f) ∧ (∀ e, a.2.2.2.head? = some e → sx_d (sx_th γ (j : Int) y w) e = y) ∧ sx_GG (sx_gu γ (sx_th γ (j : Int) y w) a.2.2.1) (if true = true then sx_au A 119 j y else A) := ⟨([], [], [(18462, (0, [])), (18463, (0, [])), (18464, (0, [])), (18465, ((-1), [])), (18466, (0, [])), (18467, (0, [])), (18468, (0, [])), (18469, ((-1), [])), (18470, ((-1), [])), (18471, ((-1), [])), (18472, (0, [])), (18473, (0, [])), (18498, (0, [])), (18477, (1, [])), (18478, (0, [(19001, 1)])), (18474, (0, [(19001, 1)])), (18475, (0, [(19001, 1)])), (18476, (0, []))], []), List.Mem.head _, (fun _ => 0), fun i p hi => (by
    match i, hi with
    | n + 0, hi => simp at hi), fun f hf => (by cases hf), fun e he => (by cases he), ⟨hG.1, hG.2.1, hG.2.2.1, hG.2.2.2.1, hG.2.2.2.2.1, hG.2.2.2.2.2.1, hG.2.2.2.2.2.2.1, hG.2.2.2.2.2.2.2.1, hG.2.2.2.2.2.2.2.2.1, hG.2.2.2.2.2.2.2.2.2.1, hG.2.2.2.2.2.2.2.2.2.2.1, c11, c12, c13, c14, c15⟩⟩
theorem sx_q_s_lfC_0 {γ : Nat → Int} {A : Nat → Nat → Int} {j : Nat} {y : Int} (hG : sx_GG γ A) (c11 : sx_x1 (γ 18461) (A 117) (sx_au A 119 j y 119) (A 120) (A 121) (A 115) (A 116) (A 113) (A 114) (A 111)) (c12 : sx_x2 (γ 18461) (0 + 0) (0 + 0) (0 + 0) ((-1) + 0) (0 + 0) (0 + 0) (0 + 0) ((-1) + 0) ((-1) + 0) ((-1) + 0) (0 + 0) (0 + 0) (A 117) (sx_au A 119 j y 119) (A 120) (A 121) (A 116) (A 114) (A 111)) (c13 : sx_x3 (γ 18474) (γ 18475) (γ 18476) (γ 18477) (γ 18478) (γ 18479) (γ 18480) (γ 18481) (γ 18482) (γ 18483) (γ 18484) (A 117) (sx_au A 119 j y 119) (A 120) (A 121) (A 115) (A 116) (A 113) (A 114)) (c14 : sx_x4 (γ 18461) (γ 18485) (γ 18486) (1 + 0) (γ 18488) (γ 18489) (A 117) (sx_au A 119 j y 119) (A 120) (A 121) (A 115) (A 116) (A 113) (A 114)) (c15 : sx_x5 (0 + 0) (γ 18499) (γ 18500) (A 117) (sx_au A 119 j y 119) (A 120) (A 121) (A 115) (A 116) (A 113) (A 114)) : ∃ a ∈ sx_r_s_lfC.2, ∃ w : Nat → Int, (∀ (i : Nat) p, a.1[i]? = some p → p.2.1 ≤ w i ∧ w i ≤ p.2.2) ∧ (∀ f ∈ a.2.1, 0 ≤ sx_d (sx_th γ (j : Int) y w) f) ∧ (∀ e, a.2.2.2.head? = some e → sx_d (sx_th γ (j : Int) y w) e = y) ∧ sx_GG (sx_gu γ (sx_th γ (j : Int) y w) a.2.2.1) (if true = true then sx_au A 119 j y else A) := ⟨([], [], [(18462, (0, [])), (18463, (0, [])), (18464, (0, [])), (18465, ((-1), [])), (18466, (0, [])), (18467, (0, [])), (18468, (0, [])), (18469, ((-1), [])), (18470, ((-1), [])), (18471, ((-1), [])), (18472, (0, [])), (18473, (0, [])), (18498, (0, [])), (18487, (1, []))], []), List.Mem.head _, (fun _ => 0), fun i p hi => (by
    match i, hi with
    | n + 0, hi => simp at hi), fun f hf => (by cases hf), fun e he => (by cases he), ⟨hG.1, hG.2.1, hG.2.2.1, hG.2.2.2.1, hG.2.2.2.2.1, hG.2.2.2.2.2.1, hG.2.2.2.2.2.2.1, hG.2.2.2.2.2.2.2.1, hG.2.2.2.2.2.2.2.2.1, hG.2.2.2.2.2.2.2.2.2.1, hG.2.2.2.2.2.2.2.2.2.2.1, c11, c12, c13, c14, c15⟩⟩
theorem sx_q_s_ltA_0 {γ : Nat → Int} {A : Nat → Nat → Int} {j : Nat} {y : Int} (hG : sx_GG γ A) (c11 : sx_x1 (γ 18461) (A 117) (A 119) (sx_au A 120 j y 120) (A 121) (A 115) (A 116) (A 113) (A 114) (A 111)) (c12 : sx_x2 (γ 18461) (0 + 0) (0 + 0) (0 + 0) ((-1) + 0) (0 + 0) (0 + 0) (0 + 0) ((-1) + 0) ((-1) + 0) ((-1) + 0) (0 + 0) (0 + 0) (A 117) (A 119) (sx_au A 120 j y 120) (A 121) (A 116) (A 114) (A 111)) (c13 : sx_x3 (0 + (1 * y + 0)) (0 + (1 * y + 0)) (0 + 0) (2 + 0) (γ 18478) (γ 18479) (γ 18480) (γ 18481) (γ 18482) (γ 18483) (γ 18484) (A 117) (A 119) (sx_au A 120 j y 120) (A 121) (A 115) (A 116) (A 113) (A 114)) (c14 : sx_x4 (γ 18461) (γ 18485) (γ 18486) (γ 18487) (γ 18488) (γ 18489) (A 117) (A 119) (sx_au A 120 j y 120) (A 121) (A 115) (A 116) (A 113) (A 114)) (c15 : sx_x5 (0 + 0) (γ 18499) (γ 18500) (A 117) (A 119) (sx_au A 120 j y 120) (A 121) (A 115) (A 116) (A 113) (A 114)) : ∃ a ∈ sx_r_s_ltA.2, ∃ w : Nat → Int, (∀ (i : Nat) p, a.1[i]? = some p → p.2.1 ≤ w i ∧ w i ≤ p.2.2) ∧ (∀ f ∈ a.2.1, 0 ≤ sx_d (sx_th γ (j : Int) y w) f) ∧ (∀ e, a.2.2.2.head? = some e → sx_d (sx_th γ (j : Int) y w) e = y) ∧ sx_GG (sx_gu γ (sx_th γ (j : Int) y w) a.2.2.1) (if true = true then sx_au A 120 j y else A) := ⟨([], [], [(18462, (0, [])), (18463, (0, [])), (18464, (0, [])), (18465, ((-1), [])), (18466, (0, [])), (18467, (0, [])), (18468, (0, [])), (18469, ((-1), [])), (18470, ((-1), [])), (18471, ((-1), [])), (18472, (0, [])), (18473, (0, [])), (18498, (0, [])), (18477, (2, [])), (18474, (0, [(19001, 1)])), (18475, (0, [(19001, 1)])), (18476, (0, []))], []), List.Mem.head _, (fun _ => 0), fun i p hi => (by
    match i, hi with
    | n + 0, hi => simp at hi), fun f hf => (by cases hf), fun e he => (by cases he), ⟨hG.1, hG.2.1, hG.2.2.1, hG.2.2.2.1, hG.2.2.2.2.1, hG.2.2.2.2.2.1, hG.2.2.2.2.2.2.1, hG.2.2.2.2.2.2.2.1, hG.2.2.2.2.2.2.2.2.1, hG.2.2.2.2.2.2.2.2.2.1, hG.2.2.2.2.2.2.2.2.2.2.1, c11, c12, c13, c14, c15⟩⟩
theorem sx_q_s_ltC_0 {γ : Nat → Int} {A : Nat → Nat → Int} {j : Nat} {y : Int} (hG : sx_GG γ A) (c11 : sx_x1 (γ 18461) (A 117) (A 119) (sx_au A 120 j y 120) (A 121) (A 115) (A 116) (A 113) (A 114) (A 111)) (c12 : sx_x2 (γ 18461) (0 + 0) (0 + 0) (0 + 0) ((-1) + 0) (0 + 0) (0 + 0) (0 + 0) ((-1) + 0) ((-1) + 0) ((-1) + 0) (0 + 0) (0 + 0) (A 117) (A 119) (sx_au A 120 j y 120) (A 121) (A 116) (A 114) (A 111)) (c13 : sx_x3 (γ 18474) (γ 18475) (γ 18476) (γ 18477) (γ 18478) (γ 18479) (γ 18480) (γ 18481) (γ 18482) (γ 18483) (γ 18484) (A 117) (A 119) (sx_au A 120 j y 120) (A 121) (A 115) (A 116) (A 113) (A 114)) (c14 : sx_x4 (γ 18461) (γ 18485) (γ 18486) (2 + 0) (γ 18488) (γ 18489) (A 117) (A 119) (sx_au A 120 j y 120) (A 121) (A 115) (A 116) (A 113) (A 114)) (c15 : sx_x5 (0 + 0) (γ 18499) (γ 18500) (A 117) (A 119) (sx_au A 120 j y 120) (A 121) (A 115) (A 116) (A 113) (A 114)) : ∃ a ∈ sx_r_s_ltC.2, ∃ w : Nat → Int, (∀ (i : Nat) p, a.1[i]? = some p → p.2.1 ≤ w i ∧ w i ≤ p.2.2) ∧ (∀ f ∈ a.2.1, 0 ≤ sx_d (sx_th γ (j : Int) y w) f) ∧ (∀ e, a.2.2.2.head? = some e → sx_d (sx_th γ (j : Int) y w) e = y) ∧ sx_GG (sx_gu γ (sx_th γ (j : Int) y w) a.2.2.1) (if true = true then sx_au A 120 j y else A) := ⟨([], [], [(18462, (0, [])), (18463, (0, [])), (18464, (0, [])), (18465, ((-1), [])), (18466, (0, [])), (18467, (0, [])), (18468, (0, [])), (18469, ((-1), [])), (18470, ((-1), [])), (18471, ((-1), [])), (18472, (0, [])), (18473, (0, [])), (18498, (0, [])), (18487, (2, []))], []), List.Mem.head _, (fun _ => 0), fun i p hi => (by
    match i, hi with
    | n + 0, hi => simp at hi), fun f hf => (by cases hf), fun e he => (by cases he), ⟨hG.1, hG.2.1, hG.2.2.1, hG.2.2.2.1, hG.2.2.2.2.1, hG.2.2.2.2.2.1, hG.2.2.2.2.2.2.1, hG.2.2.2.2.2.2.2.1, hG.2.2.2.2.2.2.2.2.1, hG.2.2.2.2.2.2.2.2.2.1, hG.2.2.2.2.2.2.2.2.2.2.1, c11, c12, c13, c14, c15⟩⟩
theorem sx_q_s_rtA_0 {γ : Nat → Int} {A : Nat → Nat → Int} {j : Nat} {y : Int} (hG : sx_GG γ A) (c11 : sx_x1 (γ 18461) (A 117) (A 119) (A 120) (sx_au A 121 j y 121) (A 115) (A 116) (A 113) (A 114) (A 111)) (c12 : sx_x2 (γ 18461) (0 + 0) (0 + 0) (0 + 0) ((-1) + 0) (0 + 0) (0 + 0) (0 + 0) ((-1) + 0) ((-1) + 0) ((-1) + 0) (0 + 0) (0 + 0) (A 117) (A 119) (A 120) (sx_au A 121 j y 121) (A 116) (A 114) (A 111)) (c13 : sx_x3 (γ 18474) (γ 18475) (γ 18476) (0 + 0) (γ 18478) (1 + (1 * γ 18479 + 0)) (γ 18480) (γ 18481) (γ 18482) (γ 18483) (γ 18484) (A 117) (A 119) (A 120) (sx_au A 121 j y 121) (A 115) (A 116) (A 113) (A 114)) (c14 : sx_x4 (γ 18461) (γ 18485) (γ 18486) (γ 18487) (γ 18488) (γ 18489) (A 117) (A 119) (A 120) (sx_au A 121 j y 121) (A 115) (A 116) (A 113) (A 114)) (c15 : sx_x5 (0 + 0) (γ 18499) (γ 18500) (A 117) (A 119) (A 120) (sx_au A 121 j y 121) (A 115) (A 116) (A 113) (A 114)) : ∃ a ∈ sx_r_s_rtA.2, ∃ w : Nat → Int, (∀ (i : Nat) p, a.1[i]? = some p → p.2.1 ≤ w i ∧ w i ≤ p.2.2) ∧ (∀ f ∈ a.2.1, 0 ≤ sx_d (sx_th γ (j : Int) y w) f) ∧ (∀ e, a.2.2.2.head? = some e → sx_d (sx_th γ (j : Int) y w) e = y) ∧ sx_GG (sx_gu γ (sx_th γ (j : Int) y w) a.2.2.1) (if true = true then sx_au A 121 j y else A) := ⟨([], [], [(18462, (0, [])), (18463, (0, [])), (18464, (0, [])), (18465, ((-1), [])), (18466, (0, [])), (18467, (0, [])), (18468, (0, [])), (18469, ((-1), [])), (18470, ((-1), [])), (18471, ((-1), [])), (18472, (0, [])), (18473, (0, [])), (18498, (0, [])), (18477, (0, [])), (18479, (1, [(18479, 1)]))], []), List.Mem.head _, (fun _ => 0), fun i p hi => (by
    match i, hi with
    | n + 0, hi => simp at hi), fun f hf => (by cases hf), fun e he => (by cases he), ⟨hG.1, hG.2.1, hG.2.2.1, hG.2.2.2.1, hG.2.2.2.2.1, hG.2.2.2.2.2.1, hG.2.2.2.2.2.2.1, hG.2.2.2.2.2.2.2.1, hG.2.2.2.2.2.2.2.2.1, hG.2.2.2.2.2.2.2.2.2.1, hG.2.2.2.2.2.2.2.2.2.2.1, c11, c12, c13, c14, c15⟩⟩
theorem sx_q_s_rtC_0 {γ : Nat → Int} {A : Nat → Nat → Int} {j : Nat} {y : Int} (hG : sx_GG γ A) (c11 : sx_x1 (γ 18461) (A 117) (A 119) (A 120) (sx_au A 121 j y 121) (A 115) (A 116) (A 113) (A 114) (A 111)) (c12 : sx_x2 (γ 18461) (0 + 0) (0 + 0) (0 + 0) ((-1) + 0) (0 + 0) (0 + 0) (0 + 0) ((-1) + 0) ((-1) + 0) ((-1) + 0) (0 + 0) (0 + 0) (A 117) (A 119) (A 120) (sx_au A 121 j y 121) (A 116) (A 114) (A 111)) (c13 : sx_x3 (γ 18474) (γ 18475) (γ 18476) (γ 18477) (γ 18478) (γ 18479) (γ 18480) (γ 18481) (γ 18482) (γ 18483) (γ 18484) (A 117) (A 119) (A 120) (sx_au A 121 j y 121) (A 115) (A 116) (A 113) (A 114)) (c14 : sx_x4 (γ 18461) (γ 18485) (1 + (1 * γ 18486 + 0)) (0 + 0) (γ 18488) (γ 18489) (A 117) (A 119) (A 120) (sx_au A 121 j y 121) (A 115) (A 116) (A 113) (A 114)) (c15 : sx_x5 (0 + 0) (γ 18499) (γ 18500) (A 117) (A 119) (A 120) (sx_au A 121 j y 121) (A 115) (A 116) (A 113) (A 114)) : ∃ a ∈ sx_r_s_rtC.2, ∃ w : Nat → Int, (∀ (i : Nat) p, a.1[i]? = some p → p.2.1 ≤ w i ∧ w i ≤ p.2.2) ∧ (∀ f ∈ a.2.1, 0 ≤ sx_d (sx_th γ (j : Int) y w) f) ∧ (∀ e, a.2.2.2.head? = some e → sx_d (sx_th γ (j : Int) y w) e = y) ∧ sx_GG (sx_gu γ (sx_th γ (j : Int) y w) a.2.2.1) (if true = true then sx_au A 121 j y else A) := ⟨([], [], [(18462, (0, [])), (18463, (0, [])), (18464, (0, [])), (18465, ((-1), [])), (18466, (0, [])), (18467, (0, [])), (18468, (0, [])), (18469, ((-1), [])), (18470, ((-1), [])), (18471, ((-1), [])), (18472, (0, [])), (18473, (0, [])), (18498, (0, [])), (18487, (0, [])), (18486, (1, [(18486, 1)]))], []), List.Mem.head _, (fun _ => 0), fun i p hi => (by
    match i, hi with
    | n + 0, hi => simp at hi), fun f hf => (by cases hf), fun e he => (by cases he), ⟨hG.1, hG.2.1, hG.2.2.1, hG.2.2.2.1, hG.2.2.2.2.1, hG.2.2.2.2.2.1, hG.2.2.2.2.2.2.1, hG.2.2.2.2.2.2.2.1, hG.2.2.2.2.2.2.2.2.1, hG.2.2.2.2.2.2.2.2.2.1, hG.2.2.2.2.2.2.2.2.2.2.1, c11, c12, c13, c14, c15⟩⟩
theorem sx_q_s_zS0a_0 {γ : Nat → Int} {A : Nat → Nat → Int} {j : Nat} {y : Int} (hG : sx_GG γ A) (c4 : sx_g3 (0 + 0) (γ 18447) (γ 18448) (γ 18449) (γ 18450) (γ 18451) (γ 18452) (sx_au A 123 j y 123)) : ∃ a ∈ sx_r_s_zS0a.2, ∃ w : Nat → Int, (∀ (i : Nat) p, a.1[i]? = some p → p.2.1 ≤ w i ∧ w i ≤ p.2.2) ∧ (∀ f ∈ a.2.1, 0 ≤ sx_d (sx_th γ (j : Int) y w) f) ∧ (∀ e, a.2.2.2.head? = some e → sx_d (sx_th γ (j : Int) y w) e = y) ∧ sx_GG (sx_gu γ (sx_th γ (j : Int) y w) a.2.2.1) (if true = true then sx_au A 123 j y else A) := ⟨([], [], [(18446, (0, []))], []), List.Mem.head _, (fun _ => 0), fun i p hi => (by
    match i, hi with
    | n + 0, hi => simp at hi), fun f hf => (by cases hf), fun e he => (by cases he), ⟨hG.1, hG.2.1, hG.2.2.1, hG.2.2.2.1, c4, hG.2.2.2.2.2.1, hG.2.2.2.2.2.2.1, hG.2.2.2.2.2.2.2.1, hG.2.2.2.2.2.2.2.2.1, hG.2.2.2.2.2.2.2.2.2.1, hG.2.2.2.2.2.2.2.2.2.2.1, hG.2.2.2.2.2.2.2.2.2.2.2.1, hG.2.2.2.2.2.2.2.2.2.2.2.2.1, hG.2.2.2.2.2.2.2.2.2.2.2.2.2.1, hG.2.2.2.2.2.2.2.2.2.2.2.2.2.2.1, hG.2.2.2.2.2.2.2.2.2.2.2.2.2.2.2⟩⟩
theorem sx_q_s_zS0b_0 {γ : Nat → Int} {A : Nat → Nat → Int} {j : Nat} {y : Int} (hG : sx_GG γ A) (c4 : sx_g3 (1 + 0) (γ 18447) (γ 18448) (γ 18449) (γ 18450) (γ 18451) (γ 18452) (sx_au A 123 j y 123)) : ∃ a ∈ sx_r_s_zS0b.2, ∃ w : Nat → Int, (∀ (i : Nat) p, a.1[i]? = some p → p.2.1 ≤ w i ∧ w i ≤ p.2.2) ∧ (∀ f ∈ a.2.1, 0 ≤ sx_d (sx_th γ (j : Int) y w) f) ∧ (∀ e, a.2.2.2.head? = some e → sx_d (sx_th γ (j : Int) y w) e = y) ∧ sx_GG (sx_gu γ (sx_th γ (j : Int) y w) a.2.2.1) (if true = true then sx_au A 123 j y else A) := ⟨([], [], [(18446, (1, []))], []), List.Mem.head _, (fun _ => 0), fun i p hi => (by
    match i, hi with
    | n + 0, hi => simp at hi), fun f hf => (by cases hf), fun e he => (by cases he), ⟨hG.1, hG.2.1, hG.2.2.1, hG.2.2.2.1, c4, hG.2.2.2.2.2.1, hG.2.2.2.2.2.2.1, hG.2.2.2.2.2.2.2.1, hG.2.2.2.2.2.2.2.2.1, hG.2.2.2.2.2.2.2.2.2.1, hG.2.2.2.2.2.2.2.2.2.2.1, hG.2.2.2.2.2.2.2.2.2.2.2.1, hG.2.2.2.2.2.2.2.2.2.2.2.2.1, hG.2.2.2.2.2.2.2.2.2.2.2.2.2.1, hG.2.2.2.2.2.2.2.2.2.2.2.2.2.2.1, hG.2.2.2.2.2.2.2.2.2.2.2.2.2.2.2⟩⟩
theorem sx_q_s_zS1a_0 {γ : Nat → Int} {A : Nat → Nat → Int} {j : Nat} {y : Int} (hG : sx_GG γ A) (c4 : sx_g3 (γ 18446) (0 + 0) (γ 18448) (γ 18449) (γ 18450) (γ 18451) (γ 18452) (sx_au A 123 j y 123)) : ∃ a ∈ sx_r_s_zS1a.2, ∃ w : Nat → Int, (∀ (i : Nat) p, a.1[i]? = some p → p.2.1 ≤ w i ∧ w i ≤ p.2.2) ∧ (∀ f ∈ a.2.1, 0 ≤ sx_d (sx_th γ (j : Int) y w) f) ∧ (∀ e, a.2.2.2.head? = some e → sx_d (sx_th γ (j : Int) y w) e = y) ∧ sx_GG (sx_gu γ (sx_th γ (j : Int) y w) a.2.2.1) (if true = true then sx_au A 123 j y else A) := ⟨([], [], [(18447, (0, []))], []), List.Mem.head _, (fun _ => 0), fun i p hi => (by
    match i, hi with
    | n + 0, hi => simp at hi), fun f hf => (by cases hf), fun e he => (by cases he), ⟨hG.1, hG.2.1, hG.2.2.1, hG.2.2.2.1, c4, hG.2.2.2.2.2.1, hG.2.2.2.2.2.2.1, hG.2.2.2.2.2.2.2.1, hG.2.2.2.2.2.2.2.2.1, hG.2.2.2.2.2.2.2.2.2.1, hG.2.2.2.2.2.2.2.2.2.2.1, hG.2.2.2.2.2.2.2.2.2.2.2.1, hG.2.2.2.2.2.2.2.2.2.2.2.2.1, hG.2.2.2.2.2.2.2.2.2.2.2.2.2.1, hG.2.2.2.2.2.2.2.2.2.2.2.2.2.2.1, hG.2.2.2.2.2.2.2.2.2.2.2.2.2.2.2⟩⟩
theorem sx_q_s_zS1b_0 {γ : Nat → Int} {A : Nat → Nat → Int} {j : Nat} {y : Int} (hG : sx_GG γ A) (c4 : sx_g3 (γ 18446) (1 + 0) (γ 18448) (γ 18449) (γ 18450) (γ 18451) (γ 18452) (sx_au A 123 j y 123)) : ∃ a ∈ sx_r_s_zS1b.2, ∃ w : Nat → Int, (∀ (i : Nat) p, a.1[i]? = some p → p.2.1 ≤ w i ∧ w i ≤ p.2.2) ∧ (∀ f ∈ a.2.1, 0 ≤ sx_d (sx_th γ (j : Int) y w) f) ∧ (∀ e, a.2.2.2.head? = some e → sx_d (sx_th γ (j : Int) y w) e = y) ∧ sx_GG (sx_gu γ (sx_th γ (j : Int) y w) a.2.2.1) (if true = true then sx_au A 123 j y else A) := ⟨([], [], [(18447, (1, []))], []), List.Mem.head _, (fun _ => 0), fun i p hi => (by
    match i, hi with
    | n + 0, hi => simp at hi), fun f hf => (by cases hf), fun e he => (by cases he), ⟨hG.1, hG.2.1, hG.2.2.1, hG.2.2.2.1, c4, hG.2.2.2.2.2.1, hG.2.2.2.2.2.2.1, hG.2.2.2.2.2.2.2.1, hG.2.2.2.2.2.2.2.2.1, hG.2.2.2.2.2.2.2.2.2.1, hG.2.2.2.2.2.2.2.2.2.2.1, hG.2.2.2.2.2.2.2.2.2.2.2.1, hG.2.2.2.2.2.2.2.2.2.2.2.2.1, hG.2.2.2.2.2.2.2.2.2.2.2.2.2.1, hG.2.2.2.2.2.2.2.2.2.2.2.2.2.2.1, hG.2.2.2.2.2.2.2.2.2.2.2.2.2.2.2⟩⟩
theorem sx_q_s_zS2a_0 {γ : Nat → Int} {A : Nat → Nat → Int} {j : Nat} {y : Int} (hG : sx_GG γ A) (c4 : sx_g3 (γ 18446) (γ 18447) (0 + 0) (γ 18449) (γ 18450) (γ 18451) (γ 18452) (sx_au A 123 j y 123)) : ∃ a ∈ sx_r_s_zS2a.2, ∃ w : Nat → Int, (∀ (i : Nat) p, a.1[i]? = some p → p.2.1 ≤ w i ∧ w i ≤ p.2.2) ∧ (∀ f ∈ a.2.1, 0 ≤ sx_d (sx_th γ (j : Int) y w) f) ∧ (∀ e, a.2.2.2.head? = some e → sx_d (sx_th γ (j : Int) y w) e = y) ∧ sx_GG (sx_gu γ (sx_th γ (j : Int) y w) a.2.2.1) (if true = true then sx_au A 123 j y else A) := ⟨([], [], [(18448, (0, []))], []), List.Mem.head _, (fun _ => 0), fun i p hi => (by
    match i, hi with
    | n + 0, hi => simp at hi), fun f hf => (by cases hf), fun e he => (by cases he), ⟨hG.1, hG.2.1, hG.2.2.1, hG.2.2.2.1, c4, hG.2.2.2.2.2.1, hG.2.2.2.2.2.2.1, hG.2.2.2.2.2.2.2.1, hG.2.2.2.2.2.2.2.2.1, hG.2.2.2.2.2.2.2.2.2.1, hG.2.2.2.2.2.2.2.2.2.2.1, hG.2.2.2.2.2.2.2.2.2.2.2.1, hG.2.2.2.2.2.2.2.2.2.2.2.2.1, hG.2.2.2.2.2.2.2.2.2.2.2.2.2.1, hG.2.2.2.2.2.2.2.2.2.2.2.2.2.2.1, hG.2.2.2.2.2.2.2.2.2.2.2.2.2.2.2⟩⟩
theorem sx_q_s_zS2b_0 {γ : Nat → Int} {A : Nat → Nat → Int} {j : Nat} {y : Int} (hG : sx_GG γ A) (c4 : sx_g3 (γ 18446) (γ 18447) (1 + 0) (γ 18449) (γ 18450) (γ 18451) (γ 18452) (sx_au A 123 j y 123)) : ∃ a ∈ sx_r_s_zS2b.2, ∃ w : Nat → Int, (∀ (i : Nat) p, a.1[i]? = some p → p.2.1 ≤ w i ∧ w i ≤ p.2.2) ∧ (∀ f ∈ a.2.1, 0 ≤ sx_d (sx_th γ (j : Int) y w) f) ∧ (∀ e, a.2.2.2.head? = some e → sx_d (sx_th γ (j : Int) y w) e = y) ∧ sx_GG (sx_gu γ (sx_th γ (j : Int) y w) a.2.2.1) (if true = true then sx_au A 123 j y else A) := ⟨([], [], [(18448, (1, []))], []), List.Mem.head _, (fun _ => 0), fun i p hi => (by
    match i, hi with
    | n + 0, hi => simp at hi), fun f hf => (by cases hf), fun e he => (by cases he), ⟨hG.1, hG.2.1, hG.2.2.1, hG.2.2.2.1, c4, hG.2.2.2.2.2.1, hG.2.2.2.2.2.2.1, hG.2.2.2.2.2.2.2.1, hG.2.2.2.2.2.2.2.2.1, hG.2.2.2.2.2.2.2.2.2.1, hG.2.2.2.2.2.2.2.2.2.2.1, hG.2.2.2.2.2.2.2.2.2.2.2.1, hG.2.2.2.2.2.2.2.2.2.2.2.2.1, hG.2.2.2.2.2.2.2.2.2.2.2.2.2.1, hG.2.2.2.2.2.2.2.2.2.2.2.2.2.2.1, hG.2.2.2.2.2.2.2.2.2.2.2.2.2.2.2⟩⟩
theorem sx_q_s_zS3a_0 {γ : Nat → Int} {A : Nat → Nat → Int} {j : Nat} {y : Int} (hG : sx_GG γ A) (c4 : sx_g3 (γ 18446) (γ 18447) (γ 18448) (0 + 0) (γ 18450) (γ 18451) (γ 18452) (sx_au A 123 j y 123)) : ∃ a ∈ sx_r_s_zS3a.2, ∃ w : Nat → Int, (∀ (i : Nat) p, a.1[i]? = some p → p.2.1 ≤ w i ∧ w i ≤ p.2.2) ∧ (∀ f ∈ a.2.1, 0 ≤ sx_d (sx_th γ (j : Int) y w) f) ∧ (∀ e, a.2.2.2.head? = some e → sx_d (sx_th γ (j : Int) y w) e = y) ∧ sx_GG (sx_gu γ (sx_th γ (j : Int) y w) a.2.2.1) (if true = true then sx_au A 123 j y else A) := ⟨([], [], [(18449, (0, []))], []), List.Mem.head _, (fun _ => 0), fun i p hi => (by
    match i, hi with
    | n + 0, hi => simp at hi), fun f hf => (by cases hf), fun e he => (by cases he), ⟨hG.1, hG.2.1, hG.2.2.1, hG.2.2.2.1, c4, hG.2.2.2.2.2.1, hG.2.2.2.2.2.2.1, hG.2.2.2.2.2.2.2.1, hG.2.2.2.2.2.2.2.2.1, hG.2.2.2.2.2.2.2.2.2.1, hG.2.2.2.2.2.2.2.2.2.2.1, hG.2.2.2.2.2.2.2.2.2.2.2.1, hG.2.2.2.2.2.2.2.2.2.2.2.2.1, hG.2.2.2.2.2.2.2.2.2.2.2.2.2.1, hG.2.2.2.2.2.2.2.2.2.2.2.2.2.2.1, hG.2.2.2.2.2.2.2.2.2.2.2.2.2.2.2⟩⟩
theorem sx_q_s_zS3b_0 {γ : Nat → Int} {A : Nat → Nat → Int} {j : Nat} {y : Int} (hG : sx_GG γ A) (c4 : sx_g3 (γ 18446) (γ 18447) (γ 18448) (1 + 0) (γ 18450) (γ 18451) (γ 18452) (sx_au A 123 j y 123)) : ∃ a ∈ sx_r_s_zS3b.2, ∃ w : Nat → Int, (∀ (i : Nat) p, a.1[i]? = some p → p.2.1 ≤ w i ∧ w i ≤ p.2.2) ∧ (∀ f ∈ a.2.1, 0 ≤ sx_d (sx_th γ (j : Int) y w) f) ∧ (∀ e, a.2.2.2.head? = some e → sx_d (sx_th γ (j : Int) y w) e = y) ∧ sx_GG (sx_gu γ (sx_th γ (j : Int) y w) a.2.2.1) (if true = true then sx_au A 123 j y else A) := ⟨([], [], [(18449, (1, []))], []), List.Mem.head _, (fun _ => 0), fun i p hi => (by
    match i, hi with
    | n + 0, hi => simp at hi), fun f hf => (by cases hf), fun e he => (by cases he), ⟨hG.1, hG.2.1, hG.2.2.1, hG.2.2.2.1, c4, hG.2.2.2.2.2.1, hG.2.2.2.2.2.2.1, hG.2.2.2.2.2.2.2.1, hG.2.2.2.2.2.2.2.2.1, hG.2.2.2.2.2.2.2.2.2.1, hG.2.2.2.2.2.2.2.2.2.2.1, hG.2.2.2.2.2.2.2.2.2.2.2.1, hG.2.2.2.2.2.2.2.2.2.2.2.2.1, hG.2.2.2.2.2.2.2.2.2.2.2.2.2.1, hG.2.2.2.2.2.2.2.2.2.2.2.2.2.2.1, hG.2.2.2.2.2.2.2.2.2.2.2.2.2.2.2⟩⟩
theorem sx_q_s_zS4a_0 {γ : Nat → Int} {A : Nat → Nat → Int} {j : Nat} {y : Int} (hG : sx_GG γ A) (c4 : sx_g3 (γ 18446) (γ 18447) (γ 18448) (γ 18449) (0 + 0) (γ 18451) (γ 18452) (sx_au A 123 j y 123)) : ∃ a ∈ sx_r_s_zS4a.2, ∃ w : Nat → Int, (∀ (i : Nat) p, a.1[i]? = some p → p.2.1 ≤ w i ∧ w i ≤ p.2.2) ∧ (∀ f ∈ a.2.1, 0 ≤ sx_d (sx_th γ (j : Int) y w) f) ∧ (∀ e, a.2.2.2.head? = some e → sx_d (sx_th γ (j : Int) y w) e = y) ∧ sx_GG (sx_gu γ (sx_th γ (j : Int) y w) a.2.2.1) (if true = true then sx_au A 123 j y else A) := ⟨([], [], [(18450, (0, []))], []), List.Mem.head _, (fun _ => 0), fun i p hi => (by
    match i, hi with
    | n + 0, hi => simp at hi), fun f hf => (by cases hf), fun e he => (by cases he), ⟨hG.1, hG.2.1, hG.2.2.1, hG.2.2.2.1, c4, hG.2.2.2.2.2.1, hG.2.2.2.2.2.2.1, hG.2.2.2.2.2.2.2.1, hG.2.2.2.2.2.2.2.2.1, hG.2.2.2.2.2.2.2.2.2.1, hG.2.2.2.2.2.2.2.2.2.2.1, hG.2.2.2.2.2.2.2.2.2.2.2.1, hG.2.2.2.2.2.2.2.2.2.2.2.2.1, hG.2.2.2.2.2.2.2.2.2.2.2.2.2.1, hG.2.2.2.2.2.2.2.2.2.2.2.2.2.2.1, hG.2.2.2.2.2.2.2.2.2.2.2.2.2.2.2⟩⟩
theorem sx_q_s_zS4b_0 {γ : Nat → Int} {A : Nat → Nat → Int} {j : Nat} {y : Int} (hG : sx_GG γ A) (c4 : sx_g3 (γ 18446) (γ 18447) (γ 18448) (γ 18449) (1 + 0) (γ 18451) (γ 18452) (sx_au A 123 j y 123)) : ∃ a ∈ sx_r_s_zS4b.2, ∃ w : Nat → Int, (∀ (i : Nat) p, a.1[i]? = some p → p.2.1 ≤ w i ∧ w i ≤ p.2.2) ∧ (∀ f ∈ a.2.1, 0 ≤ sx_d (sx_th γ (j : Int) y w) f) ∧ (∀ e, a.2.2.2.head? = some e → sx_d (sx_th γ (j : Int) y w) e = y) ∧ sx_GG (sx_gu γ (sx_th γ (j : Int) y w) a.2.2.1) (if true = true then sx_au A 123 j y else A) := ⟨([], [], [(18450, (1, []))], []), List.Mem.head _, (fun _ => 0), fun i p hi => (by
    match i, hi with
    | n + 0, hi => simp at hi), fun f hf => (by cases hf), fun e he => (by cases he), ⟨hG.1, hG.2.1, hG.2.2.1, hG.2.2.2.1, c4, hG.2.2.2.2.2.1, hG.2.2.2.2.2.2.1, hG.2.2.2.2.2.2.2.1, hG.2.2.2.2.2.2.2.2.1, hG.2.2.2.2.2.2.2.2.2.1, hG.2.2.2.2.2.2.2.2.2.2.1, hG.2.2.2.2.2.2.2.2.2.2.2.1, hG.2.2.2.2.2.2.2.2.2.2.2.2.1, hG.2.2.2.2.2.2.2.2.2.2.2.2.2.1, hG.2.2.2.2.2.2.2.2.2.2.2.2.2.2.1, hG.2.2.2.2.2.2.2.2.2.2.2.2.2.2.2⟩⟩
theorem sx_q_s_zS5a_0 {γ : Nat → Int} {A : Nat → Nat → Int} {j : Nat} {y : Int} (hG : sx_GG γ A) (c4 : sx_g3 (γ 18446) (γ 18447) (γ 18448) (γ 18449) (γ 18450) (0 + 0) (γ 18452) (sx_au A 123 j y 123)) : ∃ a ∈ sx_r_s_zS5a.2, ∃ w : Nat → Int, (∀ (i : Nat) p, a.1[i]? = some p → p.2.1 ≤ w i ∧ w i ≤ p.2.2) ∧ (∀ f ∈ a.2.1, 0 ≤ sx_d (sx_th γ (j : Int) y w) f) ∧ (∀ e, a.2.2.2.head? = some e → sx_d (sx_th γ (j : Int) y w) e = y) ∧ sx_GG (sx_gu γ (sx_th γ (j : Int) y w) a.2.2.1) (if true = true then sx_au A 123 j y else A) := ⟨([], [], [(18451, (0, []))], []), List.Mem.head _, (fun _ => 0), fun i p hi => (by
    match i, hi with
    | n + 0, hi => simp at hi), fun f hf => (by cases hf), fun e he => (by cases he), ⟨hG.1, hG.2.1, hG.2.2.1, hG.2.2.2.1, c4, hG.2.2.2.2.2.1, hG.2.2.2.2.2.2.1, hG.2.2.2.2.2.2.2.1, hG.2.2.2.2.2.2.2.2.1, hG.2.2.2.2.2.2.2.2.2.1, hG.2.2.2.2.2.2.2.2.2.2.1, hG.2.2.2.2.2.2.2.2.2.2.2.1, hG.2.2.2.2.2.2.2.2.2.2.2.2.1, hG.2.2.2.2.2.2.2.2.2.2.2.2.2.1, hG.2.2.2.2.2.2.2.2.2.2.2.2.2.2.1, hG.2.2.2.2.2.2.2.2.2.2.2.2.2.2.2⟩⟩
theorem sx_q_s_zS5b_0 {γ : Nat → Int} {A : Nat → Nat → Int} {j : Nat} {y : Int} (hG : sx_GG γ A) (c4 : sx_g3 (γ 18446) (γ 18447) (γ 18448) (γ 18449) (γ 18450) (1 + 0) (γ 18452) (sx_au A 123 j y 123)) : ∃ a ∈ sx_r_s_zS5b.2, ∃ w : Nat → Int, (∀ (i : Nat) p, a.1[i]? = some p → p.2.1 ≤ w i ∧ w i ≤ p.2.2) ∧ (∀ f ∈ a.2.1, 0 ≤ sx_d (sx_th γ (j : Int) y w) f) ∧ (∀ e, a.2.2.2.head? = some e → sx_d (sx_th γ (j : Int) y w) e = y) ∧ sx_GG (sx_gu γ (sx_th γ (j : Int) y w) a.2.2.1) (if true = true then sx_au A 123 j y else A) := ⟨([], [], [(18451, (1, []))], []), List.Mem.head _, (fun _ => 0), fun i p hi => (by
    match i, hi with
    | n + 0, hi => simp at hi), fun f hf => (by cases hf), fun e he => (by cases he), ⟨hG.1, hG.2.1, hG.2.2.1, hG.2.2.2.1, c4, hG.2.2.2.2.2.1, hG.2.2.2.2.2.2.1, hG.2.2.2.2.2.2.2.1, hG.2.2.2.2.2.2.2.2.1, hG.2.2.2.2.2.2.2.2.2.1, hG.2.2.2.2.2.2.2.2.2.2.1, hG.2.2.2.2.2.2.2.2.2.2.2.1, hG.2.2.2.2.2.2.2.2.2.2.2.2.1, hG.2.2.2.2.2.2.2.2.2.2.2.2.2.1, hG.2.2.2.2.2.2.2.2.2.2.2.2.2.2.1, hG.2.2.2.2.2.2.2.2.2.2.2.2.2.2.2⟩⟩
theorem sx_q_s_zS6a_0 {γ : Nat → Int} {A : Nat → Nat → Int} {j : Nat} {y : Int} (hG : sx_GG γ A) (c4 : sx_g3 (γ 18446) (γ 18447) (γ 18448) (γ 18449) (γ 18450) (γ 18451) (0 + 0) (sx_au A 123 j y 123)) : ∃ a ∈ sx_r_s_zS6a.2, ∃ w : Nat → Int, (∀ (i : Nat) p, a.1[i]? = some p → p.2.1 ≤ w i ∧ w i ≤ p.2.2) ∧ (∀ f ∈ a.2.1, 0 ≤ sx_d (sx_th γ (j : Int) y w) f) ∧ (∀ e, a.2.2.2.head? = some e → sx_d (sx_th γ (j : Int) y w) e = y) ∧ sx_GG (sx_gu γ (sx_th γ (j : Int) y w) a.2.2.1) (if true = true then sx_au A 123 j y else A) := ⟨([], [], [(18452, (0, []))], []), List.Mem.head _, (fun _ => 0), fun i p hi => (by
    match i, hi with
    | n + 0, hi => simp at hi), fun f hf => (by cases hf), fun e he => (by cases he), ⟨hG.1, hG.2.1, hG.2.2.1, hG.2.2.2.1, c4, hG.2.2.2.2.2.1, hG.2.2.2.2.2.2.1, hG.2.2.2.2.2.2.2.1, hG.2.2.2.2.2.2.2.2.1, hG.2.2.2.2.2.2.2.2.2.1, hG.2.2.2.2.2.2.2.2.2.2.1, hG.2.2.2.2.2.2.2.2.2.2.2.1, hG.2.2.2.2.2.2.2.2.2.2.2.2.1, hG.2.2.2.2.2.2.2.2.2.2.2.2.2.1, hG.2.2.2.2.2.2.2.2.2.2.2.2.2.2.1, hG.2.2.2.2.2.2.2.2.2.2.2.2.2.2.2⟩⟩
theorem sx_q_s_zS6b_0 {γ : Nat → Int} {A : Nat → Nat → Int} {j : Nat} {y : Int} (hG : sx_GG γ A) (c4 : sx_g3 (γ 18446) (γ 18447) (γ 18448) (γ 18449) (γ 18450) (γ 18451) (1 + 0) (sx_au A 123 j y 123)) : ∃ a ∈ sx_r_s_zS6b.2, ∃ w : Nat → Int, (∀ (i : Nat) p, a.1[i]? = some p → p.2.1 ≤ w i ∧ w i ≤ p.2.2) ∧ (∀ f ∈ a.2.1, 0 ≤ sx_d (sx_th γ (j : Int) y w) f) ∧ (∀ e, a.2.2.2.head? = some e → sx_d (sx_th γ (j : Int) y w) e = y) ∧ sx_GG (sx_gu γ (sx_th γ (j : Int) y w) a.2.2.1) (if true = true then sx_au A 123 j y else A) := ⟨([], [], [(18452, (1, []))], []), List.Mem.head _, (fun _ => 0), fun i p hi => (by
    match i, hi with
    | n + 0, hi => simp at hi), fun f hf => (by cases hf), fun e he => (by cases he), ⟨hG.1, hG.2.1, hG.2.2.1, hG.2.2.2.1, c4, hG.2.2.2.2.2.1, hG.2.2.2.2.2.2.1, hG.2.2.2.2.2.2.2.1, hG.2.2.2.2.2.2.2.2.1, hG.2.2.2.2.2.2.2.2.2.1, hG.2.2.2.2.2.2.2.2.2.2.1, hG.2.2.2.2.2.2.2.2.2.2.2.1, hG.2.2.2.2.2.2.2.2.2.2.2.2.1, hG.2.2.2.2.2.2.2.2.2.2.2.2.2.1, hG.2.2.2.2.2.2.2.2.2.2.2.2.2.2.1, hG.2.2.2.2.2.2.2.2.2.2.2.2.2.2.2⟩⟩
theorem sx_q_s_zI0a_0 {γ : Nat → Int} {A : Nat → Nat → Int} {j : Nat} {y : Int} (hG : sx_GG γ A) (c3 : sx_g3 (0 + 0) (γ 18440) (γ 18441) (γ 18442) (γ 18443) (γ 18444) (γ 18445) (sx_au A 124 j y 124)) : ∃ a ∈ sx_r_s_zI0a.2, ∃ w : Nat → Int, (∀ (i : Nat) p, a.1[i]? = some p → p.2.1 ≤ w i ∧ w i ≤ p.2.2) ∧ (∀ f ∈ a.2.1, 0 ≤ sx_d (sx_th γ (j : Int) y w) f) ∧ (∀ e, a.2.2.2.head? = some e → sx_d (sx_th γ (j : Int) y w) e = y) ∧ sx_GG (sx_gu γ (sx_th γ (j : Int) y w) a.2.2.1) (if true = true then sx_au A 124 j y else A) := ⟨([], [], [(18439, (0, []))], []), List.Mem.head _, (fun _ => 0), fun i p hi => (by
    match i, hi with
    | n + 0, hi => simp at hi), fun f hf => (by cases hf), fun e he => (by cases he), ⟨hG.1, hG.2.1, hG.2.2.1, c3, hG.2.2.2.2.1, hG.2.2.2.2.2.1, hG.2.2.2.2.2.2.1, hG.2.2.2.2.2.2.2.1, hG.2.2.2.2.2.2.2.2.1, hG.2.2.2.2.2.2.2.2.2.1, hG.2.2.2.2.2.2.2.2.2.2.1, hG.2.2.2.2.2.2.2.2.2.2.2.1, hG.2.2.2.2.2.2.2.2.2.2.2.2.1, hG.2.2.2.2.2.2.2.2.2.2.2.2.2.1, hG.2.2.2.2.2.2.2.2.2.2.2.2.2.2.1, hG.2.2.2.2.2.2.2.2.2.2.2.2.2.2.2⟩⟩
theorem sx_q_s_zI0b_0 {γ : Nat → Int} {A : Nat → Nat → Int} {j : Nat} {y : Int} (hG : sx_GG γ A) (c3 : sx_g3 (1 + 0) (γ 18440) (γ 18441) (γ 18442) (γ 18443) (γ 18444) (γ 18445) (sx_au A 124 j y 124)) : ∃ a ∈ sx_r_s_zI0b.2, ∃ w : Nat → Int, (∀ (i : Nat) p, a.1[i]? = some p → p.2.1 ≤ w i ∧ w i ≤ p.2.2) ∧ (∀ f ∈ a.2.1, 0 ≤ sx_d (sx_th γ (j : Int) y w) f) ∧ (∀ e, a.2.2.2.head? = some e → sx_d (sx_th γ (j : Int) y w) e = y) ∧ sx_GG (sx_gu γ (sx_th γ (j : Int) y w) a.2.2.1) (if true = true then sx_au A 124 j y else A) := ⟨([], [], [(18439, (1, []))], []), List.Mem.head _, (fun _ => 0), fun i p hi => (by
    match i, hi with
    | n + 0, hi => simp at hi), fun f hf => (by cases hf), fun e he => (by cases he), ⟨hG.1, hG.2.1, hG.2.2.1, c3, hG.2.2.2.2.1, hG.2.2.2.2.2.1, hG.2.2.2.2.2.2.1, hG.2.2.2.2.2.2.2.1, hG.2.2.2.2.2.2.2.2.1, hG.2.2.2.2.2.2.2.2.2.1, hG.2.2.2.2.2.2.2.2.2.2.1, hG.2.2.2.2.2.2.2.2.2.2.2.1, hG.2.2.2.2.2.2.2.2.2.2.2.2.1, hG.2.2.2.2.2.2.2.2.2.2.2.2.2.1, hG.2.2.2.2.2.2.2.2.2.2.2.2.2.2.1, hG.2.2.2.2.2.2.2.2.2.2.2.2.2.2.2⟩⟩
theorem sx_q_s_zI1a_0 {γ : Nat → Int} {A : Nat → Nat → Int} {j : Nat} {y : Int} (hG : sx_GG γ A) (c3 : sx_g3 (γ 18439) (0 + 0) (γ 18441) (γ 18442) (γ 18443) (γ 18444) (γ 18445) (sx_au A 124 j y 124)) : ∃ a ∈ sx_r_s_zI1a.2, ∃ w : Nat → Int, (∀ (i : Nat) p, a.1[i]? = some p → p.2.1 ≤ w i ∧ w i ≤ p.2.2) ∧ (∀ f ∈ a.2.1, 0 ≤ sx_d (sx_th γ (j : Int) y w) f) ∧ (∀ e, a.2.2.2.head? = some e → sx_d (sx_th γ (j : Int) y w) e = y) ∧ sx_GG (sx_gu γ (sx_th γ (j : Int) y w) a.2.2.1) (if true = true then sx_au A 124 j y else A) := ⟨([], [], [(18440, (0, []))], []), List.Mem.head _, (fun _ => 0), fun i p hi => (by
    match i, hi with
    | n + 0, hi => simp at hi), fun f hf => (by cases hf), fun e he => (by cases he), ⟨hG.1, hG.2.1, hG.2.2.1, c3, hG.2.2.2.2.1, hG.2.2.2.2.2.1, hG.2.2.2.2.2.2.1, hG.2.2.2.2.2.2.2.1, hG.2.2.2.2.2.2.2.2.1, hG.2.2.2.2.2.2.2.2.2.1, hG.2.2.2.2.2.2.2.2.2.2.1, hG.2.2.2.2.2.2.2.2.2.2.2.1, hG.2.2.2.2.2.2.2.2.2.2.2.2.1, hG.2.2.2.2.2.2.2.2.2.2.2.2.2.1, hG.2.2.2.2.2.2.2.2.2.2.2.2.2.2.1, hG.2.2.2.2.2.2.2.2.2.2.2.2.2.2.2⟩⟩
theorem sx_q_s_zI1b_0 {γ : Nat → Int} {A : Nat → Nat → Int} {j : Nat} {y : Int} (hG : sx_GG γ A) (c3 : sx_g3 (γ 18439) (1 + 0) (γ 18441) (γ 18442) (γ 18443) (γ 18444) (γ 18445) (sx_au A 124 j y 124)) : ∃ a ∈ sx_r_s_zI1b.2, ∃ w : Nat → Int, (∀ (i : Nat) p, a.1[i]? = some p → p.2.1 ≤ w i ∧ w i ≤ p.2.2) ∧ (∀ f ∈ a.2.1, 0 ≤ sx_d (sx_th γ (j : Int) y w) f) ∧ (∀ e, a.2.2.2.head? = some e → sx_d (sx_th γ (j : Int) y w) e = y) ∧ sx_GG (sx_gu γ (sx_th γ (j : Int) y w) a.2.2.1) (if true = true then sx_au A 124 j y else A) := ⟨([], [], [(18440, (1, []))], []), List.Mem.head _, (fun _ => 0), fun i p hi => (by
    match i, hi with
    | n + 0, hi => simp at hi), fun f hf => (by cases hf), fun e he => (by cases he), ⟨hG.1, hG.2.1, hG.2.2.1, c3, hG.2.2.2.2.1, hG.2.2.2.2.2.1, hG.2.2.2.2.2.2.1, hG.2.2.2.2.2.2.2.1, hG.2.2.2.2.2.2.2.2.1, hG.2.2.2.2.2.2.2.2.2.1, hG.2.2.2.2.2.2.2.2.2.2.1, hG.2.2.2.2.2.2.2.2.2.2.2.1, hG.2.2.2.2.2.2.2.2.2.2.2.2.1, hG.2.2.2.2.2.2.2.2.2.2.2.2.2.1, hG.2.2.2.2.2.2.2.2.2.2.2.2.2.2.1, hG.2.2.2.2.2.2.2.2.2.2.2.2.2.2.2⟩⟩
theorem sx_q_s_zI2a_0 {γ : Nat → Int} {A : Nat → Nat → Int} {j : Nat} {y : Int} (hG : sx_GG γ A) (c3 : sx_g3 (γ 18439) (γ 18440) (0 + 0) (γ 18442) (γ 18443) (γ 18444) (γ 18445) (sx_au A 124 j y 124)) : ∃ a ∈ sx_r_s_zI2a.2, ∃ w : Nat → Int, (∀ (i : Nat) p, a.1[i]? = some p → p.2.1 ≤ w i ∧ w i ≤ p.2.2) ∧ (∀ f ∈ a.2.1, 0 ≤ sx_d (sx_th γ (j : Int) y w) f) ∧ (∀ e, a.2.2.2.head? = some e → sx_d (sx_th γ (j : Int) y w) e = y) ∧ sx_GG (sx_gu γ (sx_th γ (j : Int) y w) a.2.2.1) (if true = true then sx_au A 124 j y else A) := ⟨([], [], [(18441, (0, []))], []), List.Mem.head _, (fun _ => 0), fun i p hi => (by
    match i, hi with
    | n + 0, hi => simp at hi), fun f hf => (by cases hf), fun e he => (by cases he), ⟨hG.1, hG.2.1, hG.2.2.1, c3, hG.2.2.2.2.1, hG.2.2.2.2.2.1, hG.2.2.2.2.2.2.1, hG.2.2.2.2.2.2.2.1, hG.2.2.2.2.2.2.2.2.1, hG.2.2.2.2.2.2.2.2.2.1, hG.2.2.2.2.2.2.2.2.2.2.1, hG.2.2.2.2.2.2.2.2.2.2.2.1, hG.2.2.2.2.2.2.2.2.2.2.2.2.1, hG.2.2.2.2.2.2.2.2.2.2.2.2.2.1, hG.2.2.2.2.2.2.2.2.2.2.2.2.2.2.1, hG.2.2.2.2.2.2.2.2.2.2.2.2.2.2.2⟩⟩
theorem sx_q_s_zI2b_0 {γ : Nat → Int} {A : Nat → Nat → Int} {j : Nat} {y : Int} (hG : sx_GG γ A) (c3 : sx_g3 (γ 18439) (γ 18440) (1 + 0) (γ 18442) (γ 18443) (γ 18444) (γ 18445) (sx_au A 124 j y 124)) : ∃ a ∈ sx_r_s_zI2b.2, ∃ w : Nat → Int, (∀ (i : Nat) p, a.1[i]? = some p → p.2.1 ≤ w i ∧ w i ≤ p.2.2) ∧ (∀ f ∈ a.2.1, 0 ≤ sx_d (sx_th γ (j : Int) y w) f) ∧ (∀ e, a.2.2.2.head? = some e → sx_d (sx_th γ (j : Int) y w) e = y) ∧ sx_GG (sx_gu γ (sx_th γ (j : Int) y w) a.2.2.1) (if true = true then sx_au A 124 j y else A) := ⟨([], [], [(18441, (1, []))], []), List.Mem.head _, (fun _ => 0), fun i p hi => (by
    match i, hi with
    | n + 0, hi => simp at hi), fun f hf => (by cases hf), fun e he => (by cases he), ⟨hG.1, hG.2.1, hG.2.2.1, c3, hG.2.2.2.2.1, hG.2.2.2.2.2.1, hG.2.2.2.2.2.2.1, hG.2.2.2.2.2.2.2.1, hG.2.2.2.2.2.2.2.2.1, hG.2.2.2.2.2.2.2.2.2.1, hG.2.2.2.2.2.2.2.2.2.2.1, hG.2.2.2.2.2.2.2.2.2.2.2.1, hG.2.2.2.2.2.2.2.2.2.2.2.2.1, hG.2.2.2.2.2.2.2.2.2.2.2.2.2.1, hG.2.2.2.2.2.2.2.2.2.2.2.2.2.2.1, hG.2.2.2.2.2.2.2.2.2.2.2.2.2.2.2⟩⟩
theorem sx_q_s_zI3a_0 {γ : Nat → Int} {A : Nat → Nat → Int} {j : Nat} {y : Int} (hG : sx_GG γ A) (c3 : sx_g3 (γ 18439) (γ 18440) (γ 18441) (0 + 0) (γ 18443) (γ 18444) (γ 18445) (sx_au A 124 j y 124)) : ∃ a ∈ sx_r_s_zI3a.2, ∃ w : Nat → Int, (∀ (i : Nat) p, a.1[i]? = some p → p.2.1 ≤ w i ∧ w i ≤ p.2.2) ∧ (∀ f ∈ a.2.1, 0 ≤ sx_d (sx_th γ (j : Int) y w) f) ∧ (∀ e, a.2.2.2.head? = some e → sx_d (sx_th γ (j : Int) y w) e = y) ∧ sx_GG (sx_gu γ (sx_th γ (j : Int) y w) a.2.2.1) (if true = true then sx_au A 124 j y else A) := ⟨([], [], [(18442, (0, []))], []), List.Mem.head _, (fun _ => 0), fun i p hi => (by
    match i, hi with
    | n + 0, hi => simp at hi), fun f hf => (by cases hf), fun e he => (by cases he), ⟨hG.1, hG.2.1, hG.2.2.1, c3, hG.2.2.2.2.1, hG.2.2.2.2.2.1, hG.2.2.2.2.2.2.1, hG.2.2.2.2.2.2.2.1, hG.2.2.2.2.2.2.2.2.1, hG.2.2.2.2.2.2.2.2.2.1, hG.2.2.2.2.2.2.2.2.2.2.1, hG.2.2.2.2.2.2.2.2.2.2.2.1, hG.2.2.2.2.2.2.2.2.2.2.2.2.1, hG.2.2.2.2.2.2.2.2.2.2.2.2.2.1, hG.2.2.2.2.2.2.2.2.2.2.2.2.2.2.1, hG.2.2.2.2.2.2.2.2.2.2.2.2.2.2.2⟩⟩
theorem sx_q_s_zI3b_0 {γ : Nat → Int} {A : Nat → Nat → Int} {j : Nat} {y : Int} (hG : sx_GG γ A) (c3 : sx_g3 (γ 18439) (γ 18440) (γ 18441) (1 + 0) (γ 18443) (γ 18444) (γ 18445) (sx_au A 124 j y 124)) : ∃ a ∈ sx_r_s_zI3b.2, ∃ w : Nat → Int, (∀ (i : Nat) p, a.1[i]? = some p → p.2.1 ≤ w i ∧ w i ≤ p.2.2) ∧ (∀ f ∈ a.2.1, 0 ≤ sx_d (sx_th γ (j : Int) y w) f) ∧ (∀ e, a.2.2.2.head? = some e → sx_d (sx_th γ (j : Int) y w) e = y) ∧ sx_GG (sx_gu γ (sx_th γ (j : Int) y w) a.2.2.1) (if true = true then sx_au A 124 j y else A) := ⟨([], [], [(18442, (1, []))], []), List.Mem.head _, (fun _ => 0), fun i p hi => (by
    match i, hi with
    | n + 0, hi => simp at hi), fun f hf => (by cases hf), fun e he => (by cases he), ⟨hG.1, hG.2.1, hG.2.2.1, c3, hG.2.2.2.2.1, hG.2.2.2.2.2.1, hG.2.2.2.2.2.2.1, hG.2.2.2.2.2.2.2.1, hG.2.2.2.2.2.2.2.2.1, hG.2.2.2.2.2.2.2.2.2.1, hG.2.2.2.2.2.2.2.2.2.2.1, hG.2.2.2.2.2.2.2.2.2.2.2.1, hG.2.2.2.2.2.2.2.2.2.2.2.2.1, hG.2.2.2.2.2.2.2.2.2.2.2.2.2.1, hG.2.2.2.2.2.2.2.2.2.2.2.2.2.2.1, hG.2.2.2.2.2.2.2.2.2.2.2.2.2.2.2⟩⟩
theorem sx_q_s_zI4a_0 {γ : Nat → Int} {A : Nat → Nat → Int} {j : Nat} {y : Int} (hG : sx_GG γ A) (c3 : sx_g3 (γ 18439) (γ 18440) (γ 18441) (γ 18442) (0 + 0) (γ 18444) (γ 18445) (sx_au A 124 j y 124)) : ∃ a ∈ sx_r_s_zI4a.2, ∃ w : Nat → Int, (∀ (i : Nat) p, a.1[i]? = some p → p.2.1 ≤ w i ∧ w i ≤ p.2.2) ∧ (∀ f ∈ a.2.1, 0 ≤ sx_d (sx_th γ (j : Int) y w) f) ∧ (∀ e, a.2.2.2.head? = some e → sx_d (sx_th γ (j : Int) y w) e = y) ∧ sx_GG (sx_gu γ (sx_th γ (j : Int) y w) a.2.2.1) (if true = true then sx_au A 124 j y else A) := ⟨([], [], [(18443, (0, []))], []), List.Mem.head _, (fun _ => 0), fun i p hi => (by
    match i, hi with
    | n + 0, hi => simp at hi), fun f hf => (by cases hf), fun e he => (by cases he), ⟨hG.1, hG.2.1, hG.2.2.1, c3, hG.2.2.2.2.1, hG.2.2.2.2.2.1, hG.2.2.2.2.2.2.1, hG.2.2.2.2.2.2.2.1, hG.2.2.2.2.2.2.2.2.1, hG.2.2.2.2.2.2.2.2.2.1, hG.2.2.2.2.2.2.2.2.2.2.1, hG.2.2.2.2.2.2.2.2.2.2.2.1, hG.2.2.2.2.2.2.2.2.2.2.2.2.1, hG.2.2.2.2.2.2.2.2.2.2.2.2.2.1, hG.2.2.2.2.2.2.2.2.2.2.2.2.2.2.1, hG.2.2.2.2.2.2.2.2.2.2.2.2.2.2.2⟩⟩
theorem sx_q_s_zI4b_0 {γ : Nat → Int} {A : Nat → Nat → Int} {j : Nat} {y : Int} (hG : sx_GG γ A) (c3 : sx_g3 (γ 18439) (γ 18440) (γ 18441) (γ 18442) (1 + 0) (γ 18444) (γ 18445) (sx_au A 124 j y 124)) : ∃ a ∈ sx_r_s_zI4b.2, ∃ w : Nat → Int, (∀ (i : Nat) p, a.1[i]? = some p → p.2.1 ≤ w i ∧ w i ≤ p.2.2) ∧ (∀ f ∈ a.2.1, 0 ≤ sx_d (sx_th γ (j : Int) y w) f) ∧ (∀ e, a.2.2.2.head? = some e → sx_d (sx_th γ (j : Int) y w) e = y) ∧ sx_GG (sx_gu γ (sx_th γ (j : Int) y w) a.2.2.1) (if true = true then sx_au A 124 j y else A) := ⟨([], [], [(18443, (1, []))], []), List.Mem.head _, (fun _ => 0), fun i p hi => (by
    match i, hi with
    | n + 0, hi => simp at hi), fun f hf => (by cases hf), fun e he => (by cases he), ⟨hG.1, hG.2.1, hG.2.2.1, c3, hG.2.2.2.2.1, hG.2.2.2.2.2.1, hG.2.2.2.2.2.2.1, hG.2.2.2.2.2.2.2.1, hG.2.2.2.2.2.2.2.2.1, hG.2.2.2.2.2.2.2.2.2.1, hG.2.2.2.2.2.2.2.2.2.2.1, hG.2.2.2.2.2.2.2.2.2.2.2.1, hG.2.2.2.2.2.2.2.2.2.2.2.2.1, hG.2.2.2.2.2.2.2.2.2.2.2.2.2.1, hG.2.2.2.2.2.2.2.2.2.2.2.2.2.2.1, hG.2.2.2.2.2.2.2.2.2.2.2.2.2.2.2⟩⟩
theorem sx_q_s_zI5a_0 {γ : Nat → Int} {A : Nat → Nat → Int} {j : Nat} {y : Int} (hG : sx_GG γ A) (c3 : sx_g3 (γ 18439) (γ 18440) (γ 18441) (γ 18442) (γ 18443) (0 + 0) (γ 18445) (sx_au A 124 j y 124)) : ∃ a ∈ sx_r_s_zI5a.2, ∃ w : Nat → Int, (∀ (i : Nat) p, a.1[i]? = some p → p.2.1 ≤ w i ∧ w i ≤ p.2.2) ∧ (∀ f ∈ a.2.1, 0 ≤ sx_d (sx_th γ (j : Int) y w) f) ∧ (∀ e, a.2.2.2.head? = some e → sx_d (sx_th γ (j : Int) y w) e = y) ∧ sx_GG (sx_gu γ (sx_th γ (j : Int) y w) a.2.2.1) (if true = true then sx_au A 124 j y else A) := ⟨([], [], [(18444, (0, []))], []), List.Mem.head _, (fun _ => 0), fun i p hi => (by
    match i, hi with
    | n + 0, hi => simp at hi), fun f hf => (by cases hf), fun e he => (by cases he), ⟨hG.1, hG.2.1, hG.2.2.1, c3, hG.2.2.2.2.1, hG.2.2.2.2.2.1, hG.2.2.2.2.2.2.1, hG.2.2.2.2.2.2.2.1, hG.2.2.2.2.2.2.2.2.1, hG.2.2.2.2.2.2.2.2.2.1, hG.2.2.2.2.2.2.2.2.2.2.1, hG.2.2.2.2.2.2.2.2.2.2.2.1, hG.2.2.2.2.2.2.2.2.2.2.2.2.1, hG.2.2.2.2.2.2.2.2.2.2.2.2.2.1, hG.2.2.2.2.2.2.2.2.2.2.2.2.2.2.1, hG.2.2.2.2.2.2.2.2.2.2.2.2.2.2.2⟩⟩
theorem sx_q_s_zI5b_0 {γ : Nat → Int} {A : Nat → Nat → Int} {j : Nat} {y : Int} (hG : sx_GG γ A) (c3 : sx_g3 (γ 18439) (γ 18440) (γ 18441) (γ 18442) (γ 18443) (1 + 0) (γ 18445) (sx_au A 124 j y 124)) : ∃ a ∈ sx_r_s_zI5b.2, ∃ w : Nat → Int, (∀ (i : Nat) p, a.1[i]? = some p → p.2.1 ≤ w i ∧ w i ≤ p.2.2) ∧ (∀ f ∈ a.2.1, 0 ≤ sx_d (sx_th γ (j : Int) y w) f) ∧ (∀ e, a.2.2.2.head? = some e → sx_d (sx_th γ (j : Int) y w) e = y) ∧ sx_GG (sx_gu γ (sx_th γ (j : Int) y w) a.2.2.1) (if true = true then sx_au A 124 j y else A) := ⟨([], [], [(18444, (1, []))], []), List.Mem.head _, (fun _ => 0), fun i p hi => (by
    match i, hi with
    | n + 0, hi => simp at hi), fun f hf => (by cases hf), fun e he => (by cases he), ⟨hG.1, hG.2.1, hG.2.2.1, c3, hG.2.2.2.2.1, hG.2.2.2.2.2.1, hG.2.2.2.2.2.2.1, hG.2.2.2.2.2.2.2.1, hG.2.2.2.2.2.2.2.2.1, hG.2.2.2.2.2.2.2.2.2.1, hG.2.2.2.2.2.2.2.2.2.2.1, hG.2.2.2.2.2.2.2.2.2.2.2.1, hG.2.2.2.2.2.2.2.2.2.2.2.2.1, hG.2.2.2.2.2.2.2.2.2.2.2.2.2.1, hG.2.2.2.2.2.2.2.2.2.2.2.2.2.2.1, hG.2.2.2.2.2.2.2.2.2.2.2.2.2.2.2⟩⟩
theorem sx_q_s_zI6a_0 {γ : Nat → Int} {A : Nat → Nat → Int} {j : Nat} {y : Int} (hG : sx_GG γ A) (c3 : sx_g3 (γ 18439) (γ 18440) (γ 18441) (γ 18442) (γ 18443) (γ 18444) (0 + 0) (sx_au A 124 j y 124)) : ∃ a ∈ sx_r_s_zI6a.2, ∃ w : Nat → Int, (∀ (i : Nat) p, a.1[i]? = some p → p.2.1 ≤ w i ∧ w i ≤ p.2.2) ∧ (∀ f ∈ a.2.1, 0 ≤ sx_d (sx_th γ (j : Int) y w) f) ∧ (∀ e, a.2.2.2.head? = some e → sx_d (sx_th γ (j : Int) y w) e = y) ∧ sx_GG (sx_gu γ (sx_th γ (j : Int) y w) a.2.2.1) (if true = true then sx_au A 124 j y else A) := ⟨([], [], [(18445, (0, []))], []), List.Mem.head _, (fun _ => 0), fun i p hi => (by
    match i, hi with
    | n + 0, hi => simp at hi), fun f hf => (by cases hf), fun e he => (by cases he), ⟨hG.1, hG.2.1, hG.2.2.1, c3, hG.2.2.2.2.1, hG.2.2.2.2.2.1, hG.2.2.2.2.2.2.1, hG.2.2.2.2.2.2.2.1, hG.2.2.2.2.2.2.2.2.1, hG.2.2.2.2.2.2.2.2.2.1, hG.2.2.2.2.2.2.2.2.2.2.1, hG.2.2.2.2.2.2.2.2.2.2.2.1, hG.2.2.2.2.2.2.2.2.2.2.2.2.1, hG.2.2.2.2.2.2.2.2.2.2.2.2.2.1, hG.2.2.2.2.2.2.2.2.2.2.2.2.2.2.1, hG.2.2.2.2.2.2.2.2.2.2.2.2.2.2.2⟩⟩
theorem sx_q_s_zI6b_0 {γ : Nat → Int} {A : Nat → Nat → Int} {j : Nat} {y : Int} (hG : sx_GG γ A) (c3 : sx_g3 (γ 18439) (γ 18440) (γ 18441) (γ 18442) (γ 18443) (γ 18444) (1 + 0) (sx_au A 124 j y 124)) : ∃ a ∈ sx_r_s_zI6b.2, ∃ w : Nat → Int, (∀ (i : Nat) p, a.1[i]? = some p → p.2.1 ≤ w i ∧ w i ≤ p.2.2) ∧ (∀ f ∈ a.2.1, 0 ≤ sx_d (sx_th γ (j : Int) y w) f) ∧ (∀ e, a.2.2.2.head? = some e → sx_d (sx_th γ (j : Int) y w) e = y) ∧ sx_GG (sx_gu γ (sx_th γ (j : Int) y w) a.2.2.1) (if true = true then sx_au A 124 j y else A) := ⟨([], [], [(18445, (1, []))], []), List.Mem.head _, (fun _ => 0), fun i p hi => (by
    match i, hi with
    | n + 0, hi => simp at hi), fun f hf => (by cases hf), fun e he => (by cases he), ⟨hG.1, hG.2.1, hG.2.2.1, c3, hG.2.2.2.2.1, hG.2.2.2.2.2.1, hG.2.2.2.2.2.2.1, hG.2.2.2.2.2.2.2.1, hG.2.2.2.2.2.2.2.2.1, hG.2.2.2.2.2.2.2.2.2.1, hG.2.2.2.2.2.2.2.2.2.2.1, hG.2.2.2.2.2.2.2.2.2.2.2.1, hG.2.2.2.2.2.2.2.2.2.2.2.2.1, hG.2.2.2.2.2.2.2.2.2.2.2.2.2.1, hG.2.2.2.2.2.2.2.2.2.2.2.2.2.2.1, hG.2.2.2.2.2.2.2.2.2.2.2.2.2.2.2⟩⟩
theorem sx_q_s_roomA_0 {γ : Nat → Int} {A : Nat → Nat → Int} {j : Nat} {y : Int} (hG : sx_GG γ A) (c7 : sx_g6 (1 + 0) (0 + 0) (8 + 0) (0 + 0) ((-1) + 0) (0 + 0) (sx_au A 131 j y 131)) : ∃ a ∈ sx_r_s_roomA.2, ∃ w : Nat → Int, (∀ (i : Nat) p, a.1[i]? = some p → p.2.1 ≤ w i ∧ w i ≤ p.2.2) ∧ (∀ f ∈ a.2.1, 0 ≤ sx_d (sx_th γ (j : Int) y w) f) ∧ (∀ e, a.2.2.2.head? = some e → sx_d (sx_th γ (j : Int) y w) e = y) ∧ sx_GG (sx_gu γ (sx_th γ (j : Int) y w) a.2.2.1) (if true = true then sx_au A 131 j y else A) := ⟨([], [], [(18455, (1, [])), (18456, (0, [])), (18457, (8, [])), (18458, (0, [])), (18459, ((-1), [])), (18460, (0, []))], []), List.Mem.head _, (fun _ => 0), fun i p hi => (by
    match i, hi with
    | n + 0, hi => simp at hi), fun f hf => (by cases hf), fun e he => (by cases he), ⟨hG.1, hG.2.1, hG.2.2.1, hG.2.2.2.1, hG.2.2.2.2.1, hG.2.2.2.2.2.1, hG.2.2.2.2.2.2.1, c7, hG.2.2.2.2.2.2.2.2.1, hG.2.2.2.2.2.2.2.2.2.1, hG.2.2.2.2.2.2.2.2.2.2.1, hG.2.2.2.2.2.2.2.2.2.2.2.1, hG.2.2.2.2.2.2.2.2.2.2.2.2.1, hG.2.2.2.2.2.2.2.2.2.2.2.2.2.1, hG.2.2.2.2.2.2.2.2.2.2.2.2.2.2.1, hG.2.2.2.2.2.2.2.2.2.2.2.2.2.2.2⟩⟩
theorem sx_q_s_roomB_0 {γ : Nat → Int} {A : Nat → Nat → Int} {j : Nat} {y : Int} (hG : sx_GG γ A) (c7 : sx_g6 (1 + (1 * γ 18455 + 0)) (γ 18456) (8 + 0) (0 + 0) ((-1) + 0) (0 + 0) (sx_au A 131 j y 131)) : ∃ a ∈ sx_r_s_roomB.2, ∃ w : Nat → Int, (∀ (i : Nat) p, a.1[i]? = some p → p.2.1 ≤ w i ∧ w i ≤ p.2.2) ∧ (∀ f ∈ a.2.1, 0 ≤ sx_d (sx_th γ (j : Int) y w) f) ∧ (∀ e, a.2.2.2.head? = some e → sx_d (sx_th γ (j : Int) y w) e = y) ∧ sx_GG (sx_gu γ (sx_th γ (j : Int) y w) a.2.2.1) (if true = true then sx_au A 131 j y else A) := ⟨([], [], [(18455, (1, [(18455, 1)])), (18457, (8, [])), (18458, (0, [])), (18459, ((-1), [])), (18460, (0, []))], []), List.Mem.head _, (fun _ => 0), fun i p hi => (by
    match i, hi with
    | n + 0, hi => simp at hi), fun f hf => (by cases hf), fun e he => (by cases he), ⟨hG.1, hG.2.1, hG.2.2.1, hG.2.2.2.1, hG.2.2.2.2.1, hG.2.2.2.2.2.1, hG.2.2.2.2.2.2.1, c7, hG.2.2.2.2.2.2.2.2.1, hG.2.2.2.2.2.2.2.2.2.1, hG.2.2.2.2.2.2.2.2.2.2.1, hG.2.2.2.2.2.2.2.2.2.2.2.1, hG.2.2.2.2.2.2.2.2.2.2.2.2.1, hG.2.2.2.2.2.2.2.2.2.2.2.2.2.1, hG.2.2.2.2.2.2.2.2.2.2.2.2.2.2.1, hG.2.2.2.2.2.2.2.2.2.2.2.2.2.2.2⟩⟩
theorem sx_q_s_roomC_0 {γ : Nat → Int} {A : Nat → Nat → Int} {j : Nat} {y : Int} (hG : sx_GG γ A) (f0 : 0 ≤ 4138 + ((-1) * γ 18456 + 0)) (c7 : sx_g6 (1 + (1 * (j : Int) + 0)) (1 + (1 * γ 18456 + 0)) (8 + 0) (0 + 0) ((-1) + 0) (0 + 0) (sx_au A 131 j y 131)) : ∃ a ∈ sx_r_s_roomC.2, ∃ w : Nat → Int, (∀ (i : Nat) p, a.1[i]? = some p → p.2.1 ≤ w i ∧ w i ≤ p.2.2) ∧ (∀ f ∈ a.2.1, 0 ≤ sx_d (sx_th γ (j : Int) y w) f) ∧ (∀ e, a.2.2.2.head? = some e → sx_d (sx_th γ (j : Int) y w) e = y) ∧ sx_GG (sx_gu γ (sx_th γ (j : Int) y w) a.2.2.1) (if true = true then sx_au A 131 j y else A) := ⟨([], [(4138, [(18456, (-1))])], [(18455, (1, [(19000, 1)])), (18456, (1, [(18456, 1)])), (18457, (8, [])), (18458, (0, [])), (18459, ((-1), [])), (18460, (0, []))], []), List.Mem.head _, (fun _ => 0), fun i p hi => (by
    match i, hi with
    | n + 0, hi => simp at hi), fun f hf => (by
    simp only [List.mem_cons, List.not_mem_nil, or_false] at hf
    rcases hf with rfl
    · exact f0
    ), fun e he => (by cases he), ⟨hG.1, hG.2.1, hG.2.2.1, hG.2.2.2.1, hG.2.2.2.2.1, hG.2.2.2.2.2.1, hG.2.2.2.2.2.2.1, c7, hG.2.2.2.2.2.2.2.2.1, hG.2.2.2.2.2.2.2.2.2.1, hG.2.2.2.2.2.2.2.2.2.2.1, hG.2.2.2.2.2.2.2.2.2.2.2.1, hG.2.2.2.2.2.2.2.2.2.2.2.2.1, hG.2.2.2.2.2.2.2.2.2.2.2.2.2.1, hG.2.2.2.2.2.2.2.2.2.2.2.2.2.2.1, hG.2.2.2.2.2.2.2.2.2.2.2.2.2.2.2⟩⟩
theorem sx_q_s_roomD_0 {γ : Nat → Int} {A : Nat → Nat → Int} {j : Nat} {y : Int} (hG : sx_GG γ A) (c7 : sx_g6 (0 + 0) (0 + 0) (8 + 0) (0 + 0) ((-1) + 0) (0 + 0) (sx_au A 131 j y 131)) : ∃ a ∈ sx_r_s_roomD.2, ∃ w : Nat → Int, (∀ (i : Nat) p, a.1[i]? = some p → p.2.1 ≤ w i ∧ w i ≤ p.2.2) ∧ (∀ f ∈ a.2.1, 0 ≤ sx_d (sx_th γ (j : Int) y w) f) ∧ (∀ e, a.2.2.2.head? = some e → sx_d (sx_th γ (j : Int) y w) e = y) ∧ sx_GG (sx_gu γ (sx_th γ (j : Int) y w) a.2.2.1) (if true = true then sx_au A 131 j y else A) := ⟨([], [], [(18455, (0, [])), (18456, (0, [])), (18457, (8, [])), (18458, (0, [])), (18459, ((-1), [])), (18460, (0, []))], []), List.Mem.head _, (fun _ => 0), fun i p hi => (by
    match i, hi with
    | n + 0, hi => simp at hi), fun f hf => (by cases hf), fun e he => (by cases he), ⟨hG.1, hG.2.1, hG.2.2.1, hG.2.2.2.1, hG.2.2.2.2.1, hG.2.2.2.2.2.1, hG.2.2.2.2.2.2.1, c7, hG.2.2.2.2.2.2.2.2.1, hG.2.2.2.2.2.2.2.2.2.1, hG.2.2.2.2.2.2.2.2.2.2.1, hG.2.2.2.2.2.2.2.2.2.2.2.1, hG.2.2.2.2.2.2.2.2.2.2.2.2.1, hG.2.2.2.2.2.2.2.2.2.2.2.2.2.1, hG.2.2.2.2.2.2.2.2.2.2.2.2.2.2.1, hG.2.2.2.2.2.2.2.2.2.2.2.2.2.2.2⟩⟩
theorem sx_q_s_who_0 {γ : Nat → Int} {A : Nat → Nat → Int} {j : Nat} {y : Int} (hG : sx_GG γ A) (f0 : 0 ≤ 0 + ((-1) * (j : Int) + 0)) (c0 : sx_g1 (0 + (1 * y + 0)) (sx_au A 135 j y 135)) : ∃ a ∈ sx_r_s_who.2, ∃ w : Nat → Int, (∀ (i : Nat) p, a.1[i]? = some p → p.2.1 ≤ w i ∧ w i ≤ p.2.2) ∧ (∀ f ∈ a.2.1, 0 ≤ sx_d (sx_th γ (j : Int) y w) f) ∧ (∀ e, a.2.2.2.head? = some e → sx_d (sx_th γ (j : Int) y w) e = y) ∧ sx_GG (sx_gu γ (sx_th γ (j : Int) y w) a.2.2.1) (if true = true then sx_au A 135 j y else A) := ⟨([], [(0, [(19000, (-1))])], [(18432, (0, [(19001, 1)]))], []), List.Mem.head _, (fun _ => 0), fun i p hi => (by
    match i, hi with
    | n + 0, hi => simp at hi), fun f hf => (by
    simp only [List.mem_cons, List.not_mem_nil, or_false] at hf
    rcases hf with rfl
    · exact f0
    ), fun e he => (by cases he), ⟨c0, hG.2.1, hG.2.2.1, hG.2.2.2.1, hG.2.2.2.2.1, hG.2.2.2.2.2.1, hG.2.2.2.2.2.2.1, hG.2.2.2.2.2.2.2.1, hG.2.2.2.2.2.2.2.2.1, hG.2.2.2.2.2.2.2.2.2.1, hG.2.2.2.2.2.2.2.2.2.2.1, hG.2.2.2.2.2.2.2.2.2.2.2.1, hG.2.2.2.2.2.2.2.2.2.2.2.2.1, hG.2.2.2.2.2.2.2.2.2.2.2.2.2.1, hG.2.2.2.2.2.2.2.2.2.2.2.2.2.2.1, hG.2.2.2.2.2.2.2.2.2.2.2.2.2.2.2⟩⟩
theorem sx_q_s_who_1 {γ : Nat → Int} {A : Nat → Nat → Int} {j : Nat} {y : Int} (hG : sx_GG γ A) (f0 : 0 ≤ (-1) + (1 * (j : Int) + 0)) (c0 : sx_g1 (γ 18432) (sx_au A 135 j y 135)) : ∃ a ∈ sx_r_s_who.2, ∃ w : Nat → Int, (∀ (i : Nat) p, a.1[i]? = some p → p.2.1 ≤ w i ∧ w i ≤ p.2.2) ∧ (∀ f ∈ a.2.1, 0 ≤ sx_d (sx_th γ (j : Int) y w) f) ∧ (∀ e, a.2.2.2.head? = some e → sx_d (sx_th γ (j : Int) y w) e = y) ∧ sx_GG (sx_gu γ (sx_th γ (j : Int) y w) a.2.2.1) (if true = true then sx_au A 135 j y else A) := ⟨([], [((-1), [(19000, 1)])], [], []), List.Mem.tail _ (List.Mem.head _), (fun _ => 0), fun i p hi => (by
    match i, hi with
    | n + 0, hi => simp at hi), fun f hf => (by
    simp only [List.mem_cons, List.not_mem_nil, or_false] at hf
    rcases hf with rfl
    · exact f0
    ), fun e he => (by cases he), ⟨c0, hG.2.1, hG.2.2.1, hG.2.2.2.1, hG.2.2.2.2.1, hG.2.2.2.2.2.1, hG.2.2.2.2.2.2.1, hG.2.2.2.2.2.2.2.1, hG.2.2.2.2.2.2.2.2.1, hG.2.2.2.2.2.2.2.2.2.1, hG.2.2.2.2.2.2.2.2.2.2.1, hG.2.2.2.2.2.2.2.2.2.2.2.1, hG.2.2.2.2.2.2.2.2.2.2.2.2.1, hG.2.2.2.2.2.2.2.2.2.2.2.2.2.1, hG.2.2.2.2.2.2.2.2.2.2.2.2.2.2.1, hG.2.2.2.2.2.2.2.2.2.2.2.2.2.2.2⟩⟩
theorem sx_q_s_goal_0 {γ : Nat → Int} {A : Nat → Nat → Int} {j : Nat} {y : Int} (hG : sx_GG γ A) (f0 : 0 ≤ 0 + ((-1) * (j : Int) + 0)) (c1 : sx_g1 (0 + (1 * y + 0)) (sx_au A 136 j y 136)) : ∃ a ∈ sx_r_s_goal.2, ∃ w : Nat → Int, (∀ (i : Nat) p, a.1[i]? = some p → p.2.1 ≤ w i ∧ w i ≤ p.2.2) ∧ (∀ f ∈ a.2.1, 0 ≤ sx_d (sx_th γ (j : Int) y w) f) ∧ (∀ e, a.2.2.2.head? = some e → sx_d (sx_th γ (j : Int) y w) e = y) ∧ sx_GG (sx_gu γ (sx_th γ (j : Int) y w) a.2.2.1) (if true = true then sx_au A 136 j y else A) := ⟨([], [(0, [(19000, (-1))])], [(18433, (0, [(19001, 1)]))], []), List.Mem.head _, (fun _ => 0), fun i p hi => (by
    match i, hi with
    | n + 0, hi => simp at hi), fun f hf => (by
    simp only [List.mem_cons, List.not_mem_nil, or_false] at hf
    rcases hf with rfl
    · exact f0
    ), fun e he => (by cases he), ⟨hG.1, c1, hG.2.2.1, hG.2.2.2.1, hG.2.2.2.2.1, hG.2.2.2.2.2.1, hG.2.2.2.2.2.2.1, hG.2.2.2.2.2.2.2.1, hG.2.2.2.2.2.2.2.2.1, hG.2.2.2.2.2.2.2.2.2.1, hG.2.2.2.2.2.2.2.2.2.2.1, hG.2.2.2.2.2.2.2.2.2.2.2.1, hG.2.2.2.2.2.2.2.2.2.2.2.2.1, hG.2.2.2.2.2.2.2.2.2.2.2.2.2.1, hG.2.2.2.2.2.2.2.2.2.2.2.2.2.2.1, hG.2.2.2.2.2.2.2.2.2.2.2.2.2.2.2⟩⟩
theorem sx_q_s_goal_1 {γ : Nat → Int} {A : Nat → Nat → Int} {j : Nat} {y : Int} (hG : sx_GG γ A) (f0 : 0 ≤ (-1) + (1 * (j : Int) + 0)) (c1 : sx_g1 (γ 18433) (sx_au A 136 j y 136)) : ∃ a ∈ sx_r_s_goal.2, ∃ w : Nat → Int, (∀ (i : Nat) p, a.1[i]? = some p → p.2.1 ≤ w i ∧ w i ≤ p.2.2) ∧ (∀ f ∈ a.2.1, 0 ≤ sx_d (sx_th γ (j : Int) y w) f) ∧ (∀ e, a.2.2.2.head? = some e → sx_d (sx_th γ (j : Int) y w) e = y) ∧ sx_GG (sx_gu γ (sx_th γ (j : Int) y w) a.2.2.1) (if true = true then sx_au A 136 j y else A) := ⟨([], [((-1), [(19000, 1)])], [], []), List.Mem.tail _ (List.Mem.head _), (fun _ => 0), fun i p hi => (by
    match i, hi with
    | n + 0, hi => simp at hi), fun f hf => (by
    simp only [List.mem_cons, List.not_mem_nil, or_false] at hf
    rcases hf with rfl
    · exact f0
    ), fun e he => (by cases he), ⟨hG.1, c1, hG.2.2.1, hG.2.2.2.1, hG.2.2.2.2.1, hG.2.2.2.2.2.1, hG.2.2.2.2.2.2.1, hG.2.2.2.2.2.2.2.1, hG.2.2.2.2.2.2.2.2.1, hG.2.2.2.2.2.2.2.2.2.1, hG.2.2.2.2.2.2.2.2.2.2.1, hG.2.2.2.2.2.2.2.2.2.2.2.1, hG.2.2.2.2.2.2.2.2.2.2.2.2.1, hG.2.2.2.2.2.2.2.2.2.2.2.2.2.1, hG.2.2.2.2.2.2.2.2.2.2.2.2.2.2.1, hG.2.2.2.2.2.2.2.2.2.2.2.2.2.2.2⟩⟩
theorem sx_q_s_week0_0 {γ : Nat → Int} {A : Nat → Nat → Int} {j : Nat} {y : Int} (hG : sx_GG γ A) (c2 : sx_g2 (0 + (1 * y + 0)) (γ 18435) (γ 18436) (γ 18437) (γ 18438) (sx_au A 140 j y 140)) : ∃ a ∈ sx_r_s_week0.2, ∃ w : Nat → Int, (∀ (i : Nat) p, a.1[i]? = some p → p.2.1 ≤ w i ∧ w i ≤ p.2.2) ∧ (∀ f ∈ a.2.1, 0 ≤ sx_d (sx_th γ (j : Int) y w) f) ∧ (∀ e, a.2.2.2.head? = some e → sx_d (sx_th γ (j : Int) y w) e = y) ∧ sx_GG (sx_gu γ (sx_th γ (j : Int) y w) a.2.2.1) (if true = true then sx_au A 140 j y else A) := ⟨([], [], [(18434, (0, [(19001, 1)]))], []), List.Mem.head _, (fun _ => 0), fun i p hi => (by
    match i, hi with
    | n + 0, hi => simp at hi), fun f hf => (by cases hf), fun e he => (by cases he), ⟨hG.1, hG.2.1, c2, hG.2.2.2.1, hG.2.2.2.2.1, hG.2.2.2.2.2.1, hG.2.2.2.2.2.2.1, hG.2.2.2.2.2.2.2.1, hG.2.2.2.2.2.2.2.2.1, hG.2.2.2.2.2.2.2.2.2.1, hG.2.2.2.2.2.2.2.2.2.2.1, hG.2.2.2.2.2.2.2.2.2.2.2.1, hG.2.2.2.2.2.2.2.2.2.2.2.2.1, hG.2.2.2.2.2.2.2.2.2.2.2.2.2.1, hG.2.2.2.2.2.2.2.2.2.2.2.2.2.2.1, hG.2.2.2.2.2.2.2.2.2.2.2.2.2.2.2⟩⟩
theorem sx_q_s_week1_0 {γ : Nat → Int} {A : Nat → Nat → Int} {j : Nat} {y : Int} (hG : sx_GG γ A) (c2 : sx_g2 (γ 18434) (0 + (1 * y + 0)) (γ 18436) (γ 18437) (γ 18438) (sx_au A 140 j y 140)) : ∃ a ∈ sx_r_s_week1.2, ∃ w : Nat → Int, (∀ (i : Nat) p, a.1[i]? = some p → p.2.1 ≤ w i ∧ w i ≤ p.2.2) ∧ (∀ f ∈ a.2.1, 0 ≤ sx_d (sx_th γ (j : Int) y w) f) ∧ (∀ e, a.2.2.2.head? = some e → sx_d (sx_th γ (j : Int) y w) e = y) ∧ sx_GG (sx_gu γ (sx_th γ (j : Int) y w) a.2.2.1) (if true = true then sx_au A 140 j y else A) := ⟨([], [], [(18435, (0, [(19001, 1)]))], []), List.Mem.head _, (fun _ => 0), fun i p hi => (by
    match i, hi with
    | n + 0, hi => simp at hi), fun f hf => (by cases hf), fun e he => (by cases he), ⟨hG.1, hG.2.1, c2, hG.2.2.2.1, hG.2.2.2.2.1, hG.2.2.2.2.2.1, hG.2.2.2.2.2.2.1, hG.2.2.2.2.2.2.2.1, hG.2.2.2.2.2.2.2.2.1, hG.2.2.2.2.2.2.2.2.2.1, hG.2.2.2.2.2.2.2.2.2.2.1, hG.2.2.2.2.2.2.2.2.2.2.2.1, hG.2.2.2.2.2.2.2.2.2.2.2.2.1, hG.2.2.2.2.2.2.2.2.2.2.2.2.2.1, hG.2.2.2.2.2.2.2.2.2.2.2.2.2.2.1, hG.2.2.2.2.2.2.2.2.2.2.2.2.2.2.2⟩⟩
theorem sx_q_s_week2_0 {γ : Nat → Int} {A : Nat → Nat → Int} {j : Nat} {y : Int} (hG : sx_GG γ A) (c2 : sx_g2 (γ 18434) (γ 18435) (0 + (1 * y + 0)) (γ 18437) (γ 18438) (sx_au A 140 j y 140)) : ∃ a ∈ sx_r_s_week2.2, ∃ w : Nat → Int, (∀ (i : Nat) p, a.1[i]? = some p → p.2.1 ≤ w i ∧ w i ≤ p.2.2) ∧ (∀ f ∈ a.2.1, 0 ≤ sx_d (sx_th γ (j : Int) y w) f) ∧ (∀ e, a.2.2.2.head? = some e → sx_d (sx_th γ (j : Int) y w) e = y) ∧ sx_GG (sx_gu γ (sx_th γ (j : Int) y w) a.2.2.1) (if true = true then sx_au A 140 j y else A) := ⟨([], [], [(18436, (0, [(19001, 1)]))], []), List.Mem.head _, (fun _ => 0), fun i p hi => (by
    match i, hi with
    | n + 0, hi => simp at hi), fun f hf => (by cases hf), fun e he => (by cases he), ⟨hG.1, hG.2.1, c2, hG.2.2.2.1, hG.2.2.2.2.1, hG.2.2.2.2.2.1, hG.2.2.2.2.2.2.1, hG.2.2.2.2.2.2.2.1, hG.2.2.2.2.2.2.2.2.1, hG.2.2.2.2.2.2.2.2.2.1, hG.2.2.2.2.2.2.2.2.2.2.1, hG.2.2.2.2.2.2.2.2.2.2.2.1, hG.2.2.2.2.2.2.2.2.2.2.2.2.1, hG.2.2.2.2.2.2.2.2.2.2.2.2.2.1, hG.2.2.2.2.2.2.2.2.2.2.2.2.2.2.1, hG.2.2.2.2.2.2.2.2.2.2.2.2.2.2.2⟩⟩
theorem sx_q_s_week3_0 {γ : Nat → Int} {A : Nat → Nat → Int} {j : Nat} {y : Int} (hG : sx_GG γ A) (c2 : sx_g2 (γ 18434) (γ 18435) (γ 18436) (0 + (1 * y + 0)) (γ 18438) (sx_au A 140 j y 140)) : ∃ a ∈ sx_r_s_week3.2, ∃ w : Nat → Int, (∀ (i : Nat) p, a.1[i]? = some p → p.2.1 ≤ w i ∧ w i ≤ p.2.2) ∧ (∀ f ∈ a.2.1, 0 ≤ sx_d (sx_th γ (j : Int) y w) f) ∧ (∀ e, a.2.2.2.head? = some e → sx_d (sx_th γ (j : Int) y w) e = y) ∧ sx_GG (sx_gu γ (sx_th γ (j : Int) y w) a.2.2.1) (if true = true then sx_au A 140 j y else A) := ⟨([], [], [(18437, (0, [(19001, 1)]))], []), List.Mem.head _, (fun _ => 0), fun i p hi => (by
    match i, hi with
    | n + 0, hi => simp at hi), fun f hf => (by cases hf), fun e he => (by cases he), ⟨hG.1, hG.2.1, c2, hG.2.2.2.1, hG.2.2.2.2.1, hG.2.2.2.2.2.1, hG.2.2.2.2.2.2.1, hG.2.2.2.2.2.2.2.1, hG.2.2.2.2.2.2.2.2.1, hG.2.2.2.2.2.2.2.2.2.1, hG.2.2.2.2.2.2.2.2.2.2.1, hG.2.2.2.2.2.2.2.2.2.2.2.1, hG.2.2.2.2.2.2.2.2.2.2.2.2.1, hG.2.2.2.2.2.2.2.2.2.2.2.2.2.1, hG.2.2.2.2.2.2.2.2.2.2.2.2.2.2.1, hG.2.2.2.2.2.2.2.2.2.2.2.2.2.2.2⟩⟩
theorem sx_q_s_week4_0 {γ : Nat → Int} {A : Nat → Nat → Int} {j : Nat} {y : Int} (hG : sx_GG γ A) (c2 : sx_g2 (γ 18434) (γ 18435) (γ 18436) (γ 18437) (0 + (1 * y + 0)) (sx_au A 140 j y 140)) : ∃ a ∈ sx_r_s_week4.2, ∃ w : Nat → Int, (∀ (i : Nat) p, a.1[i]? = some p → p.2.1 ≤ w i ∧ w i ≤ p.2.2) ∧ (∀ f ∈ a.2.1, 0 ≤ sx_d (sx_th γ (j : Int) y w) f) ∧ (∀ e, a.2.2.2.head? = some e → sx_d (sx_th γ (j : Int) y w) e = y) ∧ sx_GG (sx_gu γ (sx_th γ (j : Int) y w) a.2.2.1) (if true = true then sx_au A 140 j y else A) := ⟨([], [], [(18438, (0, [(19001, 1)]))], []), List.Mem.head _, (fun _ => 0), fun i p hi => (by
    match i, hi with
    | n + 0, hi => simp at hi), fun f hf => (by cases hf), fun e he => (by cases he), ⟨hG.1, hG.2.1, c2, hG.2.2.2.1, hG.2.2.2.2.1, hG.2.2.2.2.2.1, hG.2.2.2.2.2.2.1, hG.2.2.2.2.2.2.2.1, hG.2.2.2.2.2.2.2.2.1, hG.2.2.2.2.2.2.2.2.2.1, hG.2.2.2.2.2.2.2.2.2.2.1, hG.2.2.2.2.2.2.2.2.2.2.2.1, hG.2.2.2.2.2.2.2.2.2.2.2.2.1, hG.2.2.2.2.2.2.2.2.2.2.2.2.2.1, hG.2.2.2.2.2.2.2.2.2.2.2.2.2.2.1, hG.2.2.2.2.2.2.2.2.2.2.2.2.2.2.2⟩⟩
theorem sx_q_s_week_0 {γ : Nat → Int} {A : Nat → Nat → Int} {j : Nat} {y : Int} (hG : sx_GG γ A) (f0 : 0 ≤ 0 + (1 * (j : Int) + 0)) (f1 : 0 ≤ 0 + ((-1) * (j : Int) + 0)) (c2 : sx_g2 (0 + (1 * y + 0)) (γ 18435) (γ 18436) (γ 18437) (γ 18438) (sx_au A 140 j y 140)) : ∃ a ∈ sx_r_s_week.2, ∃ w : Nat → Int, (∀ (i : Nat) p, a.1[i]? = some p → p.2.1 ≤ w i ∧ w i ≤ p.2.2) ∧ (∀ f ∈ a.2.1, 0 ≤ sx_d (sx_th γ (j : Int) y w) f) ∧ (∀ e, a.2.2.2.head? = some e → sx_d (sx_th γ (j : Int) y w) e = y) ∧ sx_GG (sx_gu γ (sx_th γ (j : Int) y w) a.2.2.1) (if true = true then sx_au A 140 j y else A) := ⟨([], [(0, [(19000, 1)]), (0, [(19000, (-1))])], [(18434, (0, [(19001, 1)]))], []), List.Mem.head _, (fun _ => 0), fun i p hi => (by
    match i, hi with
    | n + 0, hi => simp at hi), fun f hf => (by
    simp only [List.mem_cons, List.not_mem_nil, or_false] at hf
    rcases hf with rfl | rfl
    · exact f0
    · exact f1
    ), fun e he => (by cases he), ⟨hG.1, hG.2.1, c2, hG.2.2.2.1, hG.2.2.2.2.1, hG.2.2.2.2.2.1, hG.2.2.2.2.2.2.1, hG.2.2.2.2.2.2.2.1, hG.2.2.2.2.2.2.2.2.1, hG.2.2.2.2.2.2.2.2.2.1, hG.2.2.2.2.2.2.2.2.2.2.1, hG.2.2.2.2.2.2.2.2.2.2.2.1, hG.2.2.2.2.2.2.2.2.2.2.2.2.1, hG.2.2.2.2.2.2.2.2.2.2.2.2.2.1, hG.2.2.2.2.2.2.2.2.2.2.2.2.2.2.1, hG.2.2.2.2.2.2.2.2.2.2.2.2.2.2.2⟩⟩
theorem sx_q_s_week_1 {γ : Nat → Int} {A : Nat → Nat → Int} {j : Nat} {y : Int} (hG : sx_GG γ A) (f0 : 0 ≤ (-1) + (1 * (j : Int) + 0)) (f1 : 0 ≤ 1 + ((-1) * (j : Int) + 0)) (c2 : sx_g2 (γ 18434) (0 + (1 * y + 0)) (γ 18436) (γ 18437) (γ 18438) (sx_au A 140 j y 140)) : ∃ a ∈ sx_r_s_week.2, ∃ w : Nat → Int, (∀ (i : Nat) p, a.1[i]? = some p → p.2.1 ≤ w i ∧ w i ≤ p.2.2) ∧ (∀ f ∈ a.2.1, 0 ≤ sx_d (sx_th γ (j : Int) y w) f) ∧ (∀ e, a.2.2.2.head? = some e → sx_d (sx_th γ (j : Int) y w) e = y) ∧ sx_GG (sx_gu γ (sx_th γ (j : Int) y w) a.2.2.1) (if true = true then sx_au A 140 j y else A) := ⟨([], [((-1), [(19000, 1)]), (1, [(19000, (-1))])], [(18435, (0, [(19001, 1)]))], []), List.Mem.tail _ (List.Mem.head _), (fun _ => 0), fun i p hi => (by
    match i, hi with
    | n + 0, hi => simp at hi), fun f hf => (by
    simp only [List.mem_cons, List.not_mem_nil, or_false] at hf
    rcases hf with rfl | rfl
    · exact f0
    · exact f1
    ), fun e he => (by cases he), ⟨hG.1, hG.2.1, c2, hG.2.2.2.1, hG.2.2.2.2.1, hG.2.2.2.2.2.1, hG.2.2.2.2.2.2.1, hG.2.2.2.2.2.2.2.1, hG.2.2.2.2.2.2.2.2.1, hG.2.2.2.2.2.2.2.2.2.1, hG.2.2.2.2.2.2.2.2.2.2.1, hG.2.2.2.2.2.2.2.2.2.2.2.1, hG.2.2.2.2.2.2.2.2.2.2.2.2.1, hG.2.2.2.2.2.2.2.2.2.2.2.2.2.1, hG.2.2.2.2.2.2.2.2.2.2.2.2.2.2.1, hG.2.2.2.2.2.2.2.2.2.2.2.2.2.2.2⟩⟩
theorem sx_q_s_week_2 {γ : Nat → Int} {A : Nat → Nat → Int} {j : Nat} {y : Int} (hG : sx_GG γ A) (f0 : 0 ≤ (-2) + (1 * (j : Int) + 0)) (f1 : 0 ≤ 2 + ((-1) * (j : Int) + 0)) (c2 : sx_g2 (γ 18434) (γ 18435) (0 + (1 * y + 0)) (γ 18437) (γ 18438) (sx_au A 140 j y 140)) : ∃ a ∈ sx_r_s_week.2, ∃ w : Nat → Int, (∀ (i : Nat) p, a.1[i]? = some p → p.2.1 ≤ w i ∧ w i ≤ p.2.2) ∧ (∀ f ∈ a.2.1, 0 ≤ sx_d (sx_th γ (j : Int) y w) f) ∧ (∀ e, a.2.2.2.head? = some e → sx_d (sx_th γ (j : Int) y w) e = y) ∧ sx_GG (sx_gu γ (sx_th γ (j : Int) y w) a.2.2.1) (if true = true then sx_au A 140 j y else A) := ⟨([], [((-2), [(19000, 1)]), (2, [(19000, (-1))])], [(18436, (0, [(19001, 1)]))], []), List.Mem.tail _ (List.Mem.tail _ (List.Mem.head _)), (fun _ => 0), fun i p hi => (by
    match i, hi with
    | n + 0, hi => simp at hi), fun f hf => (by
    simp only [List.mem_cons, List.not_mem_nil, or_false] at hf
    rcases hf with rfl | rfl
    · exact f0
    · exact f1
    ), fun e he => (by cases he), ⟨hG.1, hG.2.1, c2, hG.2.2.2.1, hG.2.2.2.2.1, hG.2.2.2.2.2.1, hG.2.2.2.2.2.2.1, hG.2.2.2.2.2.2.2.1, hG.2.2.2.2.2.2.2.2.1, hG.2.2.2.2.2.2.2.2.2.1, hG.2.2.2.2.2.2.2.2.2.2.1, hG.2.2.2.2.2.2.2.2.2.2.2.1, hG.2.2.2.2.2.2.2.2.2.2.2.2.1, hG.2.2.2.2.2.2.2.2.2.2.2.2.2.1, hG.2.2.2.2.2.2.2.2.2.2.2.2.2.2.1, hG.2.2.2.2.2.2.2.2.2.2.2.2.2.2.2⟩⟩
theorem sx_q_s_week_3 {γ : Nat → Int} {A : Nat → Nat → Int} {j : Nat} {y : Int} (hG : sx_GG γ A) (f0 : 0 ≤ (-3) + (1 * (j : Int) + 0)) (f1 : 0 ≤ 3 + ((-1) * (j : Int) + 0)) (c2 : sx_g2 (γ 18434) (γ 18435) (γ 18436) (0 + (1 * y + 0)) (γ 18438) (sx_au A 140 j y 140)) : ∃ a ∈ sx_r_s_week.2, ∃ w : Nat → Int, (∀ (i : Nat) p, a.1[i]? = some p → p.2.1 ≤ w i ∧ w i ≤ p.2.2) ∧ (∀ f ∈ a.2.1, 0 ≤ sx_d (sx_th γ (j : Int) y w) f) ∧ (∀ e, a.2.2.2.head? = some e → sx_d (sx_th γ (j : Int) y w) e = y) ∧ sx_GG (sx_gu γ (sx_th γ (j : Int) y w) a.2.2.1) (if true = true then sx_au A 140 j y else A) := ⟨([], [((-3), [(19000, 1)]), (3, [(19000, (-1))])], [(18437, (0, [(19001, 1)]))], []), List.Mem.tail _ (List.Mem.tail _ (List.Mem.tail _ (List.Mem.head _))), (fun _ => 0), fun i p hi => (by
    match i, hi with
    | n + 0, hi => simp at hi), fun f hf => (by
    simp only [List.mem_cons, List.not_mem_nil, or_false] at hf
    rcases hf with rfl | rfl
    · exact f0
    · exact f1
    ), fun e he => (by cases he), ⟨hG.1, hG.2.1, c2, hG.2.2.2.1, hG.2.2.2.2.1, hG.2.2.2.2.2.1, hG.2.2.2.2.2.2.1, hG.2.2.2.2.2.2.2.1, hG.2.2.2.2.2.2.2.2.1, hG.2.2.2.2.2.2.2.2.2.1, hG.2.2.2.2.2.2.2.2.2.2.1, hG.2.2.2.2.2.2.2.2.2.2.2.1, hG.2.2.2.2.2.2.2.2.2.2.2.2.1, hG.2.2.2.2.2.2.2.2.2.2.2.2.2.1, hG.2.2.2.2.2.2.2.2.2.2.2.2.2.2.1, hG.2.2.2.2.2.2.2.2.2.2.2.2.2.2.2⟩⟩
theorem sx_q_s_week_4 {γ : Nat → Int} {A : Nat → Nat → Int} {j : Nat} {y : Int} (hG : sx_GG γ A) (f0 : 0 ≤ (-4) + (1 * (j : Int) + 0)) (f1 : 0 ≤ 4 + ((-1) * (j : Int) + 0)) (c2 : sx_g2 (γ 18434) (γ 18435) (γ 18436) (γ 18437) (0 + (1 * y + 0)) (sx_au A 140 j y 140)) : ∃ a ∈ sx_r_s_week.2, ∃ w : Nat → Int, (∀ (i : Nat) p, a.1[i]? = some p → p.2.1 ≤ w i ∧ w i ≤ p.2.2) ∧ (∀ f ∈ a.2.1, 0 ≤ sx_d (sx_th γ (j : Int) y w) f) ∧ (∀ e, a.2.2.2.head? = some e → sx_d (sx_th γ (j : Int) y w) e = y) ∧ sx_GG (sx_gu γ (sx_th γ (j : Int) y w) a.2.2.1) (if true = true then sx_au A 140 j y else A) := ⟨([], [((-4), [(19000, 1)]), (4, [(19000, (-1))])], [(18438, (0, [(19001, 1)]))], []), List.Mem.tail _ (List.Mem.tail _ (List.Mem.tail _ (List.Mem.tail _ (List.Mem.head _)))), (fun _ => 0), fun i p hi => (by
    match i, hi with
    | n + 0, hi => simp at hi), fun f hf => (by
    simp only [List.mem_cons, List.not_mem_nil, or_false] at hf
    rcases hf with rfl | rfl
    · exact f0
    · exact f1
    ), fun e he => (by cases he), ⟨hG.1, hG.2.1, c2, hG.2.2.2.1, hG.2.2.2.2.1, hG.2.2.2.2.2.1, hG.2.2.2.2.2.2.1, hG.2.2.2.2.2.2.2.1, hG.2.2.2.2.2.2.2.2.1, hG.2.2.2.2.2.2.2.2.2.1, hG.2.2.2.2.2.2.2.2.2.2.1, hG.2.2.2.2.2.2.2.2.2.2.2.1, hG.2.2.2.2.2.2.2.2.2.2.2.2.1, hG.2.2.2.2.2.2.2.2.2.2.2.2.2.1, hG.2.2.2.2.2.2.2.2.2.2.2.2.2.2.1, hG.2.2.2.2.2.2.2.2.2.2.2.2.2.2.2⟩⟩
theorem sx_q_m_room_0 {γ : Nat → Int} {A : Nat → Nat → Int} {x : Int} (hG : sx_GG γ A) (c7 : sx_g6 (γ 18455) (γ 18456) (8 + 0) (0 + 0) ((-1) + 0) (0 + 0) (A 131)) : ∃ a ∈ sx_r_m_room.2, ∃ w : Nat → Int, (∀ (i : Nat) p, a.1[i]? = some p → p.2.1 ≤ w i ∧ w i ≤ p.2.2) ∧ (∀ f ∈ a.2.1, 0 ≤ sx_d (sx_th γ x 0 w) f) ∧ sx_GG (sx_gu γ (sx_th γ x 0 w) a.2.2.1) A := ⟨([], [], [(18459, ((-1), [])), (18460, (0, [])), (18457, (8, [])), (18458, (0, []))], []), List.Mem.head _, (fun _ => 0), fun i p hi => (by
    match i, hi with
    | n + 0, hi => simp at hi), fun f hf => (by cases hf), ⟨hG.1, hG.2.1, hG.2.2.1, hG.2.2.2.1, hG.2.2.2.2.1, hG.2.2.2.2.2.1, hG.2.2.2.2.2.2.1, c7, hG.2.2.2.2.2.2.2.2.1, hG.2.2.2.2.2.2.2.2.2.1, hG.2.2.2.2.2.2.2.2.2.2.1, hG.2.2.2.2.2.2.2.2.2.2.2.1, hG.2.2.2.2.2.2.2.2.2.2.2.2.1, hG.2.2.2.2.2.2.2.2.2.2.2.2.2.1, hG.2.2.2.2.2.2.2.2.2.2.2.2.2.2.1, hG.2.2.2.2.2.2.2.2.2.2.2.2.2.2.2⟩⟩
theorem sx_q_m_text_0 {γ : Nat → Int} {A : Nat → Nat → Int} {x : Int} (hG : sx_GG γ A) (c13 : sx_x3 (2560 + 0) (2560 + 0) (0 + 0) (0 + 0) (2560 + 0) (1280 + 0) (0 + 0) (2560 + 0) (2560 + 0) (1280 + 0) (96 + 0) (A 117) (A 119) (A 120) (A 121) (A 115) (A 116) (A 113) (A 114)) (c14 : sx_x4 (γ 18461) (2560 + 0) (1280 + 0) (0 + 0) (0 + 0) (0 + 0) (A 117) (A 119) (A 120) (A 121) (A 115) (A 116) (A 113) (A 114)) (c15 : sx_x5 (0 + 0) (0 + 0) (0 + 0) (A 117) (A 119) (A 120) (A 121) (A 115) (A 116) (A 113) (A 114)) : ∃ a ∈ sx_r_m_text.2, ∃ w : Nat → Int, (∀ (i : Nat) p, a.1[i]? = some p → p.2.1 ≤ w i ∧ w i ≤ p.2.2) ∧ (∀ f ∈ a.2.1, 0 ≤ sx_d (sx_th γ x 0 w) f) ∧ sx_GG (sx_gu γ (sx_th γ x 0 w) a.2.2.1) A := ⟨([], [], [(18479, (1280, [])), (18484, (96, [])), (18474, (2560, [])), (18475, (2560, [])), (18476, (0, [])), (18477, (0, [])), (18480, (0, [])), (18478, (2560, [])), (18481, (2560, [])), (18482, (2560, [])), (18483, (1280, [])), (18498, (0, [])), (18499, (0, [])), (18500, (0, [])), (18485, (2560, [])), (18486, (1280, [])), (18487, (0, [])), (18488, (0, [])), (18489, (0, []))], []), List.Mem.head _, (fun _ => 0), fun i p hi => (by
    match i, hi with
    | n + 0, hi => simp at hi), fun f hf => (by cases hf), ⟨hG.1, hG.2.1, hG.2.2.1, hG.2.2.2.1, hG.2.2.2.2.1, hG.2.2.2.2.2.1, hG.2.2.2.2.2.2.1, hG.2.2.2.2.2.2.2.1, hG.2.2.2.2.2.2.2.2.1, hG.2.2.2.2.2.2.2.2.2.1, hG.2.2.2.2.2.2.2.2.2.2.1, hG.2.2.2.2.2.2.2.2.2.2.2.1, hG.2.2.2.2.2.2.2.2.2.2.2.2.1, c13, c14, c15⟩⟩
theorem sx_q_m_copy_0 {γ : Nat → Int} {A : Nat → Nat → Int} {x : Int} (hG : sx_GG γ A) (c11 : sx_x1 (0 + (1 * x + 0)) (A 117) (A 119) (A 120) (A 121) (A 115) (A 116) (A 113) (A 114) (A 111)) (c12 : sx_x2 (0 + (1 * x + 0)) (0 + 0) (0 + 0) (0 + 0) ((-1) + 0) (0 + 0) (0 + 0) (0 + 0) ((-1) + 0) ((-1) + 0) ((-1) + 0) (0 + 0) (0 + 0) (A 117) (A 119) (A 120) (A 121) (A 116) (A 114) (A 111)) (c14 : sx_x4 (0 + (1 * x + 0)) (2560 + 0) (1280 + 0) (0 + 0) (0 + 0) (0 + 0) (A 117) (A 119) (A 120) (A 121) (A 115) (A 116) (A 113) (A 114)) (c15 : sx_x5 (0 + 0) (γ 18499) (γ 18500) (A 117) (A 119) (A 120) (A 121) (A 115) (A 116) (A 113) (A 114)) : ∃ a ∈ sx_r_m_copy.2, ∃ w : Nat → Int, (∀ (i : Nat) p, a.1[i]? = some p → p.2.1 ≤ w i ∧ w i ≤ p.2.2) ∧ (∀ f ∈ a.2.1, 0 ≤ sx_d (sx_th γ x 0 w) f) ∧ sx_GG (sx_gu γ (sx_th γ x 0 w) a.2.2.1) A := ⟨([], [], [(18461, (0, [(19000, 1)])), (18485, (2560, [])), (18486, (1280, [])), (18487, (0, [])), (18488, (0, [])), (18489, (0, [])), (18462, (0, [])), (18463, (0, [])), (18464, (0, [])), (18465, ((-1), [])), (18466, (0, [])), (18467, (0, [])), (18468, (0, [])), (18469, ((-1), [])), (18470, ((-1), [])), (18471, ((-1), [])), (18472, (0, [])), (18473, (0, [])), (18498, (0, []))], []), List.Mem.head _, (fun _ => 0), fun i p hi => (by
    match i, hi with
    | n + 0, hi => simp at hi), fun f hf => (by cases hf), ⟨hG.1, hG.2.1, hG.2.2.1, hG.2.2.2.1, hG.2.2.2.2.1, hG.2.2.2.2.2.1, hG.2.2.2.2.2.2.1, hG.2.2.2.2.2.2.2.1, hG.2.2.2.2.2.2.2.2.1, hG.2.2.2.2.2.2.2.2.2.1, hG.2.2.2.2.2.2.2.2.2.2.1, c11, c12, hG.2.2.2.2.2.2.2.2.2.2.2.2.2.1, c14, c15⟩⟩
theorem sx_q_m_keep_0 {γ : Nat → Int} {A : Nat → Nat → Int} {x : Int} (hG : sx_GG γ A) (c10 : sx_g8 (0 + (1 * γ 18490 + 0)) (0 + (1 * γ 18491 + 0)) (0 + (1 * γ 18492 + 0))) : ∃ a ∈ sx_r_m_keep.2, ∃ w : Nat → Int, (∀ (i : Nat) p, a.1[i]? = some p → p.2.1 ≤ w i ∧ w i ≤ p.2.2) ∧ (∀ f ∈ a.2.1, 0 ≤ sx_d (sx_th γ x 0 w) f) ∧ sx_GG (sx_gu γ (sx_th γ x 0 w) a.2.2.1) A := ⟨([], [], [(18493, (0, [(18490, 1)])), (18494, (0, [(18491, 1)])), (18495, (0, [(18492, 1)]))], []), List.Mem.head _, (fun _ => 0), fun i p hi => (by
    match i, hi with
    | n + 0, hi => simp at hi), fun f hf => (by cases hf), ⟨hG.1, hG.2.1, hG.2.2.1, hG.2.2.2.1, hG.2.2.2.2.1, hG.2.2.2.2.2.1, hG.2.2.2.2.2.2.1, hG.2.2.2.2.2.2.2.1, hG.2.2.2.2.2.2.2.2.1, hG.2.2.2.2.2.2.2.2.2.1, c10, hG.2.2.2.2.2.2.2.2.2.2.2.1, hG.2.2.2.2.2.2.2.2.2.2.2.2.1, hG.2.2.2.2.2.2.2.2.2.2.2.2.2.1, hG.2.2.2.2.2.2.2.2.2.2.2.2.2.2.1, hG.2.2.2.2.2.2.2.2.2.2.2.2.2.2.2⟩⟩
theorem sx_q_a_kept_0 {γ : Nat → Int} {A : Nat → Nat → Int} {x y : Int} (hG : sx_GG γ A) (f0 : 0 ≤ 0 + ((-1) * γ 18495 + (1 * x + 0))) (f1 : 0 ≤ 0 + ((-1) * γ 18495 + (1 * y + 0))) (hv : 0 + (1 * γ 18495 + 0) = ((x.toNat &&& y.toNat : Nat) : Int)) : ∃ a ∈ sx_r_a_kept.2, ∃ w : Nat → Int, (∀ (i : Nat) p, a.1[i]? = some p → p.2.1 ≤ w i ∧ w i ≤ p.2.2) ∧ (∀ f ∈ a.2.1, 0 ≤ sx_d (sx_th γ x y w) f) ∧ (∃ e, a.2.2.2.head? = some e ∧ sx_d (sx_th γ x y w) e = ((x.toNat &&& y.toNat : Nat) : Int)) ∧ sx_GG (sx_gu γ (sx_th γ x y w) a.2.2.1) A := ⟨([], [(0, [(18495, (-1)), (19000, 1)]), (0, [(18495, (-1)), (19001, 1)])], [], [(0, [(18495, 1)])]), List.Mem.head _, (fun _ => 0), fun i p hi => (by
    match i, hi with
    | n + 0, hi => simp at hi), fun f hf => (by
    simp only [List.mem_cons, List.not_mem_nil, or_false] at hf
    rcases hf with rfl | rfl
    · exact f0
    · exact f1
    ), ⟨_, rfl, hv⟩, ⟨hG.1, hG.2.1, hG.2.2.1, hG.2.2.2.1, hG.2.2.2.2.1, hG.2.2.2.2.2.1, hG.2.2.2.2.2.2.1, hG.2.2.2.2.2.2.2.1, hG.2.2.2.2.2.2.2.2.1, hG.2.2.2.2.2.2.2.2.2.1, hG.2.2.2.2.2.2.2.2.2.2.1, hG.2.2.2.2.2.2.2.2.2.2.2.1, hG.2.2.2.2.2.2.2.2.2.2.2.2.1, hG.2.2.2.2.2.2.2.2.2.2.2.2.2.1, hG.2.2.2.2.2.2.2.2.2.2.2.2.2.2.1, hG.2.2.2.2.2.2.2.2.2.2.2.2.2.2.2⟩⟩
theorem sx_q_a_new_0 {γ : Nat → Int} {A : Nat → Nat → Int} {x y : Int} (hG : sx_GG γ A) (w : Nat → Int) (hw0 : 0 ≤ w 0 ∧ w 0 ≤ 255) (f0 : 0 ≤ 0 + (1 * x + ((-1) * w 0 + 0))) (f1 : 0 ≤ 0 + (1 * y + ((-1) * w 0 + 0))) (hv : 0 + (1 * w 0 + 0) = ((x.toNat &&& y.toNat : Nat) : Int)) (c9 : sx_g8 (0 + (1 * x + 0)) (0 + (1 * y + 0)) (0 + (1 * w 0 + 0))) : ∃ a ∈ sx_r_a_new.2, ∃ w : Nat → Int, (∀ (i : Nat) p, a.1[i]? = some p → p.2.1 ≤ w i ∧ w i ≤ p.2.2) ∧ (∀ f ∈ a.2.1, 0 ≤ sx_d (sx_th γ x y w) f) ∧ (∃ e, a.2.2.2.head? = some e ∧ sx_d (sx_th γ x y w) e = ((x.toNat &&& y.toNat : Nat) : Int)) ∧ sx_GG (sx_gu γ (sx_th γ x y w) a.2.2.1) A := ⟨([(0, 0, 255)], [(0, [(19000, 1), (19002, (-1))]), (0, [(19001, 1), (19002, (-1))])], [(18490, (0, [(19000, 1)])), (18491, (0, [(19001, 1)])), (18492, (0, [(19002, 1)]))], [(0, [(19002, 1)])]), List.Mem.head _, w, fun i p hi => (by
    match i, hi with
    | 0, hi => cases hi; exact hw0
    | n + 1, hi => simp at hi), fun f hf => (by
    simp only [List.mem_cons, List.not_mem_nil, or_false] at hf
    rcases hf with rfl | rfl
    · exact f0
    · exact f1
    ), ⟨_, rfl, hv⟩, ⟨hG.1, hG.2.1, hG.2.2.1, hG.2.2.2.1, hG.2.2.2.2.1, hG.2.2.2.2.2.1, hG.2.2.2.2.2.2.1, hG.2.2.2.2.2.2.2.1, hG.2.2.2.2.2.2.2.2.1, c9, hG.2.2.2.2.2.2.2.2.2.2.1, hG.2.2.2.2.2.2.2.2.2.2.2.1, hG.2.2.2.2.2.2.2.2.2.2.2.2.1, hG.2.2.2.2.2.2.2.2.2.2.2.2.2.1, hG.2.2.2.2.2.2.2.2.2.2.2.2.2.2.1, hG.2.2.2.2.2.2.2.2.2.2.2.2.2.2.2⟩⟩
