/-! WHAT IS TO BE SHOWN of each rule -/
theorem sx_gr_W0 {γ : Nat → Int} (h : sx_gran γ) : 0 ≤ γ 18432 ∧ γ 18432 ≤ 255 := by
  have h1 := h 18432 (by decide)
  rw [show sx_sr 18432 = (0, 255) from by decide +kernel] at h1
  exact h1
theorem sx_gr_G0 {γ : Nat → Int} (h : sx_gran γ) : 0 ≤ γ 18433 ∧ γ 18433 ≤ 255 := by
  have h1 := h 18433 (by decide)
  rw [show sx_sr 18433 = (0, 255) from by decide +kernel] at h1
  exact h1
theorem sx_gr_T0 {γ : Nat → Int} (h : sx_gran γ) : (-1) ≤ γ 18434 ∧ γ 18434 ≤ 4140 := by
  have h1 := h 18434 (by decide)
  rw [show sx_sr 18434 = ((-1), 4140) from by decide +kernel] at h1
  exact h1
theorem sx_gr_T1 {γ : Nat → Int} (h : sx_gran γ) : (-1) ≤ γ 18435 ∧ γ 18435 ≤ 4140 := by
  have h1 := h 18435 (by decide)
  rw [show sx_sr 18435 = ((-1), 4140) from by decide +kernel] at h1
  exact h1
theorem sx_gr_T2 {γ : Nat → Int} (h : sx_gran γ) : (-1) ≤ γ 18436 ∧ γ 18436 ≤ 4140 := by
  have h1 := h 18436 (by decide)
  rw [show sx_sr 18436 = ((-1), 4140) from by decide +kernel] at h1
  exact h1
theorem sx_gr_T3 {γ : Nat → Int} (h : sx_gran γ) : (-1) ≤ γ 18437 ∧ γ 18437 ≤ 4140 := by
  have h1 := h 18437 (by decide)
  rw [show sx_sr 18437 = ((-1), 4140) from by decide +kernel] at h1
  exact h1
theorem sx_gr_T4 {γ : Nat → Int} (h : sx_gran γ) : (-1) ≤ γ 18438 ∧ γ 18438 ≤ 4140 := by
  have h1 := h 18438 (by decide)
  rw [show sx_sr 18438 = ((-1), 4140) from by decide +kernel] at h1
  exact h1
theorem sx_gr_zI0 {γ : Nat → Int} (h : sx_gran γ) : 0 ≤ γ 18439 ∧ γ 18439 ≤ 1 := by
  have h1 := h 18439 (by decide)
  rw [show sx_sr 18439 = (0, 1) from by decide +kernel] at h1
  exact h1
theorem sx_gr_zI1 {γ : Nat → Int} (h : sx_gran γ) : 0 ≤ γ 18440 ∧ γ 18440 ≤ 1 := by
  have h1 := h 18440 (by decide)
  rw [show sx_sr 18440 = (0, 1) from by decide +kernel] at h1
  exact h1
theorem sx_gr_zI2 {γ : Nat → Int} (h : sx_gran γ) : 0 ≤ γ 18441 ∧ γ 18441 ≤ 1 := by
  have h1 := h 18441 (by decide)
  rw [show sx_sr 18441 = (0, 1) from by decide +kernel] at h1
  exact h1
theorem sx_gr_zI3 {γ : Nat → Int} (h : sx_gran γ) : 0 ≤ γ 18442 ∧ γ 18442 ≤ 1 := by
  have h1 := h 18442 (by decide)
  rw [show sx_sr 18442 = (0, 1) from by decide +kernel] at h1
  exact h1
theorem sx_gr_zI4 {γ : Nat → Int} (h : sx_gran γ) : 0 ≤ γ 18443 ∧ γ 18443 ≤ 1 := by
  have h1 := h 18443 (by decide)
  rw [show sx_sr 18443 = (0, 1) from by decide +kernel] at h1
  exact h1
theorem sx_gr_zI5 {γ : Nat → Int} (h : sx_gran γ) : 0 ≤ γ 18444 ∧ γ 18444 ≤ 1 := by
  have h1 := h 18444 (by decide)
  rw [show sx_sr 18444 = (0, 1) from by decide +kernel] at h1
  exact h1
theorem sx_gr_zI6 {γ : Nat → Int} (h : sx_gran γ) : 0 ≤ γ 18445 ∧ γ 18445 ≤ 1 := by
  have h1 := h 18445 (by decide)
  rw [show sx_sr 18445 = (0, 1) from by decide +kernel] at h1
  exact h1
theorem sx_gr_zS0 {γ : Nat → Int} (h : sx_gran γ) : 0 ≤ γ 18446 ∧ γ 18446 ≤ 1 := by
  have h1 := h 18446 (by decide)
  rw [show sx_sr 18446 = (0, 1) from by decide +kernel] at h1
  exact h1
theorem sx_gr_zS1 {γ : Nat → Int} (h : sx_gran γ) : 0 ≤ γ 18447 ∧ γ 18447 ≤ 1 := by
  have h1 := h 18447 (by decide)
  rw [show sx_sr 18447 = (0, 1) from by decide +kernel] at h1
  exact h1
theorem sx_gr_zS2 {γ : Nat → Int} (h : sx_gran γ) : 0 ≤ γ 18448 ∧ γ 18448 ≤ 1 := by
  have h1 := h 18448 (by decide)
  rw [show sx_sr 18448 = (0, 1) from by decide +kernel] at h1
  exact h1
theorem sx_gr_zS3 {γ : Nat → Int} (h : sx_gran γ) : 0 ≤ γ 18449 ∧ γ 18449 ≤ 1 := by
  have h1 := h 18449 (by decide)
  rw [show sx_sr 18449 = (0, 1) from by decide +kernel] at h1
  exact h1
theorem sx_gr_zS4 {γ : Nat → Int} (h : sx_gran γ) : 0 ≤ γ 18450 ∧ γ 18450 ≤ 1 := by
  have h1 := h 18450 (by decide)
  rw [show sx_sr 18450 = (0, 1) from by decide +kernel] at h1
  exact h1
theorem sx_gr_zS5 {γ : Nat → Int} (h : sx_gran γ) : 0 ≤ γ 18451 ∧ γ 18451 ≤ 1 := by
  have h1 := h 18451 (by decide)
  rw [show sx_sr 18451 = (0, 1) from by decide +kernel] at h1
  exact h1
theorem sx_gr_zS6 {γ : Nat → Int} (h : sx_gran γ) : 0 ≤ γ 18452 ∧ γ 18452 ≤ 1 := by
  have h1 := h 18452 (by decide)
  rw [show sx_sr 18452 = (0, 1) from by decide +kernel] at h1
  exact h1
theorem sx_gr_B1 {γ : Nat → Int} (h : sx_gran γ) : 0 ≤ γ 18453 ∧ γ 18453 ≤ 8 := by
  have h1 := h 18453 (by decide)
  rw [show sx_sr 18453 = (0, 8) from by decide +kernel] at h1
  exact h1
theorem sx_gr_B2 {γ : Nat → Int} (h : sx_gran γ) : 0 ≤ γ 18454 ∧ γ 18454 ≤ 8 := by
  have h1 := h 18454 (by decide)
  rw [show sx_sr 18454 = (0, 8) from by decide +kernel] at h1
  exact h1
theorem sx_gr_VU {γ : Nat → Int} (h : sx_gran γ) : 0 ≤ γ 18455 ∧ γ 18455 ≤ 8 := by
  have h1 := h 18455 (by decide)
  rw [show sx_sr 18455 = (0, 8) from by decide +kernel] at h1
  exact h1
theorem sx_gr_K {γ : Nat → Int} (h : sx_gran γ) : 0 ≤ γ 18456 ∧ γ 18456 ≤ 4139 := by
  have h1 := h 18456 (by decide)
  rw [show sx_sr 18456 = (0, 4139) from by decide +kernel] at h1
  exact h1
theorem sx_gr_LI {γ : Nat → Int} (h : sx_gran γ) : 0 ≤ γ 18457 ∧ γ 18457 ≤ 8 := by
  have h1 := h 18457 (by decide)
  rw [show sx_sr 18457 = (0, 8) from by decide +kernel] at h1
  exact h1
theorem sx_gr_LV {γ : Nat → Int} (h : sx_gran γ) : 0 ≤ γ 18458 ∧ γ 18458 ≤ 9 := by
  have h1 := h 18458 (by decide)
  rw [show sx_sr 18458 = (0, 9) from by decide +kernel] at h1
  exact h1
theorem sx_gr_MX {γ : Nat → Int} (h : sx_gran γ) : (-1) ≤ γ 18459 ∧ γ 18459 ≤ 9 := by
  have h1 := h 18459 (by decide)
  rw [show sx_sr 18459 = ((-1), 9) from by decide +kernel] at h1
  exact h1
theorem sx_gr_MI {γ : Nat → Int} (h : sx_gran γ) : 0 ≤ γ 18460 ∧ γ 18460 ≤ 8 := by
  have h1 := h 18460 (by decide)
  rw [show sx_sr 18460 = (0, 8) from by decide +kernel] at h1
  exact h1
theorem sx_gr_D {γ : Nat → Int} (h : sx_gran γ) : (-1) ≤ γ 18461 ∧ γ 18461 ≤ 7 := by
  have h1 := h 18461 (by decide)
  rw [show sx_sr 18461 = ((-1), 7) from by decide +kernel] at h1
  exact h1
theorem sx_gr_rK {γ : Nat → Int} (h : sx_gran γ) : 0 ≤ γ 18462 ∧ γ 18462 ≤ 2900 := by
  have h1 := h 18462 (by decide)
  rw [show sx_sr 18462 = (0, 2900) from by decide +kernel] at h1
  exact h1
theorem sx_gr_rV {γ : Nat → Int} (h : sx_gran γ) : 0 ≤ γ 18463 ∧ γ 18463 ≤ 400 := by
  have h1 := h 18463 (by decide)
  rw [show sx_sr 18463 = (0, 400) from by decide +kernel] at h1
  exact h1
theorem sx_gr_rE {γ : Nat → Int} (h : sx_gran γ) : 0 ≤ γ 18464 ∧ γ 18464 ≤ 2900 := by
  have h1 := h 18464 (by decide)
  rw [show sx_sr 18464 = (0, 2900) from by decide +kernel] at h1
  exact h1
theorem sx_gr_rQ {γ : Nat → Int} (h : sx_gran γ) : (-1) ≤ γ 18465 ∧ γ 18465 ≤ 1999 := by
  have h1 := h 18465 (by decide)
  rw [show sx_sr 18465 = ((-1), 1999) from by decide +kernel] at h1
  exact h1
theorem sx_gr_rL {γ : Nat → Int} (h : sx_gran γ) : 0 ≤ γ 18466 ∧ γ 18466 ≤ 2900 := by
  have h1 := h 18466 (by decide)
  rw [show sx_sr 18466 = (0, 2900) from by decide +kernel] at h1
  exact h1
theorem sx_gr_rT0 {γ : Nat → Int} (h : sx_gran γ) : 0 ≤ γ 18467 ∧ γ 18467 ≤ 2000 := by
  have h1 := h 18467 (by decide)
  rw [show sx_sr 18467 = (0, 2000) from by decide +kernel] at h1
  exact h1
theorem sx_gr_rT1 {γ : Nat → Int} (h : sx_gran γ) : 0 ≤ γ 18468 ∧ γ 18468 ≤ 2000 := by
  have h1 := h 18468 (by decide)
  rw [show sx_sr 18468 = (0, 2000) from by decide +kernel] at h1
  exact h1
theorem sx_gr_rSq {γ : Nat → Int} (h : sx_gran γ) : (-1) ≤ γ 18469 ∧ γ 18469 ≤ 107 := by
  have h1 := h 18469 (by decide)
  rw [show sx_sr 18469 = ((-1), 107) from by decide +kernel] at h1
  exact h1
theorem sx_gr_rSs {γ : Nat → Int} (h : sx_gran γ) : (-1) ≤ γ 18470 ∧ γ 18470 ≤ 107 := by
  have h1 := h 18470 (by decide)
  rw [show sx_sr 18470 = ((-1), 107) from by decide +kernel] at h1
  exact h1
theorem sx_gr_rP {γ : Nat → Int} (h : sx_gran γ) : (-1) ≤ γ 18471 ∧ γ 18471 ≤ 7 := by
  have h1 := h 18471 (by decide)
  rw [show sx_sr 18471 = ((-1), 7) from by decide +kernel] at h1
  exact h1
theorem sx_gr_rN {γ : Nat → Int} (h : sx_gran γ) : 0 ≤ γ 18472 ∧ γ 18472 ≤ 12 := by
  have h1 := h 18472 (by decide)
  rw [show sx_sr 18472 = (0, 12) from by decide +kernel] at h1
  exact h1
theorem sx_gr_rF {γ : Nat → Int} (h : sx_gran γ) : 0 ≤ γ 18473 ∧ γ 18473 ≤ 2900 := by
  have h1 := h 18473 (by decide)
  rw [show sx_sr 18473 = (0, 2900) from by decide +kernel] at h1
  exact h1
theorem sx_gr_w0 {γ : Nat → Int} (h : sx_gran γ) : 2560 ≤ γ 18474 ∧ γ 18474 ≤ 2900 := by
  have h1 := h 18474 (by decide)
  rw [show sx_sr 18474 = (2560, 2900) from by decide +kernel] at h1
  exact h1
theorem sx_gr_w1 {γ : Nat → Int} (h : sx_gran γ) : 2560 ≤ γ 18475 ∧ γ 18475 ≤ 2900 := by
  have h1 := h 18475 (by decide)
  rw [show sx_sr 18475 = (2560, 2900) from by decide +kernel] at h1
  exact h1
theorem sx_gr_wh {γ : Nat → Int} (h : sx_gran γ) : 0 ≤ γ 18476 ∧ γ 18476 ≤ 400 := by
  have h1 := h 18476 (by decide)
  rw [show sx_sr 18476 = (0, 400) from by decide +kernel] at h1
  exact h1
theorem sx_gr_wp {γ : Nat → Int} (h : sx_gran γ) : 0 ≤ γ 18477 ∧ γ 18477 ≤ 2 := by
  have h1 := h 18477 (by decide)
  rw [show sx_sr 18477 = (0, 2) from by decide +kernel] at h1
  exact h1
theorem sx_gr_wa {γ : Nat → Int} (h : sx_gran γ) : 2560 ≤ γ 18478 ∧ γ 18478 ≤ 2900 := by
  have h1 := h 18478 (by decide)
  rw [show sx_sr 18478 = (2560, 2900) from by decide +kernel] at h1
  exact h1
theorem sx_gr_tE {γ : Nat → Int} (h : sx_gran γ) : 1280 ≤ γ 18479 ∧ γ 18479 ≤ 2000 := by
  have h1 := h 18479 (by decide)
  rw [show sx_sr 18479 = (1280, 2000) from by decide +kernel] at h1
  exact h1
theorem sx_gr_sp {γ : Nat → Int} (h : sx_gran γ) : 0 ≤ γ 18480 ∧ γ 18480 ≤ 3 := by
  have h1 := h 18480 (by decide)
  rw [show sx_sr 18480 = (0, 3) from by decide +kernel] at h1
  exact h1
theorem sx_gr_sa {γ : Nat → Int} (h : sx_gran γ) : 2560 ≤ γ 18481 ∧ γ 18481 ≤ 2900 := by
  have h1 := h 18481 (by decide)
  rw [show sx_sr 18481 = (2560, 2900) from by decide +kernel] at h1
  exact h1
theorem sx_gr_sb {γ : Nat → Int} (h : sx_gran γ) : 2560 ≤ γ 18482 ∧ γ 18482 ≤ 2900 := by
  have h1 := h 18482 (by decide)
  rw [show sx_sr 18482 = (2560, 2900) from by decide +kernel] at h1
  exact h1
theorem sx_gr_tB {γ : Nat → Int} (h : sx_gran γ) : 1280 ≤ γ 18483 ∧ γ 18483 ≤ 2000 := by
  have h1 := h 18483 (by decide)
  rw [show sx_sr 18483 = (1280, 2000) from by decide +kernel] at h1
  exact h1
theorem sx_gr_sE {γ : Nat → Int} (h : sx_gran γ) : 96 ≤ γ 18484 ∧ γ 18484 ≤ 108 := by
  have h1 := h 18484 (by decide)
  rw [show sx_sr 18484 = (96, 108) from by decide +kernel] at h1
  exact h1
theorem sx_gr_cS {γ : Nat → Int} (h : sx_gran γ) : 2560 ≤ γ 18485 ∧ γ 18485 ≤ 2900 := by
  have h1 := h 18485 (by decide)
  rw [show sx_sr 18485 = (2560, 2900) from by decide +kernel] at h1
  exact h1
theorem sx_gr_cO {γ : Nat → Int} (h : sx_gran γ) : 1280 ≤ γ 18486 ∧ γ 18486 ≤ 2000 := by
  have h1 := h 18486 (by decide)
  rw [show sx_sr 18486 = (1280, 2000) from by decide +kernel] at h1
  exact h1
theorem sx_gr_cp {γ : Nat → Int} (h : sx_gran γ) : 0 ≤ γ 18487 ∧ γ 18487 ≤ 2 := by
  have h1 := h 18487 (by decide)
  rw [show sx_sr 18487 = (0, 2) from by decide +kernel] at h1
  exact h1
theorem sx_gr_cY {γ : Nat → Int} (h : sx_gran γ) : 0 ≤ γ 18488 ∧ γ 18488 ≤ 12 := by
  have h1 := h 18488 (by decide)
  rw [show sx_sr 18488 = (0, 12) from by decide +kernel] at h1
  exact h1
theorem sx_gr_yp {γ : Nat → Int} (h : sx_gran γ) : 0 ≤ γ 18489 ∧ γ 18489 ≤ 3 := by
  have h1 := h 18489 (by decide)
  rw [show sx_sr 18489 = (0, 3) from by decide +kernel] at h1
  exact h1
theorem sx_gr_UA {γ : Nat → Int} (h : sx_gran γ) : 0 ≤ γ 18490 ∧ γ 18490 ≤ 255 := by
  have h1 := h 18490 (by decide)
  rw [show sx_sr 18490 = (0, 255) from by decide +kernel] at h1
  exact h1
theorem sx_gr_UB {γ : Nat → Int} (h : sx_gran γ) : 0 ≤ γ 18491 ∧ γ 18491 ≤ 255 := by
  have h1 := h 18491 (by decide)
  rw [show sx_sr 18491 = (0, 255) from by decide +kernel] at h1
  exact h1
theorem sx_gr_UU {γ : Nat → Int} (h : sx_gran γ) : 0 ≤ γ 18492 ∧ γ 18492 ≤ 255 := by
  have h1 := h 18492 (by decide)
  rw [show sx_sr 18492 = (0, 255) from by decide +kernel] at h1
  exact h1
theorem sx_gr_KA {γ : Nat → Int} (h : sx_gran γ) : 0 ≤ γ 18493 ∧ γ 18493 ≤ 255 := by
  have h1 := h 18493 (by decide)
  rw [show sx_sr 18493 = (0, 255) from by decide +kernel] at h1
  exact h1
theorem sx_gr_KB {γ : Nat → Int} (h : sx_gran γ) : 0 ≤ γ 18494 ∧ γ 18494 ≤ 255 := by
  have h1 := h 18494 (by decide)
  rw [show sx_sr 18494 = (0, 255) from by decide +kernel] at h1
  exact h1
theorem sx_gr_KU {γ : Nat → Int} (h : sx_gran γ) : 0 ≤ γ 18495 ∧ γ 18495 ≤ 255 := by
  have h1 := h 18495 (by decide)
  rw [show sx_sr 18495 = (0, 255) from by decide +kernel] at h1
  exact h1
theorem sx_gr_tI {γ : Nat → Int} (h : sx_gran γ) : (-1) ≤ γ 18496 ∧ γ 18496 ≤ 299 := by
  have h1 := h 18496 (by decide)
  rw [show sx_sr 18496 = ((-1), 299) from by decide +kernel] at h1
  exact h1
theorem sx_gr_tV {γ : Nat → Int} (h : sx_gran γ) : (-128) ≤ γ 18497 ∧ γ 18497 ≤ 127 := by
  have h1 := h 18497 (by decide)
  rw [show sx_sr 18497 = ((-128), 127) from by decide +kernel] at h1
  exact h1
theorem sx_gr_lw {γ : Nat → Int} (h : sx_gran γ) : 0 ≤ γ 18498 ∧ γ 18498 ≤ 8 := by
  have h1 := h 18498 (by decide)
  rw [show sx_sr 18498 = (0, 8) from by decide +kernel] at h1
  exact h1
theorem sx_gr_lI {γ : Nat → Int} (h : sx_gran γ) : 0 ≤ γ 18499 ∧ γ 18499 ≤ 2900 := by
  have h1 := h 18499 (by decide)
  rw [show sx_sr 18499 = (0, 2900) from by decide +kernel] at h1
  exact h1
theorem sx_gr_lV {γ : Nat → Int} (h : sx_gran γ) : (-2147483648) ≤ γ 18500 ∧ γ 18500 ≤ 2147483647 := by
  have h1 := h 18500 (by decide)
  rw [show sx_sr 18500 = ((-2147483648), 2147483647) from by decide +kernel] at h1
  exact h1
theorem sx_gr_S0 {γ : Nat → Int} (h : sx_gran γ) : 0 ≤ γ 18501 ∧ γ 18501 ≤ 3 := by
  have h1 := h 18501 (by decide)
  rw [show sx_sr 18501 = (0, 3) from by decide +kernel] at h1
  exact h1
theorem sx_gr_S1 {γ : Nat → Int} (h : sx_gran γ) : 0 ≤ γ 18502 ∧ γ 18502 ≤ 3 := by
  have h1 := h 18502 (by decide)
  rw [show sx_sr 18502 = (0, 3) from by decide +kernel] at h1
  exact h1
theorem sx_gr_S2 {γ : Nat → Int} (h : sx_gran γ) : 0 ≤ γ 18503 ∧ γ 18503 ≤ 3 := by
  have h1 := h 18503 (by decide)
  rw [show sx_sr 18503 = (0, 3) from by decide +kernel] at h1
  exact h1
theorem sx_gr_S3 {γ : Nat → Int} (h : sx_gran γ) : 0 ≤ γ 18504 ∧ γ 18504 ≤ 3 := by
  have h1 := h 18504 (by decide)
  rw [show sx_sr 18504 = (0, 3) from by decide +kernel] at h1
  exact h1
theorem sx_gr_M0 {γ : Nat → Int} (h : sx_gran γ) : (-1) ≤ γ 18505 ∧ γ 18505 ≤ 60 := by
  have h1 := h 18505 (by decide)
  rw [show sx_sr 18505 = ((-1), 60) from by decide +kernel] at h1
  exact h1
theorem sx_gr_M1 {γ : Nat → Int} (h : sx_gran γ) : (-1) ≤ γ 18506 ∧ γ 18506 ≤ 60 := by
  have h1 := h 18506 (by decide)
  rw [show sx_sr 18506 = ((-1), 60) from by decide +kernel] at h1
  exact h1
theorem sx_gr_M2 {γ : Nat → Int} (h : sx_gran γ) : (-1) ≤ γ 18507 ∧ γ 18507 ≤ 60 := by
  have h1 := h 18507 (by decide)
  rw [show sx_sr 18507 = ((-1), 60) from by decide +kernel] at h1
  exact h1
theorem sx_gr_M3 {γ : Nat → Int} (h : sx_gran γ) : (-1) ≤ γ 18508 ∧ γ 18508 ≤ 60 := by
  have h1 := h 18508 (by decide)
  rw [show sx_sr 18508 = ((-1), 60) from by decide +kernel] at h1
  exact h1
theorem sx_gr_hX {γ : Nat → Int} (h : sx_gran γ) : 0 ≤ γ 18509 ∧ γ 18509 ≤ 9223372036854775807 := by
  have h1 := h 18509 (by decide)
  rw [show sx_sr 18509 = (0, 9223372036854775807) from by decide +kernel] at h1
  exact h1
theorem sx_gr_hQ {γ : Nat → Int} (h : sx_gran γ) : 0 ≤ γ 18510 ∧ γ 18510 ≤ 9223372036854775807 := by
  have h1 := h 18510 (by decide)
  rw [show sx_sr 18510 = (0, 9223372036854775807) from by decide +kernel] at h1
  exact h1
theorem sx_gr_qN {γ : Nat → Int} (h : sx_gran γ) : 0 ≤ γ 18511 ∧ γ 18511 ≤ 9223372036854775807 := by
  have h1 := h 18511 (by decide)
  rw [show sx_sr 18511 = (0, 9223372036854775807) from by decide +kernel] at h1
  exact h1
theorem sx_gr_qL {γ : Nat → Int} (h : sx_gran γ) : 0 ≤ γ 18512 ∧ γ 18512 ≤ 9223372036854775807 := by
  have h1 := h 18512 (by decide)
  rw [show sx_sr 18512 = (0, 9223372036854775807) from by decide +kernel] at h1
  exact h1
theorem sx_gr_qB {γ : Nat → Int} (h : sx_gran γ) : 0 ≤ γ 18513 ∧ γ 18513 ≤ 1 := by
  have h1 := h 18513 (by decide)
  rw [show sx_sr 18513 = (0, 1) from by decide +kernel] at h1
  exact h1
theorem sx_gr_fX {γ : Nat → Int} (h : sx_gran γ) : (-9223372036854775808) ≤ γ 18514 ∧ γ 18514 ≤ 9223372036854775807 := by
  have h1 := h 18514 (by decide)
  rw [show sx_sr 18514 = ((-9223372036854775808), 9223372036854775807) from by decide +kernel] at h1
  exact h1
theorem sx_gr_fM {γ : Nat → Int} (h : sx_gran γ) : 0 ≤ γ 18515 ∧ γ 18515 ≤ 8 := by
  have h1 := h 18515 (by decide)
  rw [show sx_sr 18515 = (0, 8) from by decide +kernel] at h1
  exact h1
theorem sx_gr_fI {γ : Nat → Int} (h : sx_gran γ) : (-1) ≤ γ 18516 ∧ γ 18516 ≤ 7 := by
  have h1 := h 18516 (by decide)
  rw [show sx_sr 18516 = ((-1), 7) from by decide +kernel] at h1
  exact h1
theorem sx_gr_gX {γ : Nat → Int} (h : sx_gran γ) : (-9223372036854775808) ≤ γ 18517 ∧ γ 18517 ≤ 9223372036854775807 := by
  have h1 := h 18517 (by decide)
  rw [show sx_sr 18517 = ((-9223372036854775808), 9223372036854775807) from by decide +kernel] at h1
  exact h1
theorem sx_gr_gM {γ : Nat → Int} (h : sx_gran γ) : 0 ≤ γ 18518 ∧ γ 18518 ≤ 8 := by
  have h1 := h 18518 (by decide)
  rw [show sx_sr 18518 = (0, 8) from by decide +kernel] at h1
  exact h1
theorem sx_gr_gI {γ : Nat → Int} (h : sx_gran γ) : (-1) ≤ γ 18519 ∧ γ 18519 ≤ 7 := by
  have h1 := h 18519 (by decide)
  rw [show sx_sr 18519 = ((-1), 7) from by decide +kernel] at h1
  exact h1
theorem sx_gr_N0 {γ : Nat → Int} (h : sx_gran γ) : (-9223372036854775808) ≤ γ 18520 ∧ γ 18520 ≤ 9223372036854775807 := by
  have h1 := h 18520 (by decide)
  rw [show sx_sr 18520 = ((-9223372036854775808), 9223372036854775807) from by decide +kernel] at h1
  exact h1
theorem sx_gr_N1 {γ : Nat → Int} (h : sx_gran γ) : (-9223372036854775808) ≤ γ 18521 ∧ γ 18521 ≤ 9223372036854775807 := by
  have h1 := h 18521 (by decide)
  rw [show sx_sr 18521 = ((-9223372036854775808), 9223372036854775807) from by decide +kernel] at h1
  exact h1
theorem sx_gr_N2 {γ : Nat → Int} (h : sx_gran γ) : (-9223372036854775808) ≤ γ 18522 ∧ γ 18522 ≤ 9223372036854775807 := by
  have h1 := h 18522 (by decide)
  rw [show sx_sr 18522 = ((-9223372036854775808), 9223372036854775807) from by decide +kernel] at h1
  exact h1
theorem sx_gr_N3 {γ : Nat → Int} (h : sx_gran γ) : (-9223372036854775808) ≤ γ 18523 ∧ γ 18523 ≤ 9223372036854775807 := by
  have h1 := h 18523 (by decide)
  rw [show sx_sr 18523 = ((-9223372036854775808), 9223372036854775807) from by decide +kernel] at h1
  exact h1
theorem sx_gr_N4 {γ : Nat → Int} (h : sx_gran γ) : (-9223372036854775808) ≤ γ 18524 ∧ γ 18524 ≤ 9223372036854775807 := by
  have h1 := h 18524 (by decide)
  rw [show sx_sr 18524 = ((-9223372036854775808), 9223372036854775807) from by decide +kernel] at h1
  exact h1
theorem sx_gr_N5 {γ : Nat → Int} (h : sx_gran γ) : (-9223372036854775808) ≤ γ 18525 ∧ γ 18525 ≤ 9223372036854775807 := by
  have h1 := h 18525 (by decide)
  rw [show sx_sr 18525 = ((-9223372036854775808), 9223372036854775807) from by decide +kernel] at h1
  exact h1
theorem sx_gr_N6 {γ : Nat → Int} (h : sx_gran γ) : (-9223372036854775808) ≤ γ 18526 ∧ γ 18526 ≤ 9223372036854775807 := by
  have h1 := h 18526 (by decide)
  rw [show sx_sr 18526 = ((-9223372036854775808), 9223372036854775807) from by decide +kernel] at h1
  exact h1
theorem sx_gr_N7 {γ : Nat → Int} (h : sx_gran γ) : (-9223372036854775808) ≤ γ 18527 ∧ γ 18527 ≤ 9223372036854775807 := by
  have h1 := h 18527 (by decide)
  rw [show sx_sr 18527 = ((-9223372036854775808), 9223372036854775807) from by decide +kernel] at h1
  exact h1
theorem sx_gr_L0 {γ : Nat → Int} (h : sx_gran γ) : (-9223372036854775808) ≤ γ 18528 ∧ γ 18528 ≤ 9223372036854775807 := by
  have h1 := h 18528 (by decide)
  rw [show sx_sr 18528 = ((-9223372036854775808), 9223372036854775807) from by decide +kernel] at h1
  exact h1
theorem sx_gr_L1 {γ : Nat → Int} (h : sx_gran γ) : (-9223372036854775808) ≤ γ 18529 ∧ γ 18529 ≤ 9223372036854775807 := by
  have h1 := h 18529 (by decide)
  rw [show sx_sr 18529 = ((-9223372036854775808), 9223372036854775807) from by decide +kernel] at h1
  exact h1
theorem sx_gr_L2 {γ : Nat → Int} (h : sx_gran γ) : (-9223372036854775808) ≤ γ 18530 ∧ γ 18530 ≤ 9223372036854775807 := by
  have h1 := h 18530 (by decide)
  rw [show sx_sr 18530 = ((-9223372036854775808), 9223372036854775807) from by decide +kernel] at h1
  exact h1
theorem sx_gr_L3 {γ : Nat → Int} (h : sx_gran γ) : (-9223372036854775808) ≤ γ 18531 ∧ γ 18531 ≤ 9223372036854775807 := by
  have h1 := h 18531 (by decide)
  rw [show sx_sr 18531 = ((-9223372036854775808), 9223372036854775807) from by decide +kernel] at h1
  exact h1
theorem sx_gr_L4 {γ : Nat → Int} (h : sx_gran γ) : (-9223372036854775808) ≤ γ 18532 ∧ γ 18532 ≤ 9223372036854775807 := by
  have h1 := h 18532 (by decide)
  rw [show sx_sr 18532 = ((-9223372036854775808), 9223372036854775807) from by decide +kernel] at h1
  exact h1
theorem sx_gr_L5 {γ : Nat → Int} (h : sx_gran γ) : (-9223372036854775808) ≤ γ 18533 ∧ γ 18533 ≤ 9223372036854775807 := by
  have h1 := h 18533 (by decide)
  rw [show sx_sr 18533 = ((-9223372036854775808), 9223372036854775807) from by decide +kernel] at h1
  exact h1
theorem sx_gr_L6 {γ : Nat → Int} (h : sx_gran γ) : (-9223372036854775808) ≤ γ 18534 ∧ γ 18534 ≤ 9223372036854775807 := by
  have h1 := h 18534 (by decide)
  rw [show sx_sr 18534 = ((-9223372036854775808), 9223372036854775807) from by decide +kernel] at h1
  exact h1
theorem sx_gr_L7 {γ : Nat → Int} (h : sx_gran γ) : (-9223372036854775808) ≤ γ 18535 ∧ γ 18535 ≤ 9223372036854775807 := by
  have h1 := h 18535 (by decide)
  rw [show sx_sr 18535 = ((-9223372036854775808), 9223372036854775807) from by decide +kernel] at h1
  exact h1
theorem sx_gr_AP0 {γ : Nat → Int} (h : sx_gran γ) : 0 ≤ γ 18536 ∧ γ 18536 ≤ 255 := by
  have h1 := h 18536 (by decide)
  rw [show sx_sr 18536 = (0, 255) from by decide +kernel] at h1
  exact h1
theorem sx_gr_AP1 {γ : Nat → Int} (h : sx_gran γ) : 0 ≤ γ 18537 ∧ γ 18537 ≤ 255 := by
  have h1 := h 18537 (by decide)
  rw [show sx_sr 18537 = (0, 255) from by decide +kernel] at h1
  exact h1
theorem sx_gr_AP2 {γ : Nat → Int} (h : sx_gran γ) : 0 ≤ γ 18538 ∧ γ 18538 ≤ 255 := by
  have h1 := h 18538 (by decide)
  rw [show sx_sr 18538 = (0, 255) from by decide +kernel] at h1
  exact h1
theorem sx_gr_AP3 {γ : Nat → Int} (h : sx_gran γ) : 0 ≤ γ 18539 ∧ γ 18539 ≤ 255 := by
  have h1 := h 18539 (by decide)
  rw [show sx_sr 18539 = (0, 255) from by decide +kernel] at h1
  exact h1
theorem sx_gr_AP4 {γ : Nat → Int} (h : sx_gran γ) : 0 ≤ γ 18540 ∧ γ 18540 ≤ 255 := by
  have h1 := h 18540 (by decide)
  rw [show sx_sr 18540 = (0, 255) from by decide +kernel] at h1
  exact h1
theorem sx_gr_AP5 {γ : Nat → Int} (h : sx_gran γ) : 0 ≤ γ 18541 ∧ γ 18541 ≤ 255 := by
  have h1 := h 18541 (by decide)
  rw [show sx_sr 18541 = (0, 255) from by decide +kernel] at h1
  exact h1
theorem sx_gr_AP6 {γ : Nat → Int} (h : sx_gran γ) : 0 ≤ γ 18542 ∧ γ 18542 ≤ 255 := by
  have h1 := h 18542 (by decide)
  rw [show sx_sr 18542 = (0, 255) from by decide +kernel] at h1
  exact h1
theorem sx_gr_AP7 {γ : Nat → Int} (h : sx_gran γ) : 0 ≤ γ 18543 ∧ γ 18543 ≤ 255 := by
  have h1 := h 18543 (by decide)
  rw [show sx_sr 18543 = (0, 255) from by decide +kernel] at h1
  exact h1
theorem sx_gr_BD0 {γ : Nat → Int} (h : sx_gran γ) : 0 ≤ γ 18544 ∧ γ 18544 ≤ 255 := by
  have h1 := h 18544 (by decide)
  rw [show sx_sr 18544 = (0, 255) from by decide +kernel] at h1
  exact h1
theorem sx_gr_BD1 {γ : Nat → Int} (h : sx_gran γ) : 0 ≤ γ 18545 ∧ γ 18545 ≤ 255 := by
  have h1 := h 18545 (by decide)
  rw [show sx_sr 18545 = (0, 255) from by decide +kernel] at h1
  exact h1
theorem sx_gr_BD2 {γ : Nat → Int} (h : sx_gran γ) : 0 ≤ γ 18546 ∧ γ 18546 ≤ 255 := by
  have h1 := h 18546 (by decide)
  rw [show sx_sr 18546 = (0, 255) from by decide +kernel] at h1
  exact h1
theorem sx_gr_BD3 {γ : Nat → Int} (h : sx_gran γ) : 0 ≤ γ 18547 ∧ γ 18547 ≤ 255 := by
  have h1 := h 18547 (by decide)
  rw [show sx_sr 18547 = (0, 255) from by decide +kernel] at h1
  exact h1
theorem sx_gr_BD4 {γ : Nat → Int} (h : sx_gran γ) : 0 ≤ γ 18548 ∧ γ 18548 ≤ 255 := by
  have h1 := h 18548 (by decide)
  rw [show sx_sr 18548 = (0, 255) from by decide +kernel] at h1
  exact h1
theorem sx_gr_BD5 {γ : Nat → Int} (h : sx_gran γ) : 0 ≤ γ 18549 ∧ γ 18549 ≤ 255 := by
  have h1 := h 18549 (by decide)
  rw [show sx_sr 18549 = (0, 255) from by decide +kernel] at h1
  exact h1
theorem sx_gr_BD6 {γ : Nat → Int} (h : sx_gran γ) : 0 ≤ γ 18550 ∧ γ 18550 ≤ 255 := by
  have h1 := h 18550 (by decide)
  rw [show sx_sr 18550 = (0, 255) from by decide +kernel] at h1
  exact h1
theorem sx_gr_BD7 {γ : Nat → Int} (h : sx_gran γ) : 0 ≤ γ 18551 ∧ γ 18551 ≤ 255 := by
  have h1 := h 18551 (by decide)
  rw [show sx_sr 18551 = (0, 255) from by decide +kernel] at h1
  exact h1
theorem sx_gr_MA0 {γ : Nat → Int} (h : sx_gran γ) : 0 ≤ γ 18552 ∧ γ 18552 ≤ 7 := by
  have h1 := h 18552 (by decide)
  rw [show sx_sr 18552 = (0, 7) from by decide +kernel] at h1
  exact h1
theorem sx_gr_MA1 {γ : Nat → Int} (h : sx_gran γ) : 0 ≤ γ 18553 ∧ γ 18553 ≤ 7 := by
  have h1 := h 18553 (by decide)
  rw [show sx_sr 18553 = (0, 7) from by decide +kernel] at h1
  exact h1
theorem sx_gr_MA2 {γ : Nat → Int} (h : sx_gran γ) : 0 ≤ γ 18554 ∧ γ 18554 ≤ 7 := by
  have h1 := h 18554 (by decide)
  rw [show sx_sr 18554 = (0, 7) from by decide +kernel] at h1
  exact h1
theorem sx_gr_MA3 {γ : Nat → Int} (h : sx_gran γ) : 0 ≤ γ 18555 ∧ γ 18555 ≤ 7 := by
  have h1 := h 18555 (by decide)
  rw [show sx_sr 18555 = (0, 7) from by decide +kernel] at h1
  exact h1
theorem sx_gr_MA4 {γ : Nat → Int} (h : sx_gran γ) : 0 ≤ γ 18556 ∧ γ 18556 ≤ 7 := by
  have h1 := h 18556 (by decide)
  rw [show sx_sr 18556 = (0, 7) from by decide +kernel] at h1
  exact h1
theorem sx_gr_MA5 {γ : Nat → Int} (h : sx_gran γ) : 0 ≤ γ 18557 ∧ γ 18557 ≤ 7 := by
  have h1 := h 18557 (by decide)
  rw [show sx_sr 18557 = (0, 7) from by decide +kernel] at h1
  exact h1
theorem sx_gr_MA6 {γ : Nat → Int} (h : sx_gran γ) : 0 ≤ γ 18558 ∧ γ 18558 ≤ 7 := by
  have h1 := h 18558 (by decide)
  rw [show sx_sr 18558 = (0, 7) from by decide +kernel] at h1
  exact h1
theorem sx_gr_MA7 {γ : Nat → Int} (h : sx_gran γ) : 0 ≤ γ 18559 ∧ γ 18559 ≤ 7 := by
  have h1 := h 18559 (by decide)
  rw [show sx_sr 18559 = (0, 7) from by decide +kernel] at h1
  exact h1
theorem sx_gr_MA8 {γ : Nat → Int} (h : sx_gran γ) : 0 ≤ γ 18560 ∧ γ 18560 ≤ 7 := by
  have h1 := h 18560 (by decide)
  rw [show sx_sr 18560 = (0, 7) from by decide +kernel] at h1
  exact h1
theorem sx_gr_MA9 {γ : Nat → Int} (h : sx_gran γ) : 0 ≤ γ 18561 ∧ γ 18561 ≤ 7 := by
  have h1 := h 18561 (by decide)
  rw [show sx_sr 18561 = (0, 7) from by decide +kernel] at h1
  exact h1
theorem sx_gr_MA10 {γ : Nat → Int} (h : sx_gran γ) : 0 ≤ γ 18562 ∧ γ 18562 ≤ 7 := by
  have h1 := h 18562 (by decide)
  rw [show sx_sr 18562 = (0, 7) from by decide +kernel] at h1
  exact h1
theorem sx_gr_MA11 {γ : Nat → Int} (h : sx_gran γ) : 0 ≤ γ 18563 ∧ γ 18563 ≤ 7 := by
  have h1 := h 18563 (by decide)
  rw [show sx_sr 18563 = (0, 7) from by decide +kernel] at h1
  exact h1
theorem sx_gr_MB0 {γ : Nat → Int} (h : sx_gran γ) : 0 ≤ γ 18564 ∧ γ 18564 ≤ 7 := by
  have h1 := h 18564 (by decide)
  rw [show sx_sr 18564 = (0, 7) from by decide +kernel] at h1
  exact h1
theorem sx_gr_MB1 {γ : Nat → Int} (h : sx_gran γ) : 0 ≤ γ 18565 ∧ γ 18565 ≤ 7 := by
  have h1 := h 18565 (by decide)
  rw [show sx_sr 18565 = (0, 7) from by decide +kernel] at h1
  exact h1
theorem sx_gr_MB2 {γ : Nat → Int} (h : sx_gran γ) : 0 ≤ γ 18566 ∧ γ 18566 ≤ 7 := by
  have h1 := h 18566 (by decide)
  rw [show sx_sr 18566 = (0, 7) from by decide +kernel] at h1
  exact h1
theorem sx_gr_MB3 {γ : Nat → Int} (h : sx_gran γ) : 0 ≤ γ 18567 ∧ γ 18567 ≤ 7 := by
  have h1 := h 18567 (by decide)
  rw [show sx_sr 18567 = (0, 7) from by decide +kernel] at h1
  exact h1
theorem sx_gr_MB4 {γ : Nat → Int} (h : sx_gran γ) : 0 ≤ γ 18568 ∧ γ 18568 ≤ 7 := by
  have h1 := h 18568 (by decide)
  rw [show sx_sr 18568 = (0, 7) from by decide +kernel] at h1
  exact h1
theorem sx_gr_MB5 {γ : Nat → Int} (h : sx_gran γ) : 0 ≤ γ 18569 ∧ γ 18569 ≤ 7 := by
  have h1 := h 18569 (by decide)
  rw [show sx_sr 18569 = (0, 7) from by decide +kernel] at h1
  exact h1
theorem sx_gr_MB6 {γ : Nat → Int} (h : sx_gran γ) : 0 ≤ γ 18570 ∧ γ 18570 ≤ 7 := by
  have h1 := h 18570 (by decide)
  rw [show sx_sr 18570 = (0, 7) from by decide +kernel] at h1
  exact h1
theorem sx_gr_MB7 {γ : Nat → Int} (h : sx_gran γ) : 0 ≤ γ 18571 ∧ γ 18571 ≤ 7 := by
  have h1 := h 18571 (by decide)
  rw [show sx_sr 18571 = (0, 7) from by decide +kernel] at h1
  exact h1
theorem sx_gr_MB8 {γ : Nat → Int} (h : sx_gran γ) : 0 ≤ γ 18572 ∧ γ 18572 ≤ 7 := by
  have h1 := h 18572 (by decide)
  rw [show sx_sr 18572 = (0, 7) from by decide +kernel] at h1
  exact h1
theorem sx_gr_MB9 {γ : Nat → Int} (h : sx_gran γ) : 0 ≤ γ 18573 ∧ γ 18573 ≤ 7 := by
  have h1 := h 18573 (by decide)
  rw [show sx_sr 18573 = (0, 7) from by decide +kernel] at h1
  exact h1
theorem sx_gr_MB10 {γ : Nat → Int} (h : sx_gran γ) : 0 ≤ γ 18574 ∧ γ 18574 ≤ 7 := by
  have h1 := h 18574 (by decide)
  rw [show sx_sr 18574 = (0, 7) from by decide +kernel] at h1
  exact h1
theorem sx_gr_MB11 {γ : Nat → Int} (h : sx_gran γ) : 0 ≤ γ 18575 ∧ γ 18575 ≤ 7 := by
  have h1 := h 18575 (by decide)
  rw [show sx_sr 18575 = (0, 7) from by decide +kernel] at h1
  exact h1
theorem sx_gr_MT0 {γ : Nat → Int} (h : sx_gran γ) : 0 ≤ γ 18576 ∧ γ 18576 ≤ 1 := by
  have h1 := h 18576 (by decide)
  rw [show sx_sr 18576 = (0, 1) from by decide +kernel] at h1
  exact h1
theorem sx_gr_MT1 {γ : Nat → Int} (h : sx_gran γ) : 0 ≤ γ 18577 ∧ γ 18577 ≤ 1 := by
  have h1 := h 18577 (by decide)
  rw [show sx_sr 18577 = (0, 1) from by decide +kernel] at h1
  exact h1
theorem sx_gr_MT2 {γ : Nat → Int} (h : sx_gran γ) : 0 ≤ γ 18578 ∧ γ 18578 ≤ 1 := by
  have h1 := h 18578 (by decide)
  rw [show sx_sr 18578 = (0, 1) from by decide +kernel] at h1
  exact h1
theorem sx_gr_MT3 {γ : Nat → Int} (h : sx_gran γ) : 0 ≤ γ 18579 ∧ γ 18579 ≤ 1 := by
  have h1 := h 18579 (by decide)
  rw [show sx_sr 18579 = (0, 1) from by decide +kernel] at h1
  exact h1
theorem sx_gr_MT4 {γ : Nat → Int} (h : sx_gran γ) : 0 ≤ γ 18580 ∧ γ 18580 ≤ 1 := by
  have h1 := h 18580 (by decide)
  rw [show sx_sr 18580 = (0, 1) from by decide +kernel] at h1
  exact h1
theorem sx_gr_MT5 {γ : Nat → Int} (h : sx_gran γ) : 0 ≤ γ 18581 ∧ γ 18581 ≤ 1 := by
  have h1 := h 18581 (by decide)
  rw [show sx_sr 18581 = (0, 1) from by decide +kernel] at h1
  exact h1
theorem sx_gr_MT6 {γ : Nat → Int} (h : sx_gran γ) : 0 ≤ γ 18582 ∧ γ 18582 ≤ 1 := by
  have h1 := h 18582 (by decide)
  rw [show sx_sr 18582 = (0, 1) from by decide +kernel] at h1
  exact h1
theorem sx_gr_MT7 {γ : Nat → Int} (h : sx_gran γ) : 0 ≤ γ 18583 ∧ γ 18583 ≤ 1 := by
  have h1 := h 18583 (by decide)
  rw [show sx_sr 18583 = (0, 1) from by decide +kernel] at h1
  exact h1
theorem sx_gr_MT8 {γ : Nat → Int} (h : sx_gran γ) : 0 ≤ γ 18584 ∧ γ 18584 ≤ 1 := by
  have h1 := h 18584 (by decide)
  rw [show sx_sr 18584 = (0, 1) from by decide +kernel] at h1
  exact h1
theorem sx_gr_MT9 {γ : Nat → Int} (h : sx_gran γ) : 0 ≤ γ 18585 ∧ γ 18585 ≤ 1 := by
  have h1 := h 18585 (by decide)
  rw [show sx_sr 18585 = (0, 1) from by decide +kernel] at h1
  exact h1
theorem sx_gr_MT10 {γ : Nat → Int} (h : sx_gran γ) : 0 ≤ γ 18586 ∧ γ 18586 ≤ 1 := by
  have h1 := h 18586 (by decide)
  rw [show sx_sr 18586 = (0, 1) from by decide +kernel] at h1
  exact h1
theorem sx_gr_MT11 {γ : Nat → Int} (h : sx_gran γ) : 0 ≤ γ 18587 ∧ γ 18587 ≤ 1 := by
  have h1 := h 18587 (by decide)
  rw [show sx_sr 18587 = (0, 1) from by decide +kernel] at h1
  exact h1
theorem sx_gr_OX1 {γ : Nat → Int} (h : sx_gran γ) : 0 ≤ γ 18588 ∧ γ 18588 ≤ 255 := by
  have h1 := h 18588 (by decide)
  rw [show sx_sr 18588 = (0, 255) from by decide +kernel] at h1
  exact h1
theorem sx_gr_OY1 {γ : Nat → Int} (h : sx_gran γ) : 0 ≤ γ 18589 ∧ γ 18589 ≤ 255 := by
  have h1 := h 18589 (by decide)
  rw [show sx_sr 18589 = (0, 255) from by decide +kernel] at h1
  exact h1
theorem sx_gr_OO1 {γ : Nat → Int} (h : sx_gran γ) : 0 ≤ γ 18590 ∧ γ 18590 ≤ 255 := by
  have h1 := h 18590 (by decide)
  rw [show sx_sr 18590 = (0, 255) from by decide +kernel] at h1
  exact h1
theorem sx_gr_OX2 {γ : Nat → Int} (h : sx_gran γ) : 0 ≤ γ 18591 ∧ γ 18591 ≤ 255 := by
  have h1 := h 18591 (by decide)
  rw [show sx_sr 18591 = (0, 255) from by decide +kernel] at h1
  exact h1
theorem sx_gr_OY2 {γ : Nat → Int} (h : sx_gran γ) : 0 ≤ γ 18592 ∧ γ 18592 ≤ 255 := by
  have h1 := h 18592 (by decide)
  rw [show sx_sr 18592 = (0, 255) from by decide +kernel] at h1
  exact h1
theorem sx_gr_OO2 {γ : Nat → Int} (h : sx_gran γ) : 0 ≤ γ 18593 ∧ γ 18593 ≤ 255 := by
  have h1 := h 18593 (by decide)
  rw [show sx_sr 18593 = (0, 255) from by decide +kernel] at h1
  exact h1
theorem sx_gr_OW {γ : Nat → Int} (h : sx_gran γ) : 0 ≤ γ 18594 ∧ γ 18594 ≤ 2 := by
  have h1 := h 18594 (by decide)
  rw [show sx_sr 18594 = (0, 2) from by decide +kernel] at h1
  exact h1
theorem sx_gr_QM {γ : Nat → Int} (h : sx_gran γ) : 0 ≤ γ 18595 ∧ γ 18595 ≤ 2 := by
  have h1 := h 18595 (by decide)
  rw [show sx_sr 18595 = (0, 2) from by decide +kernel] at h1
  exact h1
theorem sx_gr_PG {γ : Nat → Int} (h : sx_gran γ) : (-2147483648) ≤ γ 18596 ∧ γ 18596 ≤ 2147483647 := by
  have h1 := h 18596 (by decide)
  rw [show sx_sr 18596 = ((-2147483648), 2147483647) from by decide +kernel] at h1
  exact h1
theorem sx_gr_pg0 {γ : Nat → Int} (h : sx_gran γ) : 0 ≤ γ 18597 ∧ γ 18597 ≤ 1 := by
  have h1 := h 18597 (by decide)
  rw [show sx_sr 18597 = (0, 1) from by decide +kernel] at h1
  exact h1
theorem sx_gr_pg1 {γ : Nat → Int} (h : sx_gran γ) : 0 ≤ γ 18598 ∧ γ 18598 ≤ 1 := by
  have h1 := h 18598 (by decide)
  rw [show sx_sr 18598 = (0, 1) from by decide +kernel] at h1
  exact h1
theorem sx_gr_pg2 {γ : Nat → Int} (h : sx_gran γ) : 0 ≤ γ 18599 ∧ γ 18599 ≤ 1 := by
  have h1 := h 18599 (by decide)
  rw [show sx_sr 18599 = (0, 1) from by decide +kernel] at h1
  exact h1
theorem sx_gr_pg3 {γ : Nat → Int} (h : sx_gran γ) : 0 ≤ γ 18600 ∧ γ 18600 ≤ 1 := by
  have h1 := h 18600 (by decide)
  rw [show sx_sr 18600 = (0, 1) from by decide +kernel] at h1
  exact h1
theorem sx_gr_pg4 {γ : Nat → Int} (h : sx_gran γ) : 0 ≤ γ 18601 ∧ γ 18601 ≤ 1 := by
  have h1 := h 18601 (by decide)
  rw [show sx_sr 18601 = (0, 1) from by decide +kernel] at h1
  exact h1
theorem sx_gr_pg5 {γ : Nat → Int} (h : sx_gran γ) : 0 ≤ γ 18602 ∧ γ 18602 ≤ 1 := by
  have h1 := h 18602 (by decide)
  rw [show sx_sr 18602 = (0, 1) from by decide +kernel] at h1
  exact h1
theorem sx_gr_pg6 {γ : Nat → Int} (h : sx_gran γ) : 0 ≤ γ 18603 ∧ γ 18603 ≤ 1 := by
  have h1 := h 18603 (by decide)
  rw [show sx_sr 18603 = (0, 1) from by decide +kernel] at h1
  exact h1
theorem sx_gr_pg7 {γ : Nat → Int} (h : sx_gran γ) : 0 ≤ γ 18604 ∧ γ 18604 ≤ 1 := by
  have h1 := h 18604 (by decide)
  rw [show sx_sr 18604 = (0, 1) from by decide +kernel] at h1
  exact h1
theorem sx_gr_XA0 {γ : Nat → Int} (h : sx_gran γ) : 0 ≤ γ 18605 ∧ γ 18605 ≤ 1 := by
  have h1 := h 18605 (by decide)
  rw [show sx_sr 18605 = (0, 1) from by decide +kernel] at h1
  exact h1
theorem sx_gr_XA1 {γ : Nat → Int} (h : sx_gran γ) : 0 ≤ γ 18606 ∧ γ 18606 ≤ 1 := by
  have h1 := h 18606 (by decide)
  rw [show sx_sr 18606 = (0, 1) from by decide +kernel] at h1
  exact h1
theorem sx_gr_XA2 {γ : Nat → Int} (h : sx_gran γ) : 0 ≤ γ 18607 ∧ γ 18607 ≤ 1 := by
  have h1 := h 18607 (by decide)
  rw [show sx_sr 18607 = (0, 1) from by decide +kernel] at h1
  exact h1
theorem sx_gr_XA3 {γ : Nat → Int} (h : sx_gran γ) : 0 ≤ γ 18608 ∧ γ 18608 ≤ 1 := by
  have h1 := h 18608 (by decide)
  rw [show sx_sr 18608 = (0, 1) from by decide +kernel] at h1
  exact h1
theorem sx_gr_XA4 {γ : Nat → Int} (h : sx_gran γ) : 0 ≤ γ 18609 ∧ γ 18609 ≤ 1 := by
  have h1 := h 18609 (by decide)
  rw [show sx_sr 18609 = (0, 1) from by decide +kernel] at h1
  exact h1
theorem sx_gr_XA5 {γ : Nat → Int} (h : sx_gran γ) : 0 ≤ γ 18610 ∧ γ 18610 ≤ 1 := by
  have h1 := h 18610 (by decide)
  rw [show sx_sr 18610 = (0, 1) from by decide +kernel] at h1
  exact h1
theorem sx_gr_XA6 {γ : Nat → Int} (h : sx_gran γ) : 0 ≤ γ 18611 ∧ γ 18611 ≤ 1 := by
  have h1 := h 18611 (by decide)
  rw [show sx_sr 18611 = (0, 1) from by decide +kernel] at h1
  exact h1
theorem sx_gr_XA7 {γ : Nat → Int} (h : sx_gran γ) : 0 ≤ γ 18612 ∧ γ 18612 ≤ 1 := by
  have h1 := h 18612 (by decide)
  rw [show sx_sr 18612 = (0, 1) from by decide +kernel] at h1
  exact h1
theorem sx_gr_XB0 {γ : Nat → Int} (h : sx_gran γ) : 0 ≤ γ 18613 ∧ γ 18613 ≤ 1 := by
  have h1 := h 18613 (by decide)
  rw [show sx_sr 18613 = (0, 1) from by decide +kernel] at h1
  exact h1
theorem sx_gr_XB1 {γ : Nat → Int} (h : sx_gran γ) : 0 ≤ γ 18614 ∧ γ 18614 ≤ 1 := by
  have h1 := h 18614 (by decide)
  rw [show sx_sr 18614 = (0, 1) from by decide +kernel] at h1
  exact h1
theorem sx_gr_XB2 {γ : Nat → Int} (h : sx_gran γ) : 0 ≤ γ 18615 ∧ γ 18615 ≤ 1 := by
  have h1 := h 18615 (by decide)
  rw [show sx_sr 18615 = (0, 1) from by decide +kernel] at h1
  exact h1
theorem sx_gr_XB3 {γ : Nat → Int} (h : sx_gran γ) : 0 ≤ γ 18616 ∧ γ 18616 ≤ 1 := by
  have h1 := h 18616 (by decide)
  rw [show sx_sr 18616 = (0, 1) from by decide +kernel] at h1
  exact h1
theorem sx_gr_XB4 {γ : Nat → Int} (h : sx_gran γ) : 0 ≤ γ 18617 ∧ γ 18617 ≤ 1 := by
  have h1 := h 18617 (by decide)
  rw [show sx_sr 18617 = (0, 1) from by decide +kernel] at h1
  exact h1
theorem sx_gr_XB5 {γ : Nat → Int} (h : sx_gran γ) : 0 ≤ γ 18618 ∧ γ 18618 ≤ 1 := by
  have h1 := h 18618 (by decide)
  rw [show sx_sr 18618 = (0, 1) from by decide +kernel] at h1
  exact h1
theorem sx_gr_XB6 {γ : Nat → Int} (h : sx_gran γ) : 0 ≤ γ 18619 ∧ γ 18619 ≤ 1 := by
  have h1 := h 18619 (by decide)
  rw [show sx_sr 18619 = (0, 1) from by decide +kernel] at h1
  exact h1
theorem sx_gr_XB7 {γ : Nat → Int} (h : sx_gran γ) : 0 ≤ γ 18620 ∧ γ 18620 ≤ 1 := by
  have h1 := h 18620 (by decide)
  rw [show sx_sr 18620 = (0, 1) from by decide +kernel] at h1
  exact h1
theorem sx_gr_CX {γ : Nat → Int} (h : sx_gran γ) : 0 ≤ γ 18621 ∧ γ 18621 ≤ 8 := by
  have h1 := h 18621 (by decide)
  rw [show sx_sr 18621 = (0, 8) from by decide +kernel] at h1
  exact h1
theorem sx_gr_RX {γ : Nat → Int} (h : sx_gran γ) : 0 ≤ γ 18622 ∧ γ 18622 ≤ 1 := by
  have h1 := h 18622 (by decide)
  rw [show sx_sr 18622 = (0, 1) from by decide +kernel] at h1
  exact h1
theorem sx_gr_KN {γ : Nat → Int} (h : sx_gran γ) : 0 ≤ γ 18623 ∧ γ 18623 ≤ 8 := by
  have h1 := h 18623 (by decide)
  rw [show sx_sr 18623 = (0, 8) from by decide +kernel] at h1
  exact h1
theorem sx_gr_WV {γ : Nat → Int} (h : sx_gran γ) : 0 ≤ γ 18624 ∧ γ 18624 ≤ 255 := by
  have h1 := h 18624 (by decide)
  rw [show sx_sr 18624 = (0, 255) from by decide +kernel] at h1
  exact h1
theorem sx_gr_ZS {γ : Nat → Int} (h : sx_gran γ) : 0 ≤ γ 18625 ∧ γ 18625 ≤ 255 := by
  have h1 := h 18625 (by decide)
  rw [show sx_sr 18625 = (0, 255) from by decide +kernel] at h1
  exact h1
theorem sx_gr_SZ {γ : Nat → Int} (h : sx_gran γ) : 0 ≤ γ 18626 ∧ γ 18626 ≤ 1 := by
  have h1 := h 18626 (by decide)
  rw [show sx_sr 18626 = (0, 1) from by decide +kernel] at h1
  exact h1
theorem sx_gr_PB {γ : Nat → Int} (h : sx_gran γ) : 0 ≤ γ 18627 ∧ γ 18627 ≤ 8 := by
  have h1 := h 18627 (by decide)
  rw [show sx_sr 18627 = (0, 8) from by decide +kernel] at h1
  exact h1
theorem sx_gr_HS {γ : Nat → Int} (h : sx_gran γ) : 0 ≤ γ 18628 ∧ γ 18628 ≤ 255 := by
  have h1 := h 18628 (by decide)
  rw [show sx_sr 18628 = (0, 255) from by decide +kernel] at h1
  exact h1
theorem sx_gr_HB {γ : Nat → Int} (h : sx_gran γ) : 0 ≤ γ 18629 ∧ γ 18629 ≤ 1 := by
  have h1 := h 18629 (by decide)
  rw [show sx_sr 18629 = (0, 1) from by decide +kernel] at h1
  exact h1
theorem sx_gr_IS {γ : Nat → Int} (h : sx_gran γ) : 0 ≤ γ 18630 ∧ γ 18630 ≤ 255 := by
  have h1 := h 18630 (by decide)
  rw [show sx_sr 18630 = (0, 255) from by decide +kernel] at h1
  exact h1
theorem sx_gr_IB {γ : Nat → Int} (h : sx_gran γ) : 0 ≤ γ 18631 ∧ γ 18631 ≤ 1 := by
  have h1 := h 18631 (by decide)
  rw [show sx_sr 18631 = (0, 1) from by decide +kernel] at h1
  exact h1
theorem sx_gr_ga0 {γ : Nat → Int} (h : sx_gran γ) : 0 ≤ γ 18632 ∧ γ 18632 ≤ 1 := by
  have h1 := h 18632 (by decide)
  rw [show sx_sr 18632 = (0, 1) from by decide +kernel] at h1
  exact h1
theorem sx_gr_ga1 {γ : Nat → Int} (h : sx_gran γ) : 0 ≤ γ 18633 ∧ γ 18633 ≤ 1 := by
  have h1 := h 18633 (by decide)
  rw [show sx_sr 18633 = (0, 1) from by decide +kernel] at h1
  exact h1
theorem sx_gr_ga2 {γ : Nat → Int} (h : sx_gran γ) : 0 ≤ γ 18634 ∧ γ 18634 ≤ 1 := by
  have h1 := h 18634 (by decide)
  rw [show sx_sr 18634 = (0, 1) from by decide +kernel] at h1
  exact h1
theorem sx_gr_ga3 {γ : Nat → Int} (h : sx_gran γ) : 0 ≤ γ 18635 ∧ γ 18635 ≤ 1 := by
  have h1 := h 18635 (by decide)
  rw [show sx_sr 18635 = (0, 1) from by decide +kernel] at h1
  exact h1
theorem sx_gr_ga4 {γ : Nat → Int} (h : sx_gran γ) : 0 ≤ γ 18636 ∧ γ 18636 ≤ 1 := by
  have h1 := h 18636 (by decide)
  rw [show sx_sr 18636 = (0, 1) from by decide +kernel] at h1
  exact h1
theorem sx_gr_ga5 {γ : Nat → Int} (h : sx_gran γ) : 0 ≤ γ 18637 ∧ γ 18637 ≤ 1 := by
  have h1 := h 18637 (by decide)
  rw [show sx_sr 18637 = (0, 1) from by decide +kernel] at h1
  exact h1
theorem sx_gr_ga6 {γ : Nat → Int} (h : sx_gran γ) : 0 ≤ γ 18638 ∧ γ 18638 ≤ 1 := by
  have h1 := h 18638 (by decide)
  rw [show sx_sr 18638 = (0, 1) from by decide +kernel] at h1
  exact h1
theorem sx_gr_ga7 {γ : Nat → Int} (h : sx_gran γ) : 0 ≤ γ 18639 ∧ γ 18639 ≤ 1 := by
  have h1 := h 18639 (by decide)
  rw [show sx_sr 18639 = (0, 1) from by decide +kernel] at h1
  exact h1
theorem sx_gr_ga8 {γ : Nat → Int} (h : sx_gran γ) : 0 ≤ γ 18640 ∧ γ 18640 ≤ 1 := by
  have h1 := h 18640 (by decide)
  rw [show sx_sr 18640 = (0, 1) from by decide +kernel] at h1
  exact h1
theorem sx_gr_ga9 {γ : Nat → Int} (h : sx_gran γ) : 0 ≤ γ 18641 ∧ γ 18641 ≤ 1 := by
  have h1 := h 18641 (by decide)
  rw [show sx_sr 18641 = (0, 1) from by decide +kernel] at h1
  exact h1
theorem sx_gr_ga10 {γ : Nat → Int} (h : sx_gran γ) : 0 ≤ γ 18642 ∧ γ 18642 ≤ 1 := by
  have h1 := h 18642 (by decide)
  rw [show sx_sr 18642 = (0, 1) from by decide +kernel] at h1
  exact h1
theorem sx_gr_ga11 {γ : Nat → Int} (h : sx_gran γ) : 0 ≤ γ 18643 ∧ γ 18643 ≤ 1 := by
  have h1 := h 18643 (by decide)
  rw [show sx_sr 18643 = (0, 1) from by decide +kernel] at h1
  exact h1
theorem sx_gr_gb0 {γ : Nat → Int} (h : sx_gran γ) : 0 ≤ γ 18644 ∧ γ 18644 ≤ 1 := by
  have h1 := h 18644 (by decide)
  rw [show sx_sr 18644 = (0, 1) from by decide +kernel] at h1
  exact h1
theorem sx_gr_gb1 {γ : Nat → Int} (h : sx_gran γ) : 0 ≤ γ 18645 ∧ γ 18645 ≤ 1 := by
  have h1 := h 18645 (by decide)
  rw [show sx_sr 18645 = (0, 1) from by decide +kernel] at h1
  exact h1
theorem sx_gr_gb2 {γ : Nat → Int} (h : sx_gran γ) : 0 ≤ γ 18646 ∧ γ 18646 ≤ 1 := by
  have h1 := h 18646 (by decide)
  rw [show sx_sr 18646 = (0, 1) from by decide +kernel] at h1
  exact h1
theorem sx_gr_gb3 {γ : Nat → Int} (h : sx_gran γ) : 0 ≤ γ 18647 ∧ γ 18647 ≤ 1 := by
  have h1 := h 18647 (by decide)
  rw [show sx_sr 18647 = (0, 1) from by decide +kernel] at h1
  exact h1
theorem sx_gr_gb4 {γ : Nat → Int} (h : sx_gran γ) : 0 ≤ γ 18648 ∧ γ 18648 ≤ 1 := by
  have h1 := h 18648 (by decide)
  rw [show sx_sr 18648 = (0, 1) from by decide +kernel] at h1
  exact h1
theorem sx_gr_gb5 {γ : Nat → Int} (h : sx_gran γ) : 0 ≤ γ 18649 ∧ γ 18649 ≤ 1 := by
  have h1 := h 18649 (by decide)
  rw [show sx_sr 18649 = (0, 1) from by decide +kernel] at h1
  exact h1
theorem sx_gr_gb6 {γ : Nat → Int} (h : sx_gran γ) : 0 ≤ γ 18650 ∧ γ 18650 ≤ 1 := by
  have h1 := h 18650 (by decide)
  rw [show sx_sr 18650 = (0, 1) from by decide +kernel] at h1
  exact h1
theorem sx_gr_gb7 {γ : Nat → Int} (h : sx_gran γ) : 0 ≤ γ 18651 ∧ γ 18651 ≤ 1 := by
  have h1 := h 18651 (by decide)
  rw [show sx_sr 18651 = (0, 1) from by decide +kernel] at h1
  exact h1
theorem sx_gr_gb8 {γ : Nat → Int} (h : sx_gran γ) : 0 ≤ γ 18652 ∧ γ 18652 ≤ 1 := by
  have h1 := h 18652 (by decide)
  rw [show sx_sr 18652 = (0, 1) from by decide +kernel] at h1
  exact h1
theorem sx_gr_gb9 {γ : Nat → Int} (h : sx_gran γ) : 0 ≤ γ 18653 ∧ γ 18653 ≤ 1 := by
  have h1 := h 18653 (by decide)
  rw [show sx_sr 18653 = (0, 1) from by decide +kernel] at h1
  exact h1
theorem sx_gr_gb10 {γ : Nat → Int} (h : sx_gran γ) : 0 ≤ γ 18654 ∧ γ 18654 ≤ 1 := by
  have h1 := h 18654 (by decide)
  rw [show sx_sr 18654 = (0, 1) from by decide +kernel] at h1
  exact h1
theorem sx_gr_gb11 {γ : Nat → Int} (h : sx_gran γ) : 0 ≤ γ 18655 ∧ γ 18655 ≤ 1 := by
  have h1 := h 18655 (by decide)
  rw [show sx_sr 18655 = (0, 1) from by decide +kernel] at h1
  exact h1
theorem sx_gr_CM {γ : Nat → Int} (h : sx_gran γ) : 0 ≤ γ 18656 ∧ γ 18656 ≤ 12 := by
  have h1 := h 18656 (by decide)
  rw [show sx_sr 18656 = (0, 12) from by decide +kernel] at h1
  exact h1
theorem sx_gr_MQ {γ : Nat → Int} (h : sx_gran γ) : 0 ≤ γ 18657 ∧ γ 18657 ≤ 12 := by
  have h1 := h 18657 (by decide)
  rw [show sx_sr 18657 = (0, 12) from by decide +kernel] at h1
  exact h1
theorem sx_gr_RM {γ : Nat → Int} (h : sx_gran γ) : 0 ≤ γ 18658 ∧ γ 18658 ≤ 1 := by
  have h1 := h 18658 (by decide)
  rw [show sx_sr 18658 = (0, 1) from by decide +kernel] at h1
  exact h1
theorem sx_gr_LG {γ : Nat → Int} (h : sx_gran γ) : 0 ≤ γ 18659 ∧ γ 18659 ≤ 1 := by
  have h1 := h 18659 (by decide)
  rw [show sx_sr 18659 = (0, 1) from by decide +kernel] at h1
  exact h1
theorem sx_gr_KV {γ : Nat → Int} (h : sx_gran γ) : 0 ≤ γ 18660 ∧ γ 18660 ≤ 255 := by
  have h1 := h 18660 (by decide)
  rw [show sx_sr 18660 = (0, 255) from by decide +kernel] at h1
  exact h1
theorem sx_gr_RC {γ : Nat → Int} (h : sx_gran γ) : 0 ≤ γ 18661 ∧ γ 18661 ≤ 8 := by
  have h1 := h 18661 (by decide)
  rw [show sx_sr 18661 = (0, 8) from by decide +kernel] at h1
  exact h1
theorem sx_gr_J1 {γ : Nat → Int} (h : sx_gran γ) : 0 ≤ γ 18662 ∧ γ 18662 ≤ 127 := by
  have h1 := h 18662 (by decide)
  rw [show sx_sr 18662 = (0, 127) from by decide +kernel] at h1
  exact h1
theorem sx_gr_J2 {γ : Nat → Int} (h : sx_gran γ) : 0 ≤ γ 18663 ∧ γ 18663 ≤ 85 := by
  have h1 := h 18663 (by decide)
  rw [show sx_sr 18663 = (0, 85) from by decide +kernel] at h1
  exact h1
theorem sx_gr_J3 {γ : Nat → Int} (h : sx_gran γ) : 0 ≤ γ 18664 ∧ γ 18664 ≤ 51 := by
  have h1 := h 18664 (by decide)
  rw [show sx_sr 18664 = (0, 51) from by decide +kernel] at h1
  exact h1
theorem sx_gr_J4 {γ : Nat → Int} (h : sx_gran γ) : 0 ≤ γ 18665 ∧ γ 18665 ≤ 63 := by
  have h1 := h 18665 (by decide)
  rw [show sx_sr 18665 = (0, 63) from by decide +kernel] at h1
  exact h1
theorem sx_gr_J5 {γ : Nat → Int} (h : sx_gran γ) : 0 ≤ γ 18666 ∧ γ 18666 ≤ 51 := by
  have h1 := h 18666 (by decide)
  rw [show sx_sr 18666 = (0, 51) from by decide +kernel] at h1
  exact h1
theorem sx_gr_J6 {γ : Nat → Int} (h : sx_gran γ) : 0 ≤ γ 18667 ∧ γ 18667 ≤ 15 := by
  have h1 := h 18667 (by decide)
  rw [show sx_sr 18667 = (0, 15) from by decide +kernel] at h1
  exact h1
theorem sx_gr_J7 {γ : Nat → Int} (h : sx_gran γ) : 0 ≤ γ 18668 ∧ γ 18668 ≤ 15 := by
  have h1 := h 18668 (by decide)
  rw [show sx_sr 18668 = (0, 15) from by decide +kernel] at h1
  exact h1
theorem sx_q_l_fnd_0 {γ : Nat → Int} {A : Nat → Nat → Int} {j : Nat} {y : Int} (hG : sx_G0 γ A) (f0 : 0 ≤ (-1) + ((-1) * γ 18514 + (1 * y + 0))) (c21 : sx_gfn (γ 18514) (1 + (1 * γ 18515 + 0)) (γ 18516) (A 2)) : ∃ a ∈ sx_r_l_fnd.2, ∃ w : Nat → Int, (∀ (i : Nat) p, a.1[i]? = some p → p.2.1 ≤ w i ∧ w i ≤ p.2.2) ∧ (∀ f ∈ a.2.1, 0 ≤ sx_d (sx_th γ (j : Int) y w) f) ∧ (∀ e, a.2.2.2.head? = some e → sx_d (sx_th γ (j : Int) y w) e = y) ∧ sx_G0 (sx_gu γ (sx_th γ (j : Int) y w) a.2.2.1) (if false = true then sx_au A 2 j y else A) := ⟨([], [((-1), [(18514, (-1)), (19001, 1)])], [(18515, (1, [(18515, 1)]))], []), List.Mem.head _, (fun _ => 0), fun i p hi => (by
    match i, hi with
    | n + 0, hi => simp at hi), fun f hf => (by
    simp only [List.mem_cons, List.not_mem_nil, or_false] at hf
    rcases hf with rfl
    · exact f0
    ), fun e he => (by cases he), ⟨hG.1, hG.2.1, hG.2.2.1, hG.2.2.2.1, hG.2.2.2.2.1, hG.2.2.2.2.2.1, hG.2.2.2.2.2.2.1, hG.2.2.2.2.2.2.2.1, hG.2.2.2.2.2.2.2.2.1, hG.2.2.2.2.2.2.2.2.2.1, hG.2.2.2.2.2.2.2.2.2.2.1, hG.2.2.2.2.2.2.2.2.2.2.2.1, hG.2.2.2.2.2.2.2.2.2.2.2.2.1, hG.2.2.2.2.2.2.2.2.2.2.2.2.2.1, hG.2.2.2.2.2.2.2.2.2.2.2.2.2.2.1, hG.2.2.2.2.2.2.2.2.2.2.2.2.2.2.2.1, hG.2.2.2.2.2.2.2.2.2.2.2.2.2.2.2.2.1, hG.2.2.2.2.2.2.2.2.2.2.2.2.2.2.2.2.2.1, hG.2.2.2.2.2.2.2.2.2.2.2.2.2.2.2.2.2.2.1, hG.2.2.2.2.2.2.2.2.2.2.2.2.2.2.2.2.2.2.2.1, hG.2.2.2.2.2.2.2.2.2.2.2.2.2.2.2.2.2.2.2.2.1, c21, hG.2.2.2.2.2.2.2.2.2.2.2.2.2.2.2.2.2.2.2.2.2.2.1, hG.2.2.2.2.2.2.2.2.2.2.2.2.2.2.2.2.2.2.2.2.2.2.2.1, hG.2.2.2.2.2.2.2.2.2.2.2.2.2.2.2.2.2.2.2.2.2.2.2.2⟩⟩
theorem sx_q_l_fnd_1 {γ : Nat → Int} {A : Nat → Nat → Int} {j : Nat} {y : Int} (hG : sx_G0 γ A) (f0 : 0 ≤ (-1) + (1 * γ 18514 + ((-1) * y + 0))) (c21 : sx_gfn (γ 18514) (1 + (1 * γ 18515 + 0)) (γ 18516) (A 2)) : ∃ a ∈ sx_r_l_fnd.2, ∃ w : Nat → Int, (∀ (i : Nat) p, a.1[i]? = some p → p.2.1 ≤ w i ∧ w i ≤ p.2.2) ∧ (∀ f ∈ a.2.1, 0 ≤ sx_d (sx_th γ (j : Int) y w) f) ∧ (∀ e, a.2.2.2.head? = some e → sx_d (sx_th γ (j : Int) y w) e = y) ∧ sx_G0 (sx_gu γ (sx_th γ (j : Int) y w) a.2.2.1) (if false = true then sx_au A 2 j y else A) := ⟨([], [((-1), [(18514, 1), (19001, (-1))])], [(18515, (1, [(18515, 1)]))], []), List.Mem.tail _ (List.Mem.head _), (fun _ => 0), fun i p hi => (by
    match i, hi with
    | n + 0, hi => simp at hi), fun f hf => (by
    simp only [List.mem_cons, List.not_mem_nil, or_false] at hf
    rcases hf with rfl
    · exact f0
    ), fun e he => (by cases he), ⟨hG.1, hG.2.1, hG.2.2.1, hG.2.2.2.1, hG.2.2.2.2.1, hG.2.2.2.2.2.1, hG.2.2.2.2.2.2.1, hG.2.2.2.2.2.2.2.1, hG.2.2.2.2.2.2.2.2.1, hG.2.2.2.2.2.2.2.2.2.1, hG.2.2.2.2.2.2.2.2.2.2.1, hG.2.2.2.2.2.2.2.2.2.2.2.1, hG.2.2.2.2.2.2.2.2.2.2.2.2.1, hG.2.2.2.2.2.2.2.2.2.2.2.2.2.1, hG.2.2.2.2.2.2.2.2.2.2.2.2.2.2.1, hG.2.2.2.2.2.2.2.2.2.2.2.2.2.2.2.1, hG.2.2.2.2.2.2.2.2.2.2.2.2.2.2.2.2.1, hG.2.2.2.2.2.2.2.2.2.2.2.2.2.2.2.2.2.1, hG.2.2.2.2.2.2.2.2.2.2.2.2.2.2.2.2.2.2.1, hG.2.2.2.2.2.2.2.2.2.2.2.2.2.2.2.2.2.2.2.1, hG.2.2.2.2.2.2.2.2.2.2.2.2.2.2.2.2.2.2.2.2.1, c21, hG.2.2.2.2.2.2.2.2.2.2.2.2.2.2.2.2.2.2.2.2.2.2.1, hG.2.2.2.2.2.2.2.2.2.2.2.2.2.2.2.2.2.2.2.2.2.2.2.1, hG.2.2.2.2.2.2.2.2.2.2.2.2.2.2.2.2.2.2.2.2.2.2.2.2⟩⟩
theorem sx_q_l_fnd_2 {γ : Nat → Int} {A : Nat → Nat → Int} {j : Nat} {y : Int} (hG : sx_G0 γ A) (f0 : 0 ≤ 0 + ((-1) * γ 18514 + (1 * y + 0))) (f1 : 0 ≤ 0 + (1 * γ 18514 + ((-1) * y + 0))) (c21 : sx_gfn (γ 18514) (γ 18515) (0 + (1 * (j : Int) + 0)) (A 2)) : ∃ a ∈ sx_r_l_fnd.2, ∃ w : Nat → Int, (∀ (i : Nat) p, a.1[i]? = some p → p.2.1 ≤ w i ∧ w i ≤ p.2.2) ∧ (∀ f ∈ a.2.1, 0 ≤ sx_d (sx_th γ (j : Int) y w) f) ∧ (∀ e, a.2.2.2.head? = some e → sx_d (sx_th γ (j : Int) y w) e = y) ∧ sx_G0 (sx_gu γ (sx_th γ (j : Int) y w) a.2.2.1) (if false = true then sx_au A 2 j y else A) := ⟨([], [(0, [(18514, (-1)), (19001, 1)]), (0, [(18514, 1), (19001, (-1))])], [(18516, (0, [(19000, 1)]))], []), List.Mem.tail _ (List.Mem.tail _ (List.Mem.head _)), (fun _ => 0), fun i p hi => (by
    match i, hi with
    | n + 0, hi => simp at hi), fun f hf => (by
    simp only [List.mem_cons, List.not_mem_nil, or_false] at hf
    rcases hf with rfl | rfl
    · exact f0
    · exact f1
    ), fun e he => (by cases he), ⟨hG.1, hG.2.1, hG.2.2.1, hG.2.2.2.1, hG.2.2.2.2.1, hG.2.2.2.2.2.1, hG.2.2.2.2.2.2.1, hG.2.2.2.2.2.2.2.1, hG.2.2.2.2.2.2.2.2.1, hG.2.2.2.2.2.2.2.2.2.1, hG.2.2.2.2.2.2.2.2.2.2.1, hG.2.2.2.2.2.2.2.2.2.2.2.1, hG.2.2.2.2.2.2.2.2.2.2.2.2.1, hG.2.2.2.2.2.2.2.2.2.2.2.2.2.1, hG.2.2.2.2.2.2.2.2.2.2.2.2.2.2.1, hG.2.2.2.2.2.2.2.2.2.2.2.2.2.2.2.1, hG.2.2.2.2.2.2.2.2.2.2.2.2.2.2.2.2.1, hG.2.2.2.2.2.2.2.2.2.2.2.2.2.2.2.2.2.1, hG.2.2.2.2.2.2.2.2.2.2.2.2.2.2.2.2.2.2.1, hG.2.2.2.2.2.2.2.2.2.2.2.2.2.2.2.2.2.2.2.1, hG.2.2.2.2.2.2.2.2.2.2.2.2.2.2.2.2.2.2.2.2.1, c21, hG.2.2.2.2.2.2.2.2.2.2.2.2.2.2.2.2.2.2.2.2.2.2.1, hG.2.2.2.2.2.2.2.2.2.2.2.2.2.2.2.2.2.2.2.2.2.2.2.1, hG.2.2.2.2.2.2.2.2.2.2.2.2.2.2.2.2.2.2.2.2.2.2.2.2⟩⟩
theorem sx_q_l_tr_0 {γ : Nat → Int} {A : Nat → Nat → Int} {j : Nat} {y : Int} (hG : sx_G0 γ A) (f0 : 0 ≤ 0 + (1 * (j : Int) + 0)) (f1 : 0 ≤ 0 + ((-1) * (j : Int) + 0)) (hv : 42 + 0 = y) : ∃ a ∈ sx_r_l_tr.2, ∃ w : Nat → Int, (∀ (i : Nat) p, a.1[i]? = some p → p.2.1 ≤ w i ∧ w i ≤ p.2.2) ∧ (∀ f ∈ a.2.1, 0 ≤ sx_d (sx_th γ (j : Int) y w) f) ∧ (∀ e, a.2.2.2.head? = some e → sx_d (sx_th γ (j : Int) y w) e = y) ∧ sx_G0 (sx_gu γ (sx_th γ (j : Int) y w) a.2.2.1) (if false = true then sx_au A 41 j y else A) := ⟨([], [(0, [(19000, 1)]), (0, [(19000, (-1))])], [], [(42, [])]), List.Mem.head _, (fun _ => 0), fun i p hi => (by
    match i, hi with
    | n + 0, hi => simp at hi), fun f hf => (by
    simp only [List.mem_cons, List.not_mem_nil, or_false] at hf
    rcases hf with rfl | rfl
    · exact f0
    · exact f1
    ), fun e he => (by cases he; exact hv), ⟨hG.1, hG.2.1, hG.2.2.1, hG.2.2.2.1, hG.2.2.2.2.1, hG.2.2.2.2.2.1, hG.2.2.2.2.2.2.1, hG.2.2.2.2.2.2.2.1, hG.2.2.2.2.2.2.2.2.1, hG.2.2.2.2.2.2.2.2.2.1, hG.2.2.2.2.2.2.2.2.2.2.1, hG.2.2.2.2.2.2.2.2.2.2.2.1, hG.2.2.2.2.2.2.2.2.2.2.2.2.1, hG.2.2.2.2.2.2.2.2.2.2.2.2.2.1, hG.2.2.2.2.2.2.2.2.2.2.2.2.2.2.1, hG.2.2.2.2.2.2.2.2.2.2.2.2.2.2.2.1, hG.2.2.2.2.2.2.2.2.2.2.2.2.2.2.2.2.1, hG.2.2.2.2.2.2.2.2.2.2.2.2.2.2.2.2.2.1, hG.2.2.2.2.2.2.2.2.2.2.2.2.2.2.2.2.2.2.1, hG.2.2.2.2.2.2.2.2.2.2.2.2.2.2.2.2.2.2.2.1, hG.2.2.2.2.2.2.2.2.2.2.2.2.2.2.2.2.2.2.2.2.1, hG.2.2.2.2.2.2.2.2.2.2.2.2.2.2.2.2.2.2.2.2.2.1, hG.2.2.2.2.2.2.2.2.2.2.2.2.2.2.2.2.2.2.2.2.2.2.1, hG.2.2.2.2.2.2.2.2.2.2.2.2.2.2.2.2.2.2.2.2.2.2.2.1, hG.2.2.2.2.2.2.2.2.2.2.2.2.2.2.2.2.2.2.2.2.2.2.2.2⟩⟩
theorem sx_q_l_tr_1 {γ : Nat → Int} {A : Nat → Nat → Int} {j : Nat} {y : Int} (hG : sx_G0 γ A) (f0 : 0 ≤ (-1) + (1 * (j : Int) + 0)) (f1 : 0 ≤ 1 + ((-1) * (j : Int) + 0)) (hv : 44 + 0 = y) : ∃ a ∈ sx_r_l_tr.2, ∃ w : Nat → Int, (∀ (i : Nat) p, a.1[i]? = some p → p.2.1 ≤ w i ∧ w i ≤ p.2.2) ∧ (∀ f ∈ a.2.1, 0 ≤ sx_d (sx_th γ (j : Int) y w) f) ∧ (∀ e, a.2.2.2.head? = some e → sx_d (sx_th γ (j : Int) y w) e = y) ∧ sx_G0 (sx_gu γ (sx_th γ (j : Int) y w) a.2.2.1) (if false = true then sx_au A 41 j y else A) := ⟨([], [((-1), [(19000, 1)]), (1, [(19000, (-1))])], [], [(44, [])]), List.Mem.tail _ (List.Mem.head _), (fun _ => 0), fun i p hi => (by
    match i, hi with
    | n + 0, hi => simp at hi), fun f hf => (by
    simp only [List.mem_cons, List.not_mem_nil, or_false] at hf
    rcases hf with rfl | rfl
    · exact f0
    · exact f1
    ), fun e he => (by cases he; exact hv), ⟨hG.1, hG.2.1, hG.2.2.1, hG.2.2.2.1, hG.2.2.2.2.1, hG.2.2.2.2.2.1, hG.2.2.2.2.2.2.1, hG.2.2.2.2.2.2.2.1, hG.2.2.2.2.2.2.2.2.1, hG.2.2.2.2.2.2.2.2.2.1, hG.2.2.2.2.2.2.2.2.2.2.1, hG.2.2.2.2.2.2.2.2.2.2.2.1, hG.2.2.2.2.2.2.2.2.2.2.2.2.1, hG.2.2.2.2.2.2.2.2.2.2.2.2.2.1, hG.2.2.2.2.2.2.2.2.2.2.2.2.2.2.1, hG.2.2.2.2.2.2.2.2.2.2.2.2.2.2.2.1, hG.2.2.2.2.2.2.2.2.2.2.2.2.2.2.2.2.1, hG.2.2.2.2.2.2.2.2.2.2.2.2.2.2.2.2.2.1, hG.2.2.2.2.2.2.2.2.2.2.2.2.2.2.2.2.2.2.1, hG.2.2.2.2.2.2.2.2.2.2.2.2.2.2.2.2.2.2.2.1, hG.2.2.2.2.2.2.2.2.2.2.2.2.2.2.2.2.2.2.2.2.1, hG.2.2.2.2.2.2.2.2.2.2.2.2.2.2.2.2.2.2.2.2.2.1, hG.2.2.2.2.2.2.2.2.2.2.2.2.2.2.2.2.2.2.2.2.2.2.1, hG.2.2.2.2.2.2.2.2.2.2.2.2.2.2.2.2.2.2.2.2.2.2.2.1, hG.2.2.2.2.2.2.2.2.2.2.2.2.2.2.2.2.2.2.2.2.2.2.2.2⟩⟩
theorem sx_q_l_tr_2 {γ : Nat → Int} {A : Nat → Nat → Int} {j : Nat} {y : Int} (hG : sx_G0 γ A) (f0 : 0 ≤ (-2) + (1 * (j : Int) + 0)) (f1 : 0 ≤ 2 + ((-1) * (j : Int) + 0)) (hv : 46 + 0 = y) : ∃ a ∈ sx_r_l_tr.2, ∃ w : Nat → Int, (∀ (i : Nat) p, a.1[i]? = some p → p.2.1 ≤ w i ∧ w i ≤ p.2.2) ∧ (∀ f ∈ a.2.1, 0 ≤ sx_d (sx_th γ (j : Int) y w) f) ∧ (∀ e, a.2.2.2.head? = some e → sx_d (sx_th γ (j : Int) y w) e = y) ∧ sx_G0 (sx_gu γ (sx_th γ (j : Int) y w) a.2.2.1) (if false = true then sx_au A 41 j y else A) := ⟨([], [((-2), [(19000, 1)]), (2, [(19000, (-1))])], [], [(46, [])]), List.Mem.tail _ (List.Mem.tail _ (List.Mem.head _)), (fun _ => 0), fun i p hi => (by
    match i, hi with
    | n + 0, hi => simp at hi), fun f hf => (by
    simp only [List.mem_cons, List.not_mem_nil, or_false] at hf
    rcases hf with rfl | rfl
    · exact f0
    · exact f1
    ), fun e he => (by cases he; exact hv), ⟨hG.1, hG.2.1, hG.2.2.1, hG.2.2.2.1, hG.2.2.2.2.1, hG.2.2.2.2.2.1, hG.2.2.2.2.2.2.1, hG.2.2.2.2.2.2.2.1, hG.2.2.2.2.2.2.2.2.1, hG.2.2.2.2.2.2.2.2.2.1, hG.2.2.2.2.2.2.2.2.2.2.1, hG.2.2.2.2.2.2.2.2.2.2.2.1, hG.2.2.2.2.2.2.2.2.2.2.2.2.1, hG.2.2.2.2.2.2.2.2.2.2.2.2.2.1, hG.2.2.2.2.2.2.2.2.2.2.2.2.2.2.1, hG.2.2.2.2.2.2.2.2.2.2.2.2.2.2.2.1, hG.2.2.2.2.2.2.2.2.2.2.2.2.2.2.2.2.1, hG.2.2.2.2.2.2.2.2.2.2.2.2.2.2.2.2.2.1, hG.2.2.2.2.2.2.2.2.2.2.2.2.2.2.2.2.2.2.1, hG.2.2.2.2.2.2.2.2.2.2.2.2.2.2.2.2.2.2.2.1, hG.2.2.2.2.2.2.2.2.2.2.2.2.2.2.2.2.2.2.2.2.1, hG.2.2.2.2.2.2.2.2.2.2.2.2.2.2.2.2.2.2.2.2.2.1, hG.2.2.2.2.2.2.2.2.2.2.2.2.2.2.2.2.2.2.2.2.2.2.1, hG.2.2.2.2.2.2.2.2.2.2.2.2.2.2.2.2.2.2.2.2.2.2.2.1, hG.2.2.2.2.2.2.2.2.2.2.2.2.2.2.2.2.2.2.2.2.2.2.2.2⟩⟩
theorem sx_q_l_tr_3 {γ : Nat → Int} {A : Nat → Nat → Int} {j : Nat} {y : Int} (hG : sx_G0 γ A) (f0 : 0 ≤ (-3) + (1 * (j : Int) + 0)) (f1 : 0 ≤ 3 + ((-1) * (j : Int) + 0)) (hv : 48 + 0 = y) : ∃ a ∈ sx_r_l_tr.2, ∃ w : Nat → Int, (∀ (i : Nat) p, a.1[i]? = some p → p.2.1 ≤ w i ∧ w i ≤ p.2.2) ∧ (∀ f ∈ a.2.1, 0 ≤ sx_d (sx_th γ (j : Int) y w) f) ∧ (∀ e, a.2.2.2.head? = some e → sx_d (sx_th γ (j : Int) y w) e = y) ∧ sx_G0 (sx_gu γ (sx_th γ (j : Int) y w) a.2.2.1) (if false = true then sx_au A 41 j y else A) := ⟨([], [((-3), [(19000, 1)]), (3, [(19000, (-1))])], [], [(48, [])]), List.Mem.tail _ (List.Mem.tail _ (List.Mem.tail _ (List.Mem.head _))), (fun _ => 0), fun i p hi => (by
    match i, hi with
    | n + 0, hi => simp at hi), fun f hf => (by
    simp only [List.mem_cons, List.not_mem_nil, or_false] at hf
    rcases hf with rfl | rfl
    · exact f0
    · exact f1
    ), fun e he => (by cases he; exact hv), ⟨hG.1, hG.2.1, hG.2.2.1, hG.2.2.2.1, hG.2.2.2.2.1, hG.2.2.2.2.2.1, hG.2.2.2.2.2.2.1, hG.2.2.2.2.2.2.2.1, hG.2.2.2.2.2.2.2.2.1, hG.2.2.2.2.2.2.2.2.2.1, hG.2.2.2.2.2.2.2.2.2.2.1, hG.2.2.2.2.2.2.2.2.2.2.2.1, hG.2.2.2.2.2.2.2.2.2.2.2.2.1, hG.2.2.2.2.2.2.2.2.2.2.2.2.2.1, hG.2.2.2.2.2.2.2.2.2.2.2.2.2.2.1, hG.2.2.2.2.2.2.2.2.2.2.2.2.2.2.2.1, hG.2.2.2.2.2.2.2.2.2.2.2.2.2.2.2.2.1, hG.2.2.2.2.2.2.2.2.2.2.2.2.2.2.2.2.2.1, hG.2.2.2.2.2.2.2.2.2.2.2.2.2.2.2.2.2.2.1, hG.2.2.2.2.2.2.2.2.2.2.2.2.2.2.2.2.2.2.2.1, hG.2.2.2.2.2.2.2.2.2.2.2.2.2.2.2.2.2.2.2.2.1, hG.2.2.2.2.2.2.2.2.2.2.2.2.2.2.2.2.2.2.2.2.2.1, hG.2.2.2.2.2.2.2.2.2.2.2.2.2.2.2.2.2.2.2.2.2.2.1, hG.2.2.2.2.2.2.2.2.2.2.2.2.2.2.2.2.2.2.2.2.2.2.2.1, hG.2.2.2.2.2.2.2.2.2.2.2.2.2.2.2.2.2.2.2.2.2.2.2.2⟩⟩
theorem sx_q_l_choice_0 {γ : Nat → Int} {A : Nat → Nat → Int} {j : Nat} {y : Int} (hG : sx_G0 γ A) (f0 : 0 ≤ 0 + (1 * y + 0)) : ∃ a ∈ sx_r_l_choice.2, ∃ w : Nat → Int, (∀ (i : Nat) p, a.1[i]? = some p → p.2.1 ≤ w i ∧ w i ≤ p.2.2) ∧ (∀ f ∈ a.2.1, 0 ≤ sx_d (sx_th γ (j : Int) y w) f) ∧ (∀ e, a.2.2.2.head? = some e → sx_d (sx_th γ (j : Int) y w) e = y) ∧ sx_G0 (sx_gu γ (sx_th γ (j : Int) y w) a.2.2.1) (if false = true then sx_au A 76 j y else A) := ⟨([], [(0, [(19001, 1)])], [], []), List.Mem.head _, (fun _ => 0), fun i p hi => (by
    match i, hi with
    | n + 0, hi => simp at hi), fun f hf => (by
    simp only [List.mem_cons, List.not_mem_nil, or_false] at hf
    rcases hf with rfl
    · exact f0
    ), fun e he => (by cases he), ⟨hG.1, hG.2.1, hG.2.2.1, hG.2.2.2.1, hG.2.2.2.2.1, hG.2.2.2.2.2.1, hG.2.2.2.2.2.2.1, hG.2.2.2.2.2.2.2.1, hG.2.2.2.2.2.2.2.2.1, hG.2.2.2.2.2.2.2.2.2.1, hG.2.2.2.2.2.2.2.2.2.2.1, hG.2.2.2.2.2.2.2.2.2.2.2.1, hG.2.2.2.2.2.2.2.2.2.2.2.2.1, hG.2.2.2.2.2.2.2.2.2.2.2.2.2.1, hG.2.2.2.2.2.2.2.2.2.2.2.2.2.2.1, hG.2.2.2.2.2.2.2.2.2.2.2.2.2.2.2.1, hG.2.2.2.2.2.2.2.2.2.2.2.2.2.2.2.2.1, hG.2.2.2.2.2.2.2.2.2.2.2.2.2.2.2.2.2.1, hG.2.2.2.2.2.2.2.2.2.2.2.2.2.2.2.2.2.2.1, hG.2.2.2.2.2.2.2.2.2.2.2.2.2.2.2.2.2.2.2.1, hG.2.2.2.2.2.2.2.2.2.2.2.2.2.2.2.2.2.2.2.2.1, hG.2.2.2.2.2.2.2.2.2.2.2.2.2.2.2.2.2.2.2.2.2.1, hG.2.2.2.2.2.2.2.2.2.2.2.2.2.2.2.2.2.2.2.2.2.2.1, hG.2.2.2.2.2.2.2.2.2.2.2.2.2.2.2.2.2.2.2.2.2.2.2.1, hG.2.2.2.2.2.2.2.2.2.2.2.2.2.2.2.2.2.2.2.2.2.2.2.2⟩⟩
theorem sx_q_l_opened_0 {γ : Nat → Int} {A : Nat → Nat → Int} {j : Nat} {y : Int} (hG : sx_G0 γ A) (f0 : 0 ≤ 0 + (1 * (j : Int) + ((-1) * y + 0))) : ∃ a ∈ sx_r_l_opened.2, ∃ w : Nat → Int, (∀ (i : Nat) p, a.1[i]? = some p → p.2.1 ≤ w i ∧ w i ≤ p.2.2) ∧ (∀ f ∈ a.2.1, 0 ≤ sx_d (sx_th γ (j : Int) y w) f) ∧ (∀ e, a.2.2.2.head? = some e → sx_d (sx_th γ (j : Int) y w) e = y) ∧ sx_G0 (sx_gu γ (sx_th γ (j : Int) y w) a.2.2.1) (if false = true then sx_au A 77 j y else A) := ⟨([], [(0, [(19000, 1), (19001, (-1))])], [], []), List.Mem.head _, (fun _ => 0), fun i p hi => (by
    match i, hi with
    | n + 0, hi => simp at hi), fun f hf => (by
    simp only [List.mem_cons, List.not_mem_nil, or_false] at hf
    rcases hf with rfl
    · exact f0
    ), fun e he => (by cases he), ⟨hG.1, hG.2.1, hG.2.2.1, hG.2.2.2.1, hG.2.2.2.2.1, hG.2.2.2.2.2.1, hG.2.2.2.2.2.2.1, hG.2.2.2.2.2.2.2.1, hG.2.2.2.2.2.2.2.2.1, hG.2.2.2.2.2.2.2.2.2.1, hG.2.2.2.2.2.2.2.2.2.2.1, hG.2.2.2.2.2.2.2.2.2.2.2.1, hG.2.2.2.2.2.2.2.2.2.2.2.2.1, hG.2.2.2.2.2.2.2.2.2.2.2.2.2.1, hG.2.2.2.2.2.2.2.2.2.2.2.2.2.2.1, hG.2.2.2.2.2.2.2.2.2.2.2.2.2.2.2.1, hG.2.2.2.2.2.2.2.2.2.2.2.2.2.2.2.2.1, hG.2.2.2.2.2.2.2.2.2.2.2.2.2.2.2.2.2.1, hG.2.2.2.2.2.2.2.2.2.2.2.2.2.2.2.2.2.2.1, hG.2.2.2.2.2.2.2.2.2.2.2.2.2.2.2.2.2.2.2.1, hG.2.2.2.2.2.2.2.2.2.2.2.2.2.2.2.2.2.2.2.2.1, hG.2.2.2.2.2.2.2.2.2.2.2.2.2.2.2.2.2.2.2.2.2.1, hG.2.2.2.2.2.2.2.2.2.2.2.2.2.2.2.2.2.2.2.2.2.2.1, hG.2.2.2.2.2.2.2.2.2.2.2.2.2.2.2.2.2.2.2.2.2.2.2.1, hG.2.2.2.2.2.2.2.2.2.2.2.2.2.2.2.2.2.2.2.2.2.2.2.2⟩⟩
theorem sx_q_l_sort_0 {γ : Nat → Int} {A : Nat → Nat → Int} {j : Nat} {y : Int} (hG : sx_G0 γ A) (f0 : 0 ≤ 0 + (1 * (j : Int) + 0)) (f1 : 0 ≤ 0 + ((-1) * (j : Int) + 0)) (hv : 0 + (1 * γ 18501 + 0) = y) : ∃ a ∈ sx_r_l_sort.2, ∃ w : Nat → Int, (∀ (i : Nat) p, a.1[i]? = some p → p.2.1 ≤ w i ∧ w i ≤ p.2.2) ∧ (∀ f ∈ a.2.1, 0 ≤ sx_d (sx_th γ (j : Int) y w) f) ∧ (∀ e, a.2.2.2.head? = some e → sx_d (sx_th γ (j : Int) y w) e = y) ∧ sx_G0 (sx_gu γ (sx_th γ (j : Int) y w) a.2.2.1) (if false = true then sx_au A 101 j y else A) := ⟨([], [(0, [(19000, 1)]), (0, [(19000, (-1))])], [], [(0, [(18501, 1)])]), List.Mem.head _, (fun _ => 0), fun i p hi => (by
    match i, hi with
    | n + 0, hi => simp at hi), fun f hf => (by
    simp only [List.mem_cons, List.not_mem_nil, or_false] at hf
    rcases hf with rfl | rfl
    · exact f0
    · exact f1
    ), fun e he => (by cases he; exact hv), ⟨hG.1, hG.2.1, hG.2.2.1, hG.2.2.2.1, hG.2.2.2.2.1, hG.2.2.2.2.2.1, hG.2.2.2.2.2.2.1, hG.2.2.2.2.2.2.2.1, hG.2.2.2.2.2.2.2.2.1, hG.2.2.2.2.2.2.2.2.2.1, hG.2.2.2.2.2.2.2.2.2.2.1, hG.2.2.2.2.2.2.2.2.2.2.2.1, hG.2.2.2.2.2.2.2.2.2.2.2.2.1, hG.2.2.2.2.2.2.2.2.2.2.2.2.2.1, hG.2.2.2.2.2.2.2.2.2.2.2.2.2.2.1, hG.2.2.2.2.2.2.2.2.2.2.2.2.2.2.2.1, hG.2.2.2.2.2.2.2.2.2.2.2.2.2.2.2.2.1, hG.2.2.2.2.2.2.2.2.2.2.2.2.2.2.2.2.2.1, hG.2.2.2.2.2.2.2.2.2.2.2.2.2.2.2.2.2.2.1, hG.2.2.2.2.2.2.2.2.2.2.2.2.2.2.2.2.2.2.2.1, hG.2.2.2.2.2.2.2.2.2.2.2.2.2.2.2.2.2.2.2.2.1, hG.2.2.2.2.2.2.2.2.2.2.2.2.2.2.2.2.2.2.2.2.2.1, hG.2.2.2.2.2.2.2.2.2.2.2.2.2.2.2.2.2.2.2.2.2.2.1, hG.2.2.2.2.2.2.2.2.2.2.2.2.2.2.2.2.2.2.2.2.2.2.2.1, hG.2.2.2.2.2.2.2.2.2.2.2.2.2.2.2.2.2.2.2.2.2.2.2.2⟩⟩
theorem sx_q_l_sort_1 {γ : Nat → Int} {A : Nat → Nat → Int} {j : Nat} {y : Int} (hG : sx_G0 γ A) (f0 : 0 ≤ (-1) + (1 * (j : Int) + 0)) (f1 : 0 ≤ 1 + ((-1) * (j : Int) + 0)) (hv : 0 + (1 * γ 18502 + 0) = y) : ∃ a ∈ sx_r_l_sort.2, ∃ w : Nat → Int, (∀ (i : Nat) p, a.1[i]? = some p → p.2.1 ≤ w i ∧ w i ≤ p.2.2) ∧ (∀ f ∈ a.2.1, 0 ≤ sx_d (sx_th γ (j : Int) y w) f) ∧ (∀ e, a.2.2.2.head? = some e → sx_d (sx_th γ (j : Int) y w) e = y) ∧ sx_G0 (sx_gu γ (sx_th γ (j : Int) y w) a.2.2.1) (if false = true then sx_au A 101 j y else A) := ⟨([], [((-1), [(19000, 1)]), (1, [(19000, (-1))])], [], [(0, [(18502, 1)])]), List.Mem.tail _ (List.Mem.head _), (fun _ => 0), fun i p hi => (by
    match i, hi with
    | n + 0, hi => simp at hi), fun f hf => (by
    simp only [List.mem_cons, List.not_mem_nil, or_false] at hf
    rcases hf with rfl | rfl
    · exact f0
    · exact f1
    ), fun e he => (by cases he; exact hv), ⟨hG.1, hG.2.1, hG.2.2.1, hG.2.2.2.1, hG.2.2.2.2.1, hG.2.2.2.2.2.1, hG.2.2.2.2.2.2.1, hG.2.2.2.2.2.2.2.1, hG.2.2.2.2.2.2.2.2.1, hG.2.2.2.2.2.2.2.2.2.1, hG.2.2.2.2.2.2.2.2.2.2.1, hG.2.2.2.2.2.2.2.2.2.2.2.1, hG.2.2.2.2.2.2.2.2.2.2.2.2.1, hG.2.2.2.2.2.2.2.2.2.2.2.2.2.1, hG.2.2.2.2.2.2.2.2.2.2.2.2.2.2.1, hG.2.2.2.2.2.2.2.2.2.2.2.2.2.2.2.1, hG.2.2.2.2.2.2.2.2.2.2.2.2.2.2.2.2.1, hG.2.2.2.2.2.2.2.2.2.2.2.2.2.2.2.2.2.1, hG.2.2.2.2.2.2.2.2.2.2.2.2.2.2.2.2.2.2.1, hG.2.2.2.2.2.2.2.2.2.2.2.2.2.2.2.2.2.2.2.1, hG.2.2.2.2.2.2.2.2.2.2.2.2.2.2.2.2.2.2.2.2.1, hG.2.2.2.2.2.2.2.2.2.2.2.2.2.2.2.2.2.2.2.2.2.1, hG.2.2.2.2.2.2.2.2.2.2.2.2.2.2.2.2.2.2.2.2.2.2.1, hG.2.2.2.2.2.2.2.2.2.2.2.2.2.2.2.2.2.2.2.2.2.2.2.1, hG.2.2.2.2.2.2.2.2.2.2.2.2.2.2.2.2.2.2.2.2.2.2.2.2⟩⟩
theorem sx_q_l_sort_2 {γ : Nat → Int} {A : Nat → Nat → Int} {j : Nat} {y : Int} (hG : sx_G0 γ A) (f0 : 0 ≤ (-2) + (1 * (j : Int) + 0)) (f1 : 0 ≤ 2 + ((-1) * (j : Int) + 0)) (hv : 0 + (1 * γ 18503 + 0) = y) : ∃ a ∈ sx_r_l_sort.2, ∃ w : Nat → Int, (∀ (i : Nat) p, a.1[i]? = some p → p.2.1 ≤ w i ∧ w i ≤ p.2.2) ∧ (∀ f ∈ a.2.1, 0 ≤ sx_d (sx_th γ (j : Int) y w) f) ∧ (∀ e, a.2.2.2.head? = some e → sx_d (sx_th γ (j : Int) y w) e = y) ∧ sx_G0 (sx_gu γ (sx_th γ (j : Int) y w) a.2.2.1) (if false = true then sx_au A 101 j y else A) := ⟨([], [((-2), [(19000, 1)]), (2, [(19000, (-1))])], [], [(0, [(18503, 1)])]), List.Mem.tail _ (List.Mem.tail _ (List.Mem.head _)), (fun _ => 0), fun i p hi => (by
    match i, hi with
    | n + 0, hi => simp at hi), fun f hf => (by
    simp only [List.mem_cons, List.not_mem_nil, or_false] at hf
    rcases hf with rfl | rfl
    · exact f0
    · exact f1
    ), fun e he => (by cases he; exact hv), ⟨hG.1, hG.2.1, hG.2.2.1, hG.2.2.2.1, hG.2.2.2.2.1, hG.2.2.2.2.2.1, hG.2.2.2.2.2.2.1, hG.2.2.2.2.2.2.2.1, hG.2.2.2.2.2.2.2.2.1, hG.2.2.2.2.2.2.2.2.2.1, hG.2.2.2.2.2.2.2.2.2.2.1, hG.2.2.2.2.2.2.2.2.2.2.2.1, hG.2.2.2.2.2.2.2.2.2.2.2.2.1, hG.2.2.2.2.2.2.2.2.2.2.2.2.2.1, hG.2.2.2.2.2.2.2.2.2.2.2.2.2.2.1, hG.2.2.2.2.2.2.2.2.2.2.2.2.2.2.2.1, hG.2.2.2.2.2.2.2.2.2.2.2.2.2.2.2.2.1, hG.2.2.2.2.2.2.2.2.2.2.2.2.2.2.2.2.2.1, hG.2.2.2.2.2.2.2.2.2.2.2.2.2.2.2.2.2.2.1, hG.2.2.2.2.2.2.2.2.2.2.2.2.2.2.2.2.2.2.2.1, hG.2.2.2.2.2.2.2.2.2.2.2.2.2.2.2.2.2.2.2.2.1, hG.2.2.2.2.2.2.2.2.2.2.2.2.2.2.2.2.2.2.2.2.2.1, hG.2.2.2.2.2.2.2.2.2.2.2.2.2.2.2.2.2.2.2.2.2.2.1, hG.2.2.2.2.2.2.2.2.2.2.2.2.2.2.2.2.2.2.2.2.2.2.2.1, hG.2.2.2.2.2.2.2.2.2.2.2.2.2.2.2.2.2.2.2.2.2.2.2.2⟩⟩
theorem sx_q_l_sort_3 {γ : Nat → Int} {A : Nat → Nat → Int} {j : Nat} {y : Int} (hG : sx_G0 γ A) (f0 : 0 ≤ (-3) + (1 * (j : Int) + 0)) (f1 : 0 ≤ 3 + ((-1) * (j : Int) + 0)) (hv : 0 + (1 * γ 18504 + 0) = y) : ∃ a ∈ sx_r_l_sort.2, ∃ w : Nat → Int, (∀ (i : Nat) p, a.1[i]? = some p → p.2.1 ≤ w i ∧ w i ≤ p.2.2) ∧ (∀ f ∈ a.2.1, 0 ≤ sx_d (sx_th γ (j : Int) y w) f) ∧ (∀ e, a.2.2.2.head? = some e → sx_d (sx_th γ (j : Int) y w) e = y) ∧ sx_G0 (sx_gu γ (sx_th γ (j : Int) y w) a.2.2.1) (if false = true then sx_au A 101 j y else A) := ⟨([], [((-3), [(19000, 1)]), (3, [(19000, (-1))])], [], [(0, [(18504, 1)])]), List.Mem.tail _ (List.Mem.tail _ (List.Mem.tail _ (List.Mem.head _))), (fun _ => 0), fun i p hi => (by
    match i, hi with
    | n + 0, hi => simp at hi), fun f hf => (by
    simp only [List.mem_cons, List.not_mem_nil, or_false] at hf
    rcases hf with rfl | rfl
    · exact f0
    · exact f1
    ), fun e he => (by cases he; exact hv), ⟨hG.1, hG.2.1, hG.2.2.1, hG.2.2.2.1, hG.2.2.2.2.1, hG.2.2.2.2.2.1, hG.2.2.2.2.2.2.1, hG.2.2.2.2.2.2.2.1, hG.2.2.2.2.2.2.2.2.1, hG.2.2.2.2.2.2.2.2.2.1, hG.2.2.2.2.2.2.2.2.2.2.1, hG.2.2.2.2.2.2.2.2.2.2.2.1, hG.2.2.2.2.2.2.2.2.2.2.2.2.1, hG.2.2.2.2.2.2.2.2.2.2.2.2.2.1, hG.2.2.2.2.2.2.2.2.2.2.2.2.2.2.1, hG.2.2.2.2.2.2.2.2.2.2.2.2.2.2.2.1, hG.2.2.2.2.2.2.2.2.2.2.2.2.2.2.2.2.1, hG.2.2.2.2.2.2.2.2.2.2.2.2.2.2.2.2.2.1, hG.2.2.2.2.2.2.2.2.2.2.2.2.2.2.2.2.2.2.1, hG.2.2.2.2.2.2.2.2.2.2.2.2.2.2.2.2.2.2.2.1, hG.2.2.2.2.2.2.2.2.2.2.2.2.2.2.2.2.2.2.2.2.1, hG.2.2.2.2.2.2.2.2.2.2.2.2.2.2.2.2.2.2.2.2.2.1, hG.2.2.2.2.2.2.2.2.2.2.2.2.2.2.2.2.2.2.2.2.2.2.1, hG.2.2.2.2.2.2.2.2.2.2.2.2.2.2.2.2.2.2.2.2.2.2.2.1, hG.2.2.2.2.2.2.2.2.2.2.2.2.2.2.2.2.2.2.2.2.2.2.2.2⟩⟩
theorem sx_q_l_trayMany_0 {γ : Nat → Int} {A : Nat → Nat → Int} {j : Nat} {y : Int} (hG : sx_G0 γ A) (f0 : 0 ≤ 0 + (1 * (j : Int) + 0)) (f1 : 0 ≤ 0 + ((-1) * (j : Int) + 0)) (hv : 0 + (1 * γ 18505 + 0) = y) : ∃ a ∈ sx_r_l_trayMany.2, ∃ w : Nat → Int, (∀ (i : Nat) p, a.1[i]? = some p → p.2.1 ≤ w i ∧ w i ≤ p.2.2) ∧ (∀ f ∈ a.2.1, 0 ≤ sx_d (sx_th γ (j : Int) y w) f) ∧ (∀ e, a.2.2.2.head? = some e → sx_d (sx_th γ (j : Int) y w) e = y) ∧ sx_G0 (sx_gu γ (sx_th γ (j : Int) y w) a.2.2.1) (if false = true then sx_au A 102 j y else A) := ⟨([], [(0, [(19000, 1)]), (0, [(19000, (-1))])], [], [(0, [(18505, 1)])]), List.Mem.head _, (fun _ => 0), fun i p hi => (by
    match i, hi with
    | n + 0, hi => simp at hi), fun f hf => (by
    simp only [List.mem_cons, List.not_mem_nil, or_false] at hf
    rcases hf with rfl | rfl
    · exact f0
    · exact f1
    ), fun e he => (by cases he; exact hv), ⟨hG.1, hG.2.1, hG.2.2.1, hG.2.2.2.1, hG.2.2.2.2.1, hG.2.2.2.2.2.1, hG.2.2.2.2.2.2.1, hG.2.2.2.2.2.2.2.1, hG.2.2.2.2.2.2.2.2.1, hG.2.2.2.2.2.2.2.2.2.1, hG.2.2.2.2.2.2.2.2.2.2.1, hG.2.2.2.2.2.2.2.2.2.2.2.1, hG.2.2.2.2.2.2.2.2.2.2.2.2.1, hG.2.2.2.2.2.2.2.2.2.2.2.2.2.1, hG.2.2.2.2.2.2.2.2.2.2.2.2.2.2.1, hG.2.2.2.2.2.2.2.2.2.2.2.2.2.2.2.1, hG.2.2.2.2.2.2.2.2.2.2.2.2.2.2.2.2.1, hG.2.2.2.2.2.2.2.2.2.2.2.2.2.2.2.2.2.1, hG.2.2.2.2.2.2.2.2.2.2.2.2.2.2.2.2.2.2.1, hG.2.2.2.2.2.2.2.2.2.2.2.2.2.2.2.2.2.2.2.1, hG.2.2.2.2.2.2.2.2.2.2.2.2.2.2.2.2.2.2.2.2.1, hG.2.2.2.2.2.2.2.2.2.2.2.2.2.2.2.2.2.2.2.2.2.1, hG.2.2.2.2.2.2.2.2.2.2.2.2.2.2.2.2.2.2.2.2.2.2.1, hG.2.2.2.2.2.2.2.2.2.2.2.2.2.2.2.2.2.2.2.2.2.2.2.1, hG.2.2.2.2.2.2.2.2.2.2.2.2.2.2.2.2.2.2.2.2.2.2.2.2⟩⟩
theorem sx_q_l_trayMany_1 {γ : Nat → Int} {A : Nat → Nat → Int} {j : Nat} {y : Int} (hG : sx_G0 γ A) (f0 : 0 ≤ (-1) + (1 * (j : Int) + 0)) (f1 : 0 ≤ 1 + ((-1) * (j : Int) + 0)) (hv : 0 + (1 * γ 18506 + 0) = y) : ∃ a ∈ sx_r_l_trayMany.2, ∃ w : Nat → Int, (∀ (i : Nat) p, a.1[i]? = some p → p.2.1 ≤ w i ∧ w i ≤ p.2.2) ∧ (∀ f ∈ a.2.1, 0 ≤ sx_d (sx_th γ (j : Int) y w) f) ∧ (∀ e, a.2.2.2.head? = some e → sx_d (sx_th γ (j : Int) y w) e = y) ∧ sx_G0 (sx_gu γ (sx_th γ (j : Int) y w) a.2.2.1) (if false = true then sx_au A 102 j y else A) := ⟨([], [((-1), [(19000, 1)]), (1, [(19000, (-1))])], [], [(0, [(18506, 1)])]), List.Mem.tail _ (List.Mem.head _), (fun _ => 0), fun i p hi => (by
    match i, hi with
    | n + 0, hi => simp at hi), fun f hf => (by
    simp only [List.mem_cons, List.not_mem_nil, or_false] at hf
    rcases hf with rfl | rfl
    · exact f0
    · exact f1
    ), fun e he => (by cases he; exact hv), ⟨hG.1, hG.2.1, hG.2.2.1, hG.2.2.2.1, hG.2.2.2.2.1, hG.2.2.2.2.2.1, hG.2.2.2.2.2.2.1, hG.2.2.2.2.2.2.2.1, hG.2.2.2.2.2.2.2.2.1, hG.2.2.2.2.2.2.2.2.2.1, hG.2.2.2.2.2.2.2.2.2.2.1, hG.2.2.2.2.2.2.2.2.2.2.2.1, hG.2.2.2.2.2.2.2.2.2.2.2.2.1, hG.2.2.2.2.2.2.2.2.2.2.2.2.2.1, hG.2.2.2.2.2.2.2.2.2.2.2.2.2.2.1, hG.2.2.2.2.2.2.2.2.2.2.2.2.2.2.2.1, hG.2.2.2.2.2.2.2.2.2.2.2.2.2.2.2.2.1, hG.2.2.2.2.2.2.2.2.2.2.2.2.2.2.2.2.2.1, hG.2.2.2.2.2.2.2.2.2.2.2.2.2.2.2.2.2.2.1, hG.2.2.2.2.2.2.2.2.2.2.2.2.2.2.2.2.2.2.2.1, hG.2.2.2.2.2.2.2.2.2.2.2.2.2.2.2.2.2.2.2.2.1, hG.2.2.2.2.2.2.2.2.2.2.2.2.2.2.2.2.2.2.2.2.2.1, hG.2.2.2.2.2.2.2.2.2.2.2.2.2.2.2.2.2.2.2.2.2.2.1, hG.2.2.2.2.2.2.2.2.2.2.2.2.2.2.2.2.2.2.2.2.2.2.2.1, hG.2.2.2.2.2.2.2.2.2.2.2.2.2.2.2.2.2.2.2.2.2.2.2.2⟩⟩
theorem sx_q_l_trayMany_2 {γ : Nat → Int} {A : Nat → Nat → Int} {j : Nat} {y : Int} (hG : sx_G0 γ A) (f0 : 0 ≤ (-2) + (1 * (j : Int) + 0)) (f1 : 0 ≤ 2 + ((-1) * (j : Int) + 0)) (hv : 0 + (1 * γ 18507 + 0) = y) : ∃ a ∈ sx_r_l_trayMany.2, ∃ w : Nat → Int, (∀ (i : Nat) p, a.1[i]? = some p → p.2.1 ≤ w i ∧ w i ≤ p.2.2) ∧ (∀ f ∈ a.2.1, 0 ≤ sx_d (sx_th γ (j : Int) y w) f) ∧ (∀ e, a.2.2.2.head? = some e → sx_d (sx_th γ (j : Int) y w) e = y) ∧ sx_G0 (sx_gu γ (sx_th γ (j : Int) y w) a.2.2.1) (if false = true then sx_au A 102 j y else A) := ⟨([], [((-2), [(19000, 1)]), (2, [(19000, (-1))])], [], [(0, [(18507, 1)])]), List.Mem.tail _ (List.Mem.tail _ (List.Mem.head _)), (fun _ => 0), fun i p hi => (by
    match i, hi with
    | n + 0, hi => simp at hi), fun f hf => (by
    simp only [List.mem_cons, List.not_mem_nil, or_false] at hf
    rcases hf with rfl | rfl
    · exact f0
    · exact f1
    ), fun e he => (by cases he; exact hv), ⟨hG.1, hG.2.1, hG.2.2.1, hG.2.2.2.1, hG.2.2.2.2.1, hG.2.2.2.2.2.1, hG.2.2.2.2.2.2.1, hG.2.2.2.2.2.2.2.1, hG.2.2.2.2.2.2.2.2.1, hG.2.2.2.2.2.2.2.2.2.1, hG.2.2.2.2.2.2.2.2.2.2.1, hG.2.2.2.2.2.2.2.2.2.2.2.1, hG.2.2.2.2.2.2.2.2.2.2.2.2.1, hG.2.2.2.2.2.2.2.2.2.2.2.2.2.1, hG.2.2.2.2.2.2.2.2.2.2.2.2.2.2.1, hG.2.2.2.2.2.2.2.2.2.2.2.2.2.2.2.1, hG.2.2.2.2.2.2.2.2.2.2.2.2.2.2.2.2.1, hG.2.2.2.2.2.2.2.2.2.2.2.2.2.2.2.2.2.1, hG.2.2.2.2.2.2.2.2.2.2.2.2.2.2.2.2.2.2.1, hG.2.2.2.2.2.2.2.2.2.2.2.2.2.2.2.2.2.2.2.1, hG.2.2.2.2.2.2.2.2.2.2.2.2.2.2.2.2.2.2.2.2.1, hG.2.2.2.2.2.2.2.2.2.2.2.2.2.2.2.2.2.2.2.2.2.1, hG.2.2.2.2.2.2.2.2.2.2.2.2.2.2.2.2.2.2.2.2.2.2.1, hG.2.2.2.2.2.2.2.2.2.2.2.2.2.2.2.2.2.2.2.2.2.2.2.1, hG.2.2.2.2.2.2.2.2.2.2.2.2.2.2.2.2.2.2.2.2.2.2.2.2⟩⟩
theorem sx_q_l_trayMany_3 {γ : Nat → Int} {A : Nat → Nat → Int} {j : Nat} {y : Int} (hG : sx_G0 γ A) (f0 : 0 ≤ (-3) + (1 * (j : Int) + 0)) (f1 : 0 ≤ 3 + ((-1) * (j : Int) + 0)) (hv : 0 + (1 * γ 18508 + 0) = y) : ∃ a ∈ sx_r_l_trayMany.2, ∃ w : Nat → Int, (∀ (i : Nat) p, a.1[i]? = some p → p.2.1 ≤ w i ∧ w i ≤ p.2.2) ∧ (∀ f ∈ a.2.1, 0 ≤ sx_d (sx_th γ (j : Int) y w) f) ∧ (∀ e, a.2.2.2.head? = some e → sx_d (sx_th γ (j : Int) y w) e = y) ∧ sx_G0 (sx_gu γ (sx_th γ (j : Int) y w) a.2.2.1) (if false = true then sx_au A 102 j y else A) := ⟨([], [((-3), [(19000, 1)]), (3, [(19000, (-1))])], [], [(0, [(18508, 1)])]), List.Mem.tail _ (List.Mem.tail _ (List.Mem.tail _ (List.Mem.head _))), (fun _ => 0), fun i p hi => (by
    match i, hi with
    | n + 0, hi => simp at hi), fun f hf => (by
    simp only [List.mem_cons, List.not_mem_nil, or_false] at hf
    rcases hf with rfl | rfl
    · exact f0
    · exact f1
    ), fun e he => (by cases he; exact hv), ⟨hG.1, hG.2.1, hG.2.2.1, hG.2.2.2.1, hG.2.2.2.2.1, hG.2.2.2.2.2.1, hG.2.2.2.2.2.2.1, hG.2.2.2.2.2.2.2.1, hG.2.2.2.2.2.2.2.2.1, hG.2.2.2.2.2.2.2.2.2.1, hG.2.2.2.2.2.2.2.2.2.2.1, hG.2.2.2.2.2.2.2.2.2.2.2.1, hG.2.2.2.2.2.2.2.2.2.2.2.2.1, hG.2.2.2.2.2.2.2.2.2.2.2.2.2.1, hG.2.2.2.2.2.2.2.2.2.2.2.2.2.2.1, hG.2.2.2.2.2.2.2.2.2.2.2.2.2.2.2.1, hG.2.2.2.2.2.2.2.2.2.2.2.2.2.2.2.2.1, hG.2.2.2.2.2.2.2.2.2.2.2.2.2.2.2.2.2.1, hG.2.2.2.2.2.2.2.2.2.2.2.2.2.2.2.2.2.2.1, hG.2.2.2.2.2.2.2.2.2.2.2.2.2.2.2.2.2.2.2.1, hG.2.2.2.2.2.2.2.2.2.2.2.2.2.2.2.2.2.2.2.2.1, hG.2.2.2.2.2.2.2.2.2.2.2.2.2.2.2.2.2.2.2.2.2.1, hG.2.2.2.2.2.2.2.2.2.2.2.2.2.2.2.2.2.2.2.2.2.2.1, hG.2.2.2.2.2.2.2.2.2.2.2.2.2.2.2.2.2.2.2.2.2.2.2.1, hG.2.2.2.2.2.2.2.2.2.2.2.2.2.2.2.2.2.2.2.2.2.2.2.2⟩⟩
theorem sx_q_l_gnd_0 {γ : Nat → Int} {A : Nat → Nat → Int} {j : Nat} {y : Int} (hG : sx_G0 γ A) (f0 : 0 ≤ (-1) + ((-1) * γ 18517 + (1 * y + 0))) (c22 : sx_gfn (γ 18517) (1 + (1 * γ 18518 + 0)) (γ 18519) (A 104)) : ∃ a ∈ sx_r_l_gnd.2, ∃ w : Nat → Int, (∀ (i : Nat) p, a.1[i]? = some p → p.2.1 ≤ w i ∧ w i ≤ p.2.2) ∧ (∀ f ∈ a.2.1, 0 ≤ sx_d (sx_th γ (j : Int) y w) f) ∧ (∀ e, a.2.2.2.head? = some e → sx_d (sx_th γ (j : Int) y w) e = y) ∧ sx_G0 (sx_gu γ (sx_th γ (j : Int) y w) a.2.2.1) (if false = true then sx_au A 104 j y else A) := ⟨([], [((-1), [(18517, (-1)), (19001, 1)])], [(18518, (1, [(18518, 1)]))], []), List.Mem.head _, (fun _ => 0), fun i p hi => (by
    match i, hi with
    | n + 0, hi => simp at hi), fun f hf => (by
    simp only [List.mem_cons, List.not_mem_nil, or_false] at hf
    rcases hf with rfl
    · exact f0
    ), fun e he => (by cases he), ⟨hG.1, hG.2.1, hG.2.2.1, hG.2.2.2.1, hG.2.2.2.2.1, hG.2.2.2.2.2.1, hG.2.2.2.2.2.2.1, hG.2.2.2.2.2.2.2.1, hG.2.2.2.2.2.2.2.2.1, hG.2.2.2.2.2.2.2.2.2.1, hG.2.2.2.2.2.2.2.2.2.2.1, hG.2.2.2.2.2.2.2.2.2.2.2.1, hG.2.2.2.2.2.2.2.2.2.2.2.2.1, hG.2.2.2.2.2.2.2.2.2.2.2.2.2.1, hG.2.2.2.2.2.2.2.2.2.2.2.2.2.2.1, hG.2.2.2.2.2.2.2.2.2.2.2.2.2.2.2.1, hG.2.2.2.2.2.2.2.2.2.2.2.2.2.2.2.2.1, hG.2.2.2.2.2.2.2.2.2.2.2.2.2.2.2.2.2.1, hG.2.2.2.2.2.2.2.2.2.2.2.2.2.2.2.2.2.2.1, hG.2.2.2.2.2.2.2.2.2.2.2.2.2.2.2.2.2.2.2.1, hG.2.2.2.2.2.2.2.2.2.2.2.2.2.2.2.2.2.2.2.2.1, hG.2.2.2.2.2.2.2.2.2.2.2.2.2.2.2.2.2.2.2.2.2.1, c22, hG.2.2.2.2.2.2.2.2.2.2.2.2.2.2.2.2.2.2.2.2.2.2.2.1, hG.2.2.2.2.2.2.2.2.2.2.2.2.2.2.2.2.2.2.2.2.2.2.2.2⟩⟩
theorem sx_q_l_gnd_1 {γ : Nat → Int} {A : Nat → Nat → Int} {j : Nat} {y : Int} (hG : sx_G0 γ A) (f0 : 0 ≤ (-1) + (1 * γ 18517 + ((-1) * y + 0))) (c22 : sx_gfn (γ 18517) (1 + (1 * γ 18518 + 0)) (γ 18519) (A 104)) : ∃ a ∈ sx_r_l_gnd.2, ∃ w : Nat → Int, (∀ (i : Nat) p, a.1[i]? = some p → p.2.1 ≤ w i ∧ w i ≤ p.2.2) ∧ (∀ f ∈ a.2.1, 0 ≤ sx_d (sx_th γ (j : Int) y w) f) ∧ (∀ e, a.2.2.2.head? = some e → sx_d (sx_th γ (j : Int) y w) e = y) ∧ sx_G0 (sx_gu γ (sx_th γ (j : Int) y w) a.2.2.1) (if false = true then sx_au A 104 j y else A) := ⟨([], [((-1), [(18517, 1), (19001, (-1))])], [(18518, (1, [(18518, 1)]))], []), List.Mem.tail _ (List.Mem.head _), (fun _ => 0), fun i p hi => (by
    match i, hi with
    | n + 0, hi => simp at hi), fun f hf => (by
    simp only [List.mem_cons, List.not_mem_nil, or_false] at hf
    rcases hf with rfl
    · exact f0
    ), fun e he => (by cases he), ⟨hG.1, hG.2.1, hG.2.2.1, hG.2.2.2.1, hG.2.2.2.2.1, hG.2.2.2.2.2.1, hG.2.2.2.2.2.2.1, hG.2.2.2.2.2.2.2.1, hG.2.2.2.2.2.2.2.2.1, hG.2.2.2.2.2.2.2.2.2.1, hG.2.2.2.2.2.2.2.2.2.2.1, hG.2.2.2.2.2.2.2.2.2.2.2.1, hG.2.2.2.2.2.2.2.2.2.2.2.2.1, hG.2.2.2.2.2.2.2.2.2.2.2.2.2.1, hG.2.2.2.2.2.2.2.2.2.2.2.2.2.2.1, hG.2.2.2.2.2.2.2.2.2.2.2.2.2.2.2.1, hG.2.2.2.2.2.2.2.2.2.2.2.2.2.2.2.2.1, hG.2.2.2.2.2.2.2.2.2.2.2.2.2.2.2.2.2.1, hG.2.2.2.2.2.2.2.2.2.2.2.2.2.2.2.2.2.2.1, hG.2.2.2.2.2.2.2.2.2.2.2.2.2.2.2.2.2.2.2.1, hG.2.2.2.2.2.2.2.2.2.2.2.2.2.2.2.2.2.2.2.2.1, hG.2.2.2.2.2.2.2.2.2.2.2.2.2.2.2.2.2.2.2.2.2.1, c22, hG.2.2.2.2.2.2.2.2.2.2.2.2.2.2.2.2.2.2.2.2.2.2.2.1, hG.2.2.2.2.2.2.2.2.2.2.2.2.2.2.2.2.2.2.2.2.2.2.2.2⟩⟩
theorem sx_q_l_gnd_2 {γ : Nat → Int} {A : Nat → Nat → Int} {j : Nat} {y : Int} (hG : sx_G0 γ A) (f0 : 0 ≤ 0 + ((-1) * γ 18517 + (1 * y + 0))) (f1 : 0 ≤ 0 + (1 * γ 18517 + ((-1) * y + 0))) (c22 : sx_gfn (γ 18517) (γ 18518) (0 + (1 * (j : Int) + 0)) (A 104)) : ∃ a ∈ sx_r_l_gnd.2, ∃ w : Nat → Int, (∀ (i : Nat) p, a.1[i]? = some p → p.2.1 ≤ w i ∧ w i ≤ p.2.2) ∧ (∀ f ∈ a.2.1, 0 ≤ sx_d (sx_th γ (j : Int) y w) f) ∧ (∀ e, a.2.2.2.head? = some e → sx_d (sx_th γ (j : Int) y w) e = y) ∧ sx_G0 (sx_gu γ (sx_th γ (j : Int) y w) a.2.2.1) (if false = true then sx_au A 104 j y else A) := ⟨([], [(0, [(18517, (-1)), (19001, 1)]), (0, [(18517, 1), (19001, (-1))])], [(18519, (0, [(19000, 1)]))], []), List.Mem.tail _ (List.Mem.tail _ (List.Mem.head _)), (fun _ => 0), fun i p hi => (by
    match i, hi with
    | n + 0, hi => simp at hi), fun f hf => (by
    simp only [List.mem_cons, List.not_mem_nil, or_false] at hf
    rcases hf with rfl | rfl
    · exact f0
    · exact f1
    ), fun e he => (by cases he), ⟨hG.1, hG.2.1, hG.2.2.1, hG.2.2.2.1, hG.2.2.2.2.1, hG.2.2.2.2.2.1, hG.2.2.2.2.2.2.1, hG.2.2.2.2.2.2.2.1, hG.2.2.2.2.2.2.2.2.1, hG.2.2.2.2.2.2.2.2.2.1, hG.2.2.2.2.2.2.2.2.2.2.1, hG.2.2.2.2.2.2.2.2.2.2.2.1, hG.2.2.2.2.2.2.2.2.2.2.2.2.1, hG.2.2.2.2.2.2.2.2.2.2.2.2.2.1, hG.2.2.2.2.2.2.2.2.2.2.2.2.2.2.1, hG.2.2.2.2.2.2.2.2.2.2.2.2.2.2.2.1, hG.2.2.2.2.2.2.2.2.2.2.2.2.2.2.2.2.1, hG.2.2.2.2.2.2.2.2.2.2.2.2.2.2.2.2.2.1, hG.2.2.2.2.2.2.2.2.2.2.2.2.2.2.2.2.2.2.1, hG.2.2.2.2.2.2.2.2.2.2.2.2.2.2.2.2.2.2.2.1, hG.2.2.2.2.2.2.2.2.2.2.2.2.2.2.2.2.2.2.2.2.1, hG.2.2.2.2.2.2.2.2.2.2.2.2.2.2.2.2.2.2.2.2.2.1, c22, hG.2.2.2.2.2.2.2.2.2.2.2.2.2.2.2.2.2.2.2.2.2.2.2.1, hG.2.2.2.2.2.2.2.2.2.2.2.2.2.2.2.2.2.2.2.2.2.2.2.2⟩⟩
theorem sx_q_l_tx0_0 {γ : Nat → Int} {A : Nat → Nat → Int} {j : Nat} {y : Int} (hG : sx_G0 γ A) (hv : 0 + (1 * γ 18497 + 0) = y) : ∃ a ∈ sx_r_l_tx0.2, ∃ w : Nat → Int, (∀ (i : Nat) p, a.1[i]? = some p → p.2.1 ≤ w i ∧ w i ≤ p.2.2) ∧ (∀ f ∈ a.2.1, 0 ≤ sx_d (sx_th γ (j : Int) y w) f) ∧ (∀ e, a.2.2.2.head? = some e → sx_d (sx_th γ (j : Int) y w) e = y) ∧ sx_G0 (sx_gu γ (sx_th γ (j : Int) y w) a.2.2.1) (if false = true then sx_au A 110 j y else A) := ⟨([], [], [], [(0, [(18497, 1)])]), List.Mem.head _, (fun _ => 0), fun i p hi => (by
    match i, hi with
    | n + 0, hi => simp at hi), fun f hf => (by cases hf), fun e he => (by cases he; exact hv), ⟨hG.1, hG.2.1, hG.2.2.1, hG.2.2.2.1, hG.2.2.2.2.1, hG.2.2.2.2.2.1, hG.2.2.2.2.2.2.1, hG.2.2.2.2.2.2.2.1, hG.2.2.2.2.2.2.2.2.1, hG.2.2.2.2.2.2.2.2.2.1, hG.2.2.2.2.2.2.2.2.2.2.1, hG.2.2.2.2.2.2.2.2.2.2.2.1, hG.2.2.2.2.2.2.2.2.2.2.2.2.1, hG.2.2.2.2.2.2.2.2.2.2.2.2.2.1, hG.2.2.2.2.2.2.2.2.2.2.2.2.2.2.1, hG.2.2.2.2.2.2.2.2.2.2.2.2.2.2.2.1, hG.2.2.2.2.2.2.2.2.2.2.2.2.2.2.2.2.1, hG.2.2.2.2.2.2.2.2.2.2.2.2.2.2.2.2.2.1, hG.2.2.2.2.2.2.2.2.2.2.2.2.2.2.2.2.2.2.1, hG.2.2.2.2.2.2.2.2.2.2.2.2.2.2.2.2.2.2.2.1, hG.2.2.2.2.2.2.2.2.2.2.2.2.2.2.2.2.2.2.2.2.1, hG.2.2.2.2.2.2.2.2.2.2.2.2.2.2.2.2.2.2.2.2.2.1, hG.2.2.2.2.2.2.2.2.2.2.2.2.2.2.2.2.2.2.2.2.2.2.1, hG.2.2.2.2.2.2.2.2.2.2.2.2.2.2.2.2.2.2.2.2.2.2.2.1, hG.2.2.2.2.2.2.2.2.2.2.2.2.2.2.2.2.2.2.2.2.2.2.2.2⟩⟩
theorem sx_q_l_tx_0 {γ : Nat → Int} {A : Nat → Nat → Int} {j : Nat} {y : Int} (hG : sx_G0 γ A) (c8 : sx_g7 (0 + (1 * (j : Int) + 0)) (0 + (1 * y + 0)) (A 110)) : ∃ a ∈ sx_r_l_tx.2, ∃ w : Nat → Int, (∀ (i : Nat) p, a.1[i]? = some p → p.2.1 ≤ w i ∧ w i ≤ p.2.2) ∧ (∀ f ∈ a.2.1, 0 ≤ sx_d (sx_th γ (j : Int) y w) f) ∧ (∀ e, a.2.2.2.head? = some e → sx_d (sx_th γ (j : Int) y w) e = y) ∧ sx_G0 (sx_gu γ (sx_th γ (j : Int) y w) a.2.2.1) (if false = true then sx_au A 110 j y else A) := ⟨([], [], [(18496, (0, [(19000, 1)])), (18497, (0, [(19001, 1)]))], []), List.Mem.head _, (fun _ => 0), fun i p hi => (by
    match i, hi with
    | n + 0, hi => simp at hi), fun f hf => (by cases hf), fun e he => (by cases he), ⟨hG.1, hG.2.1, hG.2.2.1, hG.2.2.2.1, hG.2.2.2.2.1, hG.2.2.2.2.2.1, hG.2.2.2.2.2.2.1, hG.2.2.2.2.2.2.2.1, c8, hG.2.2.2.2.2.2.2.2.2.1, hG.2.2.2.2.2.2.2.2.2.2.1, hG.2.2.2.2.2.2.2.2.2.2.2.1, hG.2.2.2.2.2.2.2.2.2.2.2.2.1, hG.2.2.2.2.2.2.2.2.2.2.2.2.2.1, hG.2.2.2.2.2.2.2.2.2.2.2.2.2.2.1, hG.2.2.2.2.2.2.2.2.2.2.2.2.2.2.2.1, hG.2.2.2.2.2.2.2.2.2.2.2.2.2.2.2.2.1, hG.2.2.2.2.2.2.2.2.2.2.2.2.2.2.2.2.2.1, hG.2.2.2.2.2.2.2.2.2.2.2.2.2.2.2.2.2.2.1, hG.2.2.2.2.2.2.2.2.2.2.2.2.2.2.2.2.2.2.2.1, hG.2.2.2.2.2.2.2.2.2.2.2.2.2.2.2.2.2.2.2.2.1, hG.2.2.2.2.2.2.2.2.2.2.2.2.2.2.2.2.2.2.2.2.2.1, hG.2.2.2.2.2.2.2.2.2.2.2.2.2.2.2.2.2.2.2.2.2.2.1, hG.2.2.2.2.2.2.2.2.2.2.2.2.2.2.2.2.2.2.2.2.2.2.2.1, hG.2.2.2.2.2.2.2.2.2.2.2.2.2.2.2.2.2.2.2.2.2.2.2.2⟩⟩
theorem sx_q_l_say_0 {γ : Nat → Int} {A : Nat → Nat → Int} {j : Nat} {y : Int} (hG : sx_G0 γ A) (c12 : sx_x2 (γ 18461) (γ 18462) (γ 18463) (γ 18464) (γ 18465) (γ 18466) (γ 18467) (γ 18468) (γ 18469) (γ 18470) (0 + (1 * (j : Int) + 0)) (0 + (1 * y + 0)) (γ 18473) (A 117) (A 119) (A 120) (A 121) (A 116) (A 114) (A 111)) : ∃ a ∈ sx_r_l_say.2, ∃ w : Nat → Int, (∀ (i : Nat) p, a.1[i]? = some p → p.2.1 ≤ w i ∧ w i ≤ p.2.2) ∧ (∀ f ∈ a.2.1, 0 ≤ sx_d (sx_th γ (j : Int) y w) f) ∧ (∀ e, a.2.2.2.head? = some e → sx_d (sx_th γ (j : Int) y w) e = y) ∧ sx_G0 (sx_gu γ (sx_th γ (j : Int) y w) a.2.2.1) (if false = true then sx_au A 111 j y else A) := ⟨([], [], [(18471, (0, [(19000, 1)])), (18472, (0, [(19001, 1)]))], []), List.Mem.head _, (fun _ => 0), fun i p hi => (by
    match i, hi with
    | n + 0, hi => simp at hi), fun f hf => (by cases hf), fun e he => (by cases he), ⟨hG.1, hG.2.1, hG.2.2.1, hG.2.2.2.1, hG.2.2.2.2.1, hG.2.2.2.2.2.1, hG.2.2.2.2.2.2.1, hG.2.2.2.2.2.2.2.1, hG.2.2.2.2.2.2.2.2.1, hG.2.2.2.2.2.2.2.2.2.1, hG.2.2.2.2.2.2.2.2.2.2.1, hG.2.2.2.2.2.2.2.2.2.2.2.1, c12, hG.2.2.2.2.2.2.2.2.2.2.2.2.2.1, hG.2.2.2.2.2.2.2.2.2.2.2.2.2.2.1, hG.2.2.2.2.2.2.2.2.2.2.2.2.2.2.2.1, hG.2.2.2.2.2.2.2.2.2.2.2.2.2.2.2.2.1, hG.2.2.2.2.2.2.2.2.2.2.2.2.2.2.2.2.2.1, hG.2.2.2.2.2.2.2.2.2.2.2.2.2.2.2.2.2.2.1, hG.2.2.2.2.2.2.2.2.2.2.2.2.2.2.2.2.2.2.2.1, hG.2.2.2.2.2.2.2.2.2.2.2.2.2.2.2.2.2.2.2.2.1, hG.2.2.2.2.2.2.2.2.2.2.2.2.2.2.2.2.2.2.2.2.2.1, hG.2.2.2.2.2.2.2.2.2.2.2.2.2.2.2.2.2.2.2.2.2.2.1, hG.2.2.2.2.2.2.2.2.2.2.2.2.2.2.2.2.2.2.2.2.2.2.2.1, hG.2.2.2.2.2.2.2.2.2.2.2.2.2.2.2.2.2.2.2.2.2.2.2.2⟩⟩
theorem sx_q_l_sf_0 {γ : Nat → Int} {A : Nat → Nat → Int} {j : Nat} {y : Int} (hG : sx_G0 γ A) (w : Nat → Int) (hw0 : 0 ≤ w 0 ∧ w 0 ≤ 2900) (f0 : 0 ≤ 0 + ((-1) * y + (1 * w 0 + 0))) (f1 : 0 ≤ 320 + (1 * y + ((-1) * w 0 + 0))) (c12 : sx_x2 (γ 18461) (0 + (1 * y + 0)) (0 + 0) (0 + (1 * w 0 + 0)) (γ 18465) (γ 18466) (γ 18467) (γ 18468) (γ 18469) (0 + (1 * (j : Int) + 0)) (γ 18471) (γ 18472) (0 + (1 * w 0 + 0)) (A 117) (A 119) (A 120) (A 121) (A 116) (A 114) (A 111)) : ∃ a ∈ sx_r_l_sf.2, ∃ w : Nat → Int, (∀ (i : Nat) p, a.1[i]? = some p → p.2.1 ≤ w i ∧ w i ≤ p.2.2) ∧ (∀ f ∈ a.2.1, 0 ≤ sx_d (sx_th γ (j : Int) y w) f) ∧ (∀ e, a.2.2.2.head? = some e → sx_d (sx_th γ (j : Int) y w) e = y) ∧ sx_G0 (sx_gu γ (sx_th γ (j : Int) y w) a.2.2.1) (if false = true then sx_au A 113 j y else A) := ⟨([(0, 0, 2900)], [(0, [(19001, (-1)), (19002, 1)]), (320, [(19001, 1), (19002, (-1))])], [(18462, (0, [(19001, 1)])), (18463, (0, [])), (18464, (0, [(19002, 1)])), (18473, (0, [(19002, 1)])), (18470, (0, [(19000, 1)]))], []), List.Mem.head _, w, fun i p hi => (by
    match i, hi with
    | 0, hi => cases hi; exact hw0
    | n + 1, hi => simp at hi), fun f hf => (by
    simp only [List.mem_cons, List.not_mem_nil, or_false] at hf
    rcases hf with rfl | rfl
    · exact f0
    · exact f1
    ), fun e he => (by cases he), ⟨hG.1, hG.2.1, hG.2.2.1, hG.2.2.2.1, hG.2.2.2.2.1, hG.2.2.2.2.2.1, hG.2.2.2.2.2.2.1, hG.2.2.2.2.2.2.2.1, hG.2.2.2.2.2.2.2.2.1, hG.2.2.2.2.2.2.2.2.2.1, hG.2.2.2.2.2.2.2.2.2.2.1, hG.2.2.2.2.2.2.2.2.2.2.2.1, c12, hG.2.2.2.2.2.2.2.2.2.2.2.2.2.1, hG.2.2.2.2.2.2.2.2.2.2.2.2.2.2.1, hG.2.2.2.2.2.2.2.2.2.2.2.2.2.2.2.1, hG.2.2.2.2.2.2.2.2.2.2.2.2.2.2.2.2.1, hG.2.2.2.2.2.2.2.2.2.2.2.2.2.2.2.2.2.1, hG.2.2.2.2.2.2.2.2.2.2.2.2.2.2.2.2.2.2.1, hG.2.2.2.2.2.2.2.2.2.2.2.2.2.2.2.2.2.2.2.1, hG.2.2.2.2.2.2.2.2.2.2.2.2.2.2.2.2.2.2.2.2.1, hG.2.2.2.2.2.2.2.2.2.2.2.2.2.2.2.2.2.2.2.2.2.1, hG.2.2.2.2.2.2.2.2.2.2.2.2.2.2.2.2.2.2.2.2.2.2.1, hG.2.2.2.2.2.2.2.2.2.2.2.2.2.2.2.2.2.2.2.2.2.2.2.1, hG.2.2.2.2.2.2.2.2.2.2.2.2.2.2.2.2.2.2.2.2.2.2.2.2⟩⟩
theorem sx_q_l_cp5_0 {γ : Nat → Int} {A : Nat → Nat → Int} {j : Nat} {y : Int} (hG : sx_G0 γ A) (f0 : 0 ≤ (-2560) + (1 * y + 0)) (f1 : 0 ≤ 0 + (1 * γ 18475 + ((-1) * y + 0))) (c15 : sx_x5 (5 + 0) (0 + (1 * (j : Int) + 0)) (0 + (1 * y + 0)) (A 117) (A 119) (A 120) (A 121) (A 115) (A 116) (A 113) (A 114)) : ∃ a ∈ sx_r_l_cp5.2, ∃ w : Nat → Int, (∀ (i : Nat) p, a.1[i]? = some p → p.2.1 ≤ w i ∧ w i ≤ p.2.2) ∧ (∀ f ∈ a.2.1, 0 ≤ sx_d (sx_th γ (j : Int) y w) f) ∧ (∀ e, a.2.2.2.head? = some e → sx_d (sx_th γ (j : Int) y w) e = y) ∧ sx_G0 (sx_gu γ (sx_th γ (j : Int) y w) a.2.2.1) (if false = true then sx_au A 113 j y else A) := ⟨([], [((-2560), [(19001, 1)]), (0, [(18475, 1), (19001, (-1))])], [(18498, (5, [])), (18499, (0, [(19000, 1)])), (18500, (0, [(19001, 1)]))], []), List.Mem.head _, (fun _ => 0), fun i p hi => (by
    match i, hi with
    | n + 0, hi => simp at hi), fun f hf => (by
    simp only [List.mem_cons, List.not_mem_nil, or_false] at hf
    rcases hf with rfl | rfl
    · exact f0
    · exact f1
    ), fun e he => (by cases he), ⟨hG.1, hG.2.1, hG.2.2.1, hG.2.2.2.1, hG.2.2.2.2.1, hG.2.2.2.2.2.1, hG.2.2.2.2.2.2.1, hG.2.2.2.2.2.2.2.1, hG.2.2.2.2.2.2.2.2.1, hG.2.2.2.2.2.2.2.2.2.1, hG.2.2.2.2.2.2.2.2.2.2.1, hG.2.2.2.2.2.2.2.2.2.2.2.1, hG.2.2.2.2.2.2.2.2.2.2.2.2.1, hG.2.2.2.2.2.2.2.2.2.2.2.2.2.1, hG.2.2.2.2.2.2.2.2.2.2.2.2.2.2.1, c15, hG.2.2.2.2.2.2.2.2.2.2.2.2.2.2.2.2.1, hG.2.2.2.2.2.2.2.2.2.2.2.2.2.2.2.2.2.1, hG.2.2.2.2.2.2.2.2.2.2.2.2.2.2.2.2.2.2.1, hG.2.2.2.2.2.2.2.2.2.2.2.2.2.2.2.2.2.2.2.1, hG.2.2.2.2.2.2.2.2.2.2.2.2.2.2.2.2.2.2.2.2.1, hG.2.2.2.2.2.2.2.2.2.2.2.2.2.2.2.2.2.2.2.2.2.1, hG.2.2.2.2.2.2.2.2.2.2.2.2.2.2.2.2.2.2.2.2.2.2.1, hG.2.2.2.2.2.2.2.2.2.2.2.2.2.2.2.2.2.2.2.2.2.2.2.1, hG.2.2.2.2.2.2.2.2.2.2.2.2.2.2.2.2.2.2.2.2.2.2.2.2⟩⟩
theorem sx_q_l_st_0 {γ : Nat → Int} {A : Nat → Nat → Int} {j : Nat} {y : Int} (hG : sx_G0 γ A) (hv : 0 + (1 * γ 18473 + 0) = y) : ∃ a ∈ sx_r_l_st.2, ∃ w : Nat → Int, (∀ (i : Nat) p, a.1[i]? = some p → p.2.1 ≤ w i ∧ w i ≤ p.2.2) ∧ (∀ f ∈ a.2.1, 0 ≤ sx_d (sx_th γ (j : Int) y w) f) ∧ (∀ e, a.2.2.2.head? = some e → sx_d (sx_th γ (j : Int) y w) e = y) ∧ sx_G0 (sx_gu γ (sx_th γ (j : Int) y w) a.2.2.1) (if false = true then sx_au A 114 j y else A) := ⟨([], [], [], [(0, [(18473, 1)])]), List.Mem.head _, (fun _ => 0), fun i p hi => (by
    match i, hi with
    | n + 0, hi => simp at hi), fun f hf => (by cases hf), fun e he => (by cases he; exact hv), ⟨hG.1, hG.2.1, hG.2.2.1, hG.2.2.2.1, hG.2.2.2.2.1, hG.2.2.2.2.2.1, hG.2.2.2.2.2.2.1, hG.2.2.2.2.2.2.2.1, hG.2.2.2.2.2.2.2.2.1, hG.2.2.2.2.2.2.2.2.2.1, hG.2.2.2.2.2.2.2.2.2.2.1, hG.2.2.2.2.2.2.2.2.2.2.2.1, hG.2.2.2.2.2.2.2.2.2.2.2.2.1, hG.2.2.2.2.2.2.2.2.2.2.2.2.2.1, hG.2.2.2.2.2.2.2.2.2.2.2.2.2.2.1, hG.2.2.2.2.2.2.2.2.2.2.2.2.2.2.2.1, hG.2.2.2.2.2.2.2.2.2.2.2.2.2.2.2.2.1, hG.2.2.2.2.2.2.2.2.2.2.2.2.2.2.2.2.2.1, hG.2.2.2.2.2.2.2.2.2.2.2.2.2.2.2.2.2.2.1, hG.2.2.2.2.2.2.2.2.2.2.2.2.2.2.2.2.2.2.2.1, hG.2.2.2.2.2.2.2.2.2.2.2.2.2.2.2.2.2.2.2.2.1, hG.2.2.2.2.2.2.2.2.2.2.2.2.2.2.2.2.2.2.2.2.2.1, hG.2.2.2.2.2.2.2.2.2.2.2.2.2.2.2.2.2.2.2.2.2.2.1, hG.2.2.2.2.2.2.2.2.2.2.2.2.2.2.2.2.2.2.2.2.2.2.2.1, hG.2.2.2.2.2.2.2.2.2.2.2.2.2.2.2.2.2.2.2.2.2.2.2.2⟩⟩
theorem sx_q_l_cp6_0 {γ : Nat → Int} {A : Nat → Nat → Int} {j : Nat} {y : Int} (hG : sx_G0 γ A) (f0 : 0 ≤ (-2560) + (1 * y + 0)) (f1 : 0 ≤ 0 + (1 * γ 18475 + ((-1) * y + 0))) (c15 : sx_x5 (6 + 0) (0 + (1 * (j : Int) + 0)) (0 + (1 * y + 0)) (A 117) (A 119) (A 120) (A 121) (A 115) (A 116) (A 113) (A 114)) : ∃ a ∈ sx_r_l_cp6.2, ∃ w : Nat → Int, (∀ (i : Nat) p, a.1[i]? = some p → p.2.1 ≤ w i ∧ w i ≤ p.2.2) ∧ (∀ f ∈ a.2.1, 0 ≤ sx_d (sx_th γ (j : Int) y w) f) ∧ (∀ e, a.2.2.2.head? = some e → sx_d (sx_th γ (j : Int) y w) e = y) ∧ sx_G0 (sx_gu γ (sx_th γ (j : Int) y w) a.2.2.1) (if false = true then sx_au A 114 j y else A) := ⟨([], [((-2560), [(19001, 1)]), (0, [(18475, 1), (19001, (-1))])], [(18498, (6, [])), (18499, (0, [(19000, 1)])), (18500, (0, [(19001, 1)]))], []), List.Mem.head _, (fun _ => 0), fun i p hi => (by
    match i, hi with
    | n + 0, hi => simp at hi), fun f hf => (by
    simp only [List.mem_cons, List.not_mem_nil, or_false] at hf
    rcases hf with rfl | rfl
    · exact f0
    · exact f1
    ), fun e he => (by cases he), ⟨hG.1, hG.2.1, hG.2.2.1, hG.2.2.2.1, hG.2.2.2.2.1, hG.2.2.2.2.2.1, hG.2.2.2.2.2.2.1, hG.2.2.2.2.2.2.2.1, hG.2.2.2.2.2.2.2.2.1, hG.2.2.2.2.2.2.2.2.2.1, hG.2.2.2.2.2.2.2.2.2.2.1, hG.2.2.2.2.2.2.2.2.2.2.2.1, hG.2.2.2.2.2.2.2.2.2.2.2.2.1, hG.2.2.2.2.2.2.2.2.2.2.2.2.2.1, hG.2.2.2.2.2.2.2.2.2.2.2.2.2.2.1, c15, hG.2.2.2.2.2.2.2.2.2.2.2.2.2.2.2.2.1, hG.2.2.2.2.2.2.2.2.2.2.2.2.2.2.2.2.2.1, hG.2.2.2.2.2.2.2.2.2.2.2.2.2.2.2.2.2.2.1, hG.2.2.2.2.2.2.2.2.2.2.2.2.2.2.2.2.2.2.2.1, hG.2.2.2.2.2.2.2.2.2.2.2.2.2.2.2.2.2.2.2.2.1, hG.2.2.2.2.2.2.2.2.2.2.2.2.2.2.2.2.2.2.2.2.2.1, hG.2.2.2.2.2.2.2.2.2.2.2.2.2.2.2.2.2.2.2.2.2.2.1, hG.2.2.2.2.2.2.2.2.2.2.2.2.2.2.2.2.2.2.2.2.2.2.2.1, hG.2.2.2.2.2.2.2.2.2.2.2.2.2.2.2.2.2.2.2.2.2.2.2.2⟩⟩
theorem sx_q_l_tf_0 {γ : Nat → Int} {A : Nat → Nat → Int} {j : Nat} {y : Int} (hG : sx_G0 γ A) (w : Nat → Int) (hw0 : 0 ≤ w 0 ∧ w 0 ≤ 2000) (f0 : 0 ≤ 0 + ((-1) * y + (1 * w 0 + 0))) (f1 : 0 ≤ 0 + ((-160) * γ 18471 + (1 * y + 0))) (f2 : 0 ≤ 160 + (160 * γ 18471 + ((-1) * w 0 + 0))) (c12 : sx_x2 (γ 18461) (γ 18462) (γ 18463) (γ 18464) (γ 18465) (γ 18466) (0 + (1 * y + 0)) (0 + (1 * w 0 + 0)) (0 + (1 * (j : Int) + 0)) (γ 18470) (γ 18471) (γ 18472) (γ 18473) (A 117) (A 119) (A 120) (A 121) (A 116) (A 114) (A 111)) : ∃ a ∈ sx_r_l_tf.2, ∃ w : Nat → Int, (∀ (i : Nat) p, a.1[i]? = some p → p.2.1 ≤ w i ∧ w i ≤ p.2.2) ∧ (∀ f ∈ a.2.1, 0 ≤ sx_d (sx_th γ (j : Int) y w) f) ∧ (∀ e, a.2.2.2.head? = some e → sx_d (sx_th γ (j : Int) y w) e = y) ∧ sx_G0 (sx_gu γ (sx_th γ (j : Int) y w) a.2.2.1) (if false = true then sx_au A 115 j y else A) := ⟨([(0, 0, 2000)], [(0, [(19001, (-1)), (19002, 1)]), (0, [(18471, (-160)), (19001, 1)]), (160, [(18471, 160), (19002, (-1))])], [(18467, (0, [(19001, 1)])), (18468, (0, [(19002, 1)])), (18469, (0, [(19000, 1)]))], []), List.Mem.head _, w, fun i p hi => (by
    match i, hi with
    | 0, hi => cases hi; exact hw0
    | n + 1, hi => simp at hi), fun f hf => (by
    simp only [List.mem_cons, List.not_mem_nil, or_false] at hf
    rcases hf with rfl | rfl | rfl
    · exact f0
    · exact f1
    · exact f2
    ), fun e he => (by cases he), ⟨hG.1, hG.2.1, hG.2.2.1, hG.2.2.2.1, hG.2.2.2.2.1, hG.2.2.2.2.2.1, hG.2.2.2.2.2.2.1, hG.2.2.2.2.2.2.2.1, hG.2.2.2.2.2.2.2.2.1, hG.2.2.2.2.2.2.2.2.2.1, hG.2.2.2.2.2.2.2.2.2.2.1, hG.2.2.2.2.2.2.2.2.2.2.2.1, c12, hG.2.2.2.2.2.2.2.2.2.2.2.2.2.1, hG.2.2.2.2.2.2.2.2.2.2.2.2.2.2.1, hG.2.2.2.2.2.2.2.2.2.2.2.2.2.2.2.1, hG.2.2.2.2.2.2.2.2.2.2.2.2.2.2.2.2.1, hG.2.2.2.2.2.2.2.2.2.2.2.2.2.2.2.2.2.1, hG.2.2.2.2.2.2.2.2.2.2.2.2.2.2.2.2.2.2.1, hG.2.2.2.2.2.2.2.2.2.2.2.2.2.2.2.2.2.2.2.1, hG.2.2.2.2.2.2.2.2.2.2.2.2.2.2.2.2.2.2.2.2.1, hG.2.2.2.2.2.2.2.2.2.2.2.2.2.2.2.2.2.2.2.2.2.1, hG.2.2.2.2.2.2.2.2.2.2.2.2.2.2.2.2.2.2.2.2.2.2.1, hG.2.2.2.2.2.2.2.2.2.2.2.2.2.2.2.2.2.2.2.2.2.2.2.1, hG.2.2.2.2.2.2.2.2.2.2.2.2.2.2.2.2.2.2.2.2.2.2.2.2⟩⟩
theorem sx_q_l_cp7_0 {γ : Nat → Int} {A : Nat → Nat → Int} {j : Nat} {y : Int} (hG : sx_G0 γ A) (f0 : 0 ≤ (-1280) + (1 * y + 0)) (f1 : 0 ≤ 0 + (1 * γ 18479 + ((-1) * y + 0))) (c15 : sx_x5 (7 + 0) (0 + (1 * (j : Int) + 0)) (0 + (1 * y + 0)) (A 117) (A 119) (A 120) (A 121) (A 115) (A 116) (A 113) (A 114)) : ∃ a ∈ sx_r_l_cp7.2, ∃ w : Nat → Int, (∀ (i : Nat) p, a.1[i]? = some p → p.2.1 ≤ w i ∧ w i ≤ p.2.2) ∧ (∀ f ∈ a.2.1, 0 ≤ sx_d (sx_th γ (j : Int) y w) f) ∧ (∀ e, a.2.2.2.head? = some e → sx_d (sx_th γ (j : Int) y w) e = y) ∧ sx_G0 (sx_gu γ (sx_th γ (j : Int) y w) a.2.2.1) (if false = true then sx_au A 115 j y else A) := ⟨([], [((-1280), [(19001, 1)]), (0, [(18479, 1), (19001, (-1))])], [(18498, (7, [])), (18499, (0, [(19000, 1)])), (18500, (0, [(19001, 1)]))], []), List.Mem.head _, (fun _ => 0), fun i p hi => (by
    match i, hi with
    | n + 0, hi => simp at hi), fun f hf => (by
    simp only [List.mem_cons, List.not_mem_nil, or_false] at hf
    rcases hf with rfl | rfl
    · exact f0
    · exact f1
    ), fun e he => (by cases he), ⟨hG.1, hG.2.1, hG.2.2.1, hG.2.2.2.1, hG.2.2.2.2.1, hG.2.2.2.2.2.1, hG.2.2.2.2.2.2.1, hG.2.2.2.2.2.2.2.1, hG.2.2.2.2.2.2.2.2.1, hG.2.2.2.2.2.2.2.2.2.1, hG.2.2.2.2.2.2.2.2.2.2.1, hG.2.2.2.2.2.2.2.2.2.2.2.1, hG.2.2.2.2.2.2.2.2.2.2.2.2.1, hG.2.2.2.2.2.2.2.2.2.2.2.2.2.1, hG.2.2.2.2.2.2.2.2.2.2.2.2.2.2.1, c15, hG.2.2.2.2.2.2.2.2.2.2.2.2.2.2.2.2.1, hG.2.2.2.2.2.2.2.2.2.2.2.2.2.2.2.2.2.1, hG.2.2.2.2.2.2.2.2.2.2.2.2.2.2.2.2.2.2.1, hG.2.2.2.2.2.2.2.2.2.2.2.2.2.2.2.2.2.2.2.1, hG.2.2.2.2.2.2.2.2.2.2.2.2.2.2.2.2.2.2.2.2.1, hG.2.2.2.2.2.2.2.2.2.2.2.2.2.2.2.2.2.2.2.2.2.1, hG.2.2.2.2.2.2.2.2.2.2.2.2.2.2.2.2.2.2.2.2.2.2.1, hG.2.2.2.2.2.2.2.2.2.2.2.2.2.2.2.2.2.2.2.2.2.2.2.1, hG.2.2.2.2.2.2.2.2.2.2.2.2.2.2.2.2.2.2.2.2.2.2.2.2⟩⟩
theorem sx_q_l_tt_0 {γ : Nat → Int} {A : Nat → Nat → Int} {j : Nat} {y : Int} (hG : sx_G0 γ A) (hv : 0 + (1 * γ 18468 + 0) = y) : ∃ a ∈ sx_r_l_tt.2, ∃ w : Nat → Int, (∀ (i : Nat) p, a.1[i]? = some p → p.2.1 ≤ w i ∧ w i ≤ p.2.2) ∧ (∀ f ∈ a.2.1, 0 ≤ sx_d (sx_th γ (j : Int) y w) f) ∧ (∀ e, a.2.2.2.head? = some e → sx_d (sx_th γ (j : Int) y w) e = y) ∧ sx_G0 (sx_gu γ (sx_th γ (j : Int) y w) a.2.2.1) (if false = true then sx_au A 116 j y else A) := ⟨([], [], [], [(0, [(18468, 1)])]), List.Mem.head _, (fun _ => 0), fun i p hi => (by
    match i, hi with
    | n + 0, hi => simp at hi), fun f hf => (by cases hf), fun e he => (by cases he; exact hv), ⟨hG.1, hG.2.1, hG.2.2.1, hG.2.2.2.1, hG.2.2.2.2.1, hG.2.2.2.2.2.1, hG.2.2.2.2.2.2.1, hG.2.2.2.2.2.2.2.1, hG.2.2.2.2.2.2.2.2.1, hG.2.2.2.2.2.2.2.2.2.1, hG.2.2.2.2.2.2.2.2.2.2.1, hG.2.2.2.2.2.2.2.2.2.2.2.1, hG.2.2.2.2.2.2.2.2.2.2.2.2.1, hG.2.2.2.2.2.2.2.2.2.2.2.2.2.1, hG.2.2.2.2.2.2.2.2.2.2.2.2.2.2.1, hG.2.2.2.2.2.2.2.2.2.2.2.2.2.2.2.1, hG.2.2.2.2.2.2.2.2.2.2.2.2.2.2.2.2.1, hG.2.2.2.2.2.2.2.2.2.2.2.2.2.2.2.2.2.1, hG.2.2.2.2.2.2.2.2.2.2.2.2.2.2.2.2.2.2.1, hG.2.2.2.2.2.2.2.2.2.2.2.2.2.2.2.2.2.2.2.1, hG.2.2.2.2.2.2.2.2.2.2.2.2.2.2.2.2.2.2.2.2.1, hG.2.2.2.2.2.2.2.2.2.2.2.2.2.2.2.2.2.2.2.2.2.1, hG.2.2.2.2.2.2.2.2.2.2.2.2.2.2.2.2.2.2.2.2.2.2.1, hG.2.2.2.2.2.2.2.2.2.2.2.2.2.2.2.2.2.2.2.2.2.2.2.1, hG.2.2.2.2.2.2.2.2.2.2.2.2.2.2.2.2.2.2.2.2.2.2.2.2⟩⟩
theorem sx_q_l_cp8_0 {γ : Nat → Int} {A : Nat → Nat → Int} {j : Nat} {y : Int} (hG : sx_G0 γ A) (f0 : 0 ≤ (-1280) + (1 * y + 0)) (f1 : 0 ≤ 0 + (1 * γ 18479 + ((-1) * y + 0))) (c15 : sx_x5 (8 + 0) (0 + (1 * (j : Int) + 0)) (0 + (1 * y + 0)) (A 117) (A 119) (A 120) (A 121) (A 115) (A 116) (A 113) (A 114)) : ∃ a ∈ sx_r_l_cp8.2, ∃ w : Nat → Int, (∀ (i : Nat) p, a.1[i]? = some p → p.2.1 ≤ w i ∧ w i ≤ p.2.2) ∧ (∀ f ∈ a.2.1, 0 ≤ sx_d (sx_th γ (j : Int) y w) f) ∧ (∀ e, a.2.2.2.head? = some e → sx_d (sx_th γ (j : Int) y w) e = y) ∧ sx_G0 (sx_gu γ (sx_th γ (j : Int) y w) a.2.2.1) (if false = true then sx_au A 116 j y else A) := ⟨([], [((-1280), [(19001, 1)]), (0, [(18479, 1), (19001, (-1))])], [(18498, (8, [])), (18499, (0, [(19000, 1)])), (18500, (0, [(19001, 1)]))], []), List.Mem.head _, (fun _ => 0), fun i p hi => (by
    match i, hi with
    | n + 0, hi => simp at hi), fun f hf => (by
    simp only [List.mem_cons, List.not_mem_nil, or_false] at hf
    rcases hf with rfl | rfl
    · exact f0
    · exact f1
    ), fun e he => (by cases he), ⟨hG.1, hG.2.1, hG.2.2.1, hG.2.2.2.1, hG.2.2.2.2.1, hG.2.2.2.2.2.1, hG.2.2.2.2.2.2.1, hG.2.2.2.2.2.2.2.1, hG.2.2.2.2.2.2.2.2.1, hG.2.2.2.2.2.2.2.2.2.1, hG.2.2.2.2.2.2.2.2.2.2.1, hG.2.2.2.2.2.2.2.2.2.2.2.1, hG.2.2.2.2.2.2.2.2.2.2.2.2.1, hG.2.2.2.2.2.2.2.2.2.2.2.2.2.1, hG.2.2.2.2.2.2.2.2.2.2.2.2.2.2.1, c15, hG.2.2.2.2.2.2.2.2.2.2.2.2.2.2.2.2.1, hG.2.2.2.2.2.2.2.2.2.2.2.2.2.2.2.2.2.1, hG.2.2.2.2.2.2.2.2.2.2.2.2.2.2.2.2.2.2.1, hG.2.2.2.2.2.2.2.2.2.2.2.2.2.2.2.2.2.2.2.1, hG.2.2.2.2.2.2.2.2.2.2.2.2.2.2.2.2.2.2.2.2.1, hG.2.2.2.2.2.2.2.2.2.2.2.2.2.2.2.2.2.2.2.2.2.1, hG.2.2.2.2.2.2.2.2.2.2.2.2.2.2.2.2.2.2.2.2.2.2.1, hG.2.2.2.2.2.2.2.2.2.2.2.2.2.2.2.2.2.2.2.2.2.2.2.1, hG.2.2.2.2.2.2.2.2.2.2.2.2.2.2.2.2.2.2.2.2.2.2.2.2⟩⟩
theorem sx_q_l_sg_0 {γ : Nat → Int} {A : Nat → Nat → Int} {j : Nat} {y : Int} (hG : sx_G0 γ A) (f0 : 0 ≤ 1 + ((-1) * y + 0)) (c12 : sx_x2 (γ 18461) (1 + (1 * γ 18462 + 0)) (1 + (1 * γ 18463 + 0)) (γ 18464) (γ 18465) (γ 18466) (γ 18467) (γ 18468) (γ 18469) (γ 18470) (γ 18471) (γ 18472) (γ 18473) (A 117) (A 119) (A 120) (A 121) (A 116) (A 114) (A 111)) : ∃ a ∈ sx_r_l_sg.2, ∃ w : Nat → Int, (∀ (i : Nat) p, a.1[i]? = some p → p.2.1 ≤ w i ∧ w i ≤ p.2.2) ∧ (∀ f ∈ a.2.1, 0 ≤ sx_d (sx_th γ (j : Int) y w) f) ∧ (∀ e, a.2.2.2.head? = some e → sx_d (sx_th γ (j : Int) y w) e = y) ∧ sx_G0 (sx_gu γ (sx_th γ (j : Int) y w) a.2.2.1) (if false = true then sx_au A 117 j y else A) := ⟨([], [(1, [(19001, (-1))])], [(18462, (1, [(18462, 1)])), (18463, (1, [(18463, 1)]))], []), List.Mem.head _, (fun _ => 0), fun i p hi => (by
    match i, hi with
    | n + 0, hi => simp at hi), fun f hf => (by
    simp only [List.mem_cons, List.not_mem_nil, or_false] at hf
    rcases hf with rfl
    · exact f0
    ), fun e he => (by cases he), ⟨hG.1, hG.2.1, hG.2.2.1, hG.2.2.2.1, hG.2.2.2.2.1, hG.2.2.2.2.2.1, hG.2.2.2.2.2.2.1, hG.2.2.2.2.2.2.2.1, hG.2.2.2.2.2.2.2.2.1, hG.2.2.2.2.2.2.2.2.2.1, hG.2.2.2.2.2.2.2.2.2.2.1, hG.2.2.2.2.2.2.2.2.2.2.2.1, c12, hG.2.2.2.2.2.2.2.2.2.2.2.2.2.1, hG.2.2.2.2.2.2.2.2.2.2.2.2.2.2.1, hG.2.2.2.2.2.2.2.2.2.2.2.2.2.2.2.1, hG.2.2.2.2.2.2.2.2.2.2.2.2.2.2.2.2.1, hG.2.2.2.2.2.2.2.2.2.2.2.2.2.2.2.2.2.1, hG.2.2.2.2.2.2.2.2.2.2.2.2.2.2.2.2.2.2.1, hG.2.2.2.2.2.2.2.2.2.2.2.2.2.2.2.2.2.2.2.1, hG.2.2.2.2.2.2.2.2.2.2.2.2.2.2.2.2.2.2.2.2.1, hG.2.2.2.2.2.2.2.2.2.2.2.2.2.2.2.2.2.2.2.2.2.1, hG.2.2.2.2.2.2.2.2.2.2.2.2.2.2.2.2.2.2.2.2.2.2.1, hG.2.2.2.2.2.2.2.2.2.2.2.2.2.2.2.2.2.2.2.2.2.2.2.1, hG.2.2.2.2.2.2.2.2.2.2.2.2.2.2.2.2.2.2.2.2.2.2.2.2⟩⟩
theorem sx_q_l_sg_1 {γ : Nat → Int} {A : Nat → Nat → Int} {j : Nat} {y : Int} (hG : sx_G0 γ A) (f0 : 0 ≤ (-2) + (1 * y + 0)) (f1 : 0 ≤ (-2) + (1 * γ 18463 + 0)) (c12 : sx_x2 (γ 18461) (1 + (1 * γ 18462 + 0)) ((-1) + (1 * γ 18463 + 0)) (γ 18464) (γ 18465) (γ 18466) (γ 18467) (γ 18468) (γ 18469) (γ 18470) (γ 18471) (γ 18472) (γ 18473) (A 117) (A 119) (A 120) (A 121) (A 116) (A 114) (A 111)) : ∃ a ∈ sx_r_l_sg.2, ∃ w : Nat → Int, (∀ (i : Nat) p, a.1[i]? = some p → p.2.1 ≤ w i ∧ w i ≤ p.2.2) ∧ (∀ f ∈ a.2.1, 0 ≤ sx_d (sx_th γ (j : Int) y w) f) ∧ (∀ e, a.2.2.2.head? = some e → sx_d (sx_th γ (j : Int) y w) e = y) ∧ sx_G0 (sx_gu γ (sx_th γ (j : Int) y w) a.2.2.1) (if false = true then sx_au A 117 j y else A) := ⟨([], [((-2), [(19001, 1)]), ((-2), [(18463, 1)])], [(18462, (1, [(18462, 1)])), (18463, ((-1), [(18463, 1)]))], []), List.Mem.tail _ (List.Mem.head _), (fun _ => 0), fun i p hi => (by
    match i, hi with
    | n + 0, hi => simp at hi), fun f hf => (by
    simp only [List.mem_cons, List.not_mem_nil, or_false] at hf
    rcases hf with rfl | rfl
    · exact f0
    · exact f1
    ), fun e he => (by cases he), ⟨hG.1, hG.2.1, hG.2.2.1, hG.2.2.2.1, hG.2.2.2.2.1, hG.2.2.2.2.2.1, hG.2.2.2.2.2.2.1, hG.2.2.2.2.2.2.2.1, hG.2.2.2.2.2.2.2.2.1, hG.2.2.2.2.2.2.2.2.2.1, hG.2.2.2.2.2.2.2.2.2.2.1, hG.2.2.2.2.2.2.2.2.2.2.2.1, c12, hG.2.2.2.2.2.2.2.2.2.2.2.2.2.1, hG.2.2.2.2.2.2.2.2.2.2.2.2.2.2.1, hG.2.2.2.2.2.2.2.2.2.2.2.2.2.2.2.1, hG.2.2.2.2.2.2.2.2.2.2.2.2.2.2.2.2.1, hG.2.2.2.2.2.2.2.2.2.2.2.2.2.2.2.2.2.1, hG.2.2.2.2.2.2.2.2.2.2.2.2.2.2.2.2.2.2.1, hG.2.2.2.2.2.2.2.2.2.2.2.2.2.2.2.2.2.2.2.1, hG.2.2.2.2.2.2.2.2.2.2.2.2.2.2.2.2.2.2.2.2.1, hG.2.2.2.2.2.2.2.2.2.2.2.2.2.2.2.2.2.2.2.2.2.1, hG.2.2.2.2.2.2.2.2.2.2.2.2.2.2.2.2.2.2.2.2.2.2.1, hG.2.2.2.2.2.2.2.2.2.2.2.2.2.2.2.2.2.2.2.2.2.2.2.1, hG.2.2.2.2.2.2.2.2.2.2.2.2.2.2.2.2.2.2.2.2.2.2.2.2⟩⟩
theorem sx_q_l_cp1_0 {γ : Nat → Int} {A : Nat → Nat → Int} {j : Nat} {y : Int} (hG : sx_G0 γ A) (c15 : sx_x5 (1 + 0) (0 + (1 * (j : Int) + 0)) (0 + (1 * y + 0)) (A 117) (A 119) (A 120) (A 121) (A 115) (A 116) (A 113) (A 114)) : ∃ a ∈ sx_r_l_cp1.2, ∃ w : Nat → Int, (∀ (i : Nat) p, a.1[i]? = some p → p.2.1 ≤ w i ∧ w i ≤ p.2.2) ∧ (∀ f ∈ a.2.1, 0 ≤ sx_d (sx_th γ (j : Int) y w) f) ∧ (∀ e, a.2.2.2.head? = some e → sx_d (sx_th γ (j : Int) y w) e = y) ∧ sx_G0 (sx_gu γ (sx_th γ (j : Int) y w) a.2.2.1) (if false = true then sx_au A 117 j y else A) := ⟨([], [], [(18498, (1, [])), (18499, (0, [(19000, 1)])), (18500, (0, [(19001, 1)]))], []), List.Mem.head _, (fun _ => 0), fun i p hi => (by
    match i, hi with
    | n + 0, hi => simp at hi), fun f hf => (by cases hf), fun e he => (by cases he), ⟨hG.1, hG.2.1, hG.2.2.1, hG.2.2.2.1, hG.2.2.2.2.1, hG.2.2.2.2.2.1, hG.2.2.2.2.2.2.1, hG.2.2.2.2.2.2.2.1, hG.2.2.2.2.2.2.2.2.1, hG.2.2.2.2.2.2.2.2.2.1, hG.2.2.2.2.2.2.2.2.2.2.1, hG.2.2.2.2.2.2.2.2.2.2.2.1, hG.2.2.2.2.2.2.2.2.2.2.2.2.1, hG.2.2.2.2.2.2.2.2.2.2.2.2.2.1, hG.2.2.2.2.2.2.2.2.2.2.2.2.2.2.1, c15, hG.2.2.2.2.2.2.2.2.2.2.2.2.2.2.2.2.1, hG.2.2.2.2.2.2.2.2.2.2.2.2.2.2.2.2.2.1, hG.2.2.2.2.2.2.2.2.2.2.2.2.2.2.2.2.2.2.1, hG.2.2.2.2.2.2.2.2.2.2.2.2.2.2.2.2.2.2.2.1, hG.2.2.2.2.2.2.2.2.2.2.2.2.2.2.2.2.2.2.2.2.1, hG.2.2.2.2.2.2.2.2.2.2.2.2.2.2.2.2.2.2.2.2.2.1, hG.2.2.2.2.2.2.2.2.2.2.2.2.2.2.2.2.2.2.2.2.2.2.1, hG.2.2.2.2.2.2.2.2.2.2.2.2.2.2.2.2.2.2.2.2.2.2.2.1, hG.2.2.2.2.2.2.2.2.2.2.2.2.2.2.2.2.2.2.2.2.2.2.2.2⟩⟩
theorem sx_q_l_lf_0 {γ : Nat → Int} {A : Nat → Nat → Int} {j : Nat} {y : Int} (hG : sx_G0 γ A) (w : Nat → Int) (hw0 : 0 ≤ w 0 ∧ w 0 ≤ 2900) (f0 : 0 ≤ 0 + ((-1) * y + (1 * w 0 + 0))) (f1 : 0 ≤ 320 + (1 * y + ((-1) * w 0 + 0))) (c12 : sx_x2 (γ 18461) (0 + (1 * y + 0)) (0 + 0) (0 + (1 * w 0 + 0)) (0 + (1 * (j : Int) + 0)) (0 + (1 * w 0 + 0)) (γ 18467) (γ 18468) (γ 18469) (γ 18470) (γ 18471) (γ 18472) (γ 18473) (A 117) (A 119) (A 120) (A 121) (A 116) (A 114) (A 111)) : ∃ a ∈ sx_r_l_lf.2, ∃ w : Nat → Int, (∀ (i : Nat) p, a.1[i]? = some p → p.2.1 ≤ w i ∧ w i ≤ p.2.2) ∧ (∀ f ∈ a.2.1, 0 ≤ sx_d (sx_th γ (j : Int) y w) f) ∧ (∀ e, a.2.2.2.head? = some e → sx_d (sx_th γ (j : Int) y w) e = y) ∧ sx_G0 (sx_gu γ (sx_th γ (j : Int) y w) a.2.2.1) (if false = true then sx_au A 119 j y else A) := ⟨([(0, 0, 2900)], [(0, [(19001, (-1)), (19002, 1)]), (320, [(19001, 1), (19002, (-1))])], [(18462, (0, [(19001, 1)])), (18463, (0, [])), (18464, (0, [(19002, 1)])), (18465, (0, [(19000, 1)])), (18466, (0, [(19002, 1)]))], []), List.Mem.head _, w, fun i p hi => (by
    match i, hi with
    | 0, hi => cases hi; exact hw0
    | n + 1, hi => simp at hi), fun f hf => (by
    simp only [List.mem_cons, List.not_mem_nil, or_false] at hf
    rcases hf with rfl | rfl
    · exact f0
    · exact f1
    ), fun e he => (by cases he), ⟨hG.1, hG.2.1, hG.2.2.1, hG.2.2.2.1, hG.2.2.2.2.1, hG.2.2.2.2.2.1, hG.2.2.2.2.2.2.1, hG.2.2.2.2.2.2.2.1, hG.2.2.2.2.2.2.2.2.1, hG.2.2.2.2.2.2.2.2.2.1, hG.2.2.2.2.2.2.2.2.2.2.1, hG.2.2.2.2.2.2.2.2.2.2.2.1, c12, hG.2.2.2.2.2.2.2.2.2.2.2.2.2.1, hG.2.2.2.2.2.2.2.2.2.2.2.2.2.2.1, hG.2.2.2.2.2.2.2.2.2.2.2.2.2.2.2.1, hG.2.2.2.2.2.2.2.2.2.2.2.2.2.2.2.2.1, hG.2.2.2.2.2.2.2.2.2.2.2.2.2.2.2.2.2.1, hG.2.2.2.2.2.2.2.2.2.2.2.2.2.2.2.2.2.2.1, hG.2.2.2.2.2.2.2.2.2.2.2.2.2.2.2.2.2.2.2.1, hG.2.2.2.2.2.2.2.2.2.2.2.2.2.2.2.2.2.2.2.2.1, hG.2.2.2.2.2.2.2.2.2.2.2.2.2.2.2.2.2.2.2.2.2.1, hG.2.2.2.2.2.2.2.2.2.2.2.2.2.2.2.2.2.2.2.2.2.2.1, hG.2.2.2.2.2.2.2.2.2.2.2.2.2.2.2.2.2.2.2.2.2.2.2.1, hG.2.2.2.2.2.2.2.2.2.2.2.2.2.2.2.2.2.2.2.2.2.2.2.2⟩⟩
theorem sx_q_l_cp2_0 {γ : Nat → Int} {A : Nat → Nat → Int} {j : Nat} {y : Int} (hG : sx_G0 γ A) (f0 : 0 ≤ (-2560) + (1 * y + 0)) (f1 : 0 ≤ 0 + (1 * γ 18475 + ((-1) * y + 0))) (c15 : sx_x5 (2 + 0) (0 + (1 * (j : Int) + 0)) (0 + (1 * y + 0)) (A 117) (A 119) (A 120) (A 121) (A 115) (A 116) (A 113) (A 114)) : ∃ a ∈ sx_r_l_cp2.2, ∃ w : Nat → Int, (∀ (i : Nat) p, a.1[i]? = some p → p.2.1 ≤ w i ∧ w i ≤ p.2.2) ∧ (∀ f ∈ a.2.1, 0 ≤ sx_d (sx_th γ (j : Int) y w) f) ∧ (∀ e, a.2.2.2.head? = some e → sx_d (sx_th γ (j : Int) y w) e = y) ∧ sx_G0 (sx_gu γ (sx_th γ (j : Int) y w) a.2.2.1) (if false = true then sx_au A 119 j y else A) := ⟨([], [((-2560), [(19001, 1)]), (0, [(18475, 1), (19001, (-1))])], [(18498, (2, [])), (18499, (0, [(19000, 1)])), (18500, (0, [(19001, 1)]))], []), List.Mem.head _, (fun _ => 0), fun i p hi => (by
    match i, hi with
    | n + 0, hi => simp at hi), fun f hf => (by
    simp only [List.mem_cons, List.not_mem_nil, or_false] at hf
    rcases hf with rfl | rfl
    · exact f0
    · exact f1
    ), fun e he => (by cases he), ⟨hG.1, hG.2.1, hG.2.2.1, hG.2.2.2.1, hG.2.2.2.2.1, hG.2.2.2.2.2.1, hG.2.2.2.2.2.2.1, hG.2.2.2.2.2.2.2.1, hG.2.2.2.2.2.2.2.2.1, hG.2.2.2.2.2.2.2.2.2.1, hG.2.2.2.2.2.2.2.2.2.2.1, hG.2.2.2.2.2.2.2.2.2.2.2.1, hG.2.2.2.2.2.2.2.2.2.2.2.2.1, hG.2.2.2.2.2.2.2.2.2.2.2.2.2.1, hG.2.2.2.2.2.2.2.2.2.2.2.2.2.2.1, c15, hG.2.2.2.2.2.2.2.2.2.2.2.2.2.2.2.2.1, hG.2.2.2.2.2.2.2.2.2.2.2.2.2.2.2.2.2.1, hG.2.2.2.2.2.2.2.2.2.2.2.2.2.2.2.2.2.2.1, hG.2.2.2.2.2.2.2.2.2.2.2.2.2.2.2.2.2.2.2.1, hG.2.2.2.2.2.2.2.2.2.2.2.2.2.2.2.2.2.2.2.2.1, hG.2.2.2.2.2.2.2.2.2.2.2.2.2.2.2.2.2.2.2.2.2.1, hG.2.2.2.2.2.2.2.2.2.2.2.2.2.2.2.2.2.2.2.2.2.2.1, hG.2.2.2.2.2.2.2.2.2.2.2.2.2.2.2.2.2.2.2.2.2.2.2.1, hG.2.2.2.2.2.2.2.2.2.2.2.2.2.2.2.2.2.2.2.2.2.2.2.2⟩⟩
theorem sx_q_l_lt_0 {γ : Nat → Int} {A : Nat → Nat → Int} {j : Nat} {y : Int} (hG : sx_G0 γ A) (hv : 0 + (1 * γ 18466 + 0) = y) : ∃ a ∈ sx_r_l_lt.2, ∃ w : Nat → Int, (∀ (i : Nat) p, a.1[i]? = some p → p.2.1 ≤ w i ∧ w i ≤ p.2.2) ∧ (∀ f ∈ a.2.1, 0 ≤ sx_d (sx_th γ (j : Int) y w) f) ∧ (∀ e, a.2.2.2.head? = some e → sx_d (sx_th γ (j : Int) y w) e = y) ∧ sx_G0 (sx_gu γ (sx_th γ (j : Int) y w) a.2.2.1) (if false = true then sx_au A 120 j y else A) := ⟨([], [], [], [(0, [(18466, 1)])]), List.Mem.head _, (fun _ => 0), fun i p hi => (by
    match i, hi with
    | n + 0, hi => simp at hi), fun f hf => (by cases hf), fun e he => (by cases he; exact hv), ⟨hG.1, hG.2.1, hG.2.2.1, hG.2.2.2.1, hG.2.2.2.2.1, hG.2.2.2.2.2.1, hG.2.2.2.2.2.2.1, hG.2.2.2.2.2.2.2.1, hG.2.2.2.2.2.2.2.2.1, hG.2.2.2.2.2.2.2.2.2.1, hG.2.2.2.2.2.2.2.2.2.2.1, hG.2.2.2.2.2.2.2.2.2.2.2.1, hG.2.2.2.2.2.2.2.2.2.2.2.2.1, hG.2.2.2.2.2.2.2.2.2.2.2.2.2.1, hG.2.2.2.2.2.2.2.2.2.2.2.2.2.2.1, hG.2.2.2.2.2.2.2.2.2.2.2.2.2.2.2.1, hG.2.2.2.2.2.2.2.2.2.2.2.2.2.2.2.2.1, hG.2.2.2.2.2.2.2.2.2.2.2.2.2.2.2.2.2.1, hG.2.2.2.2.2.2.2.2.2.2.2.2.2.2.2.2.2.2.1, hG.2.2.2.2.2.2.2.2.2.2.2.2.2.2.2.2.2.2.2.1, hG.2.2.2.2.2.2.2.2.2.2.2.2.2.2.2.2.2.2.2.2.1, hG.2.2.2.2.2.2.2.2.2.2.2.2.2.2.2.2.2.2.2.2.2.1, hG.2.2.2.2.2.2.2.2.2.2.2.2.2.2.2.2.2.2.2.2.2.2.1, hG.2.2.2.2.2.2.2.2.2.2.2.2.2.2.2.2.2.2.2.2.2.2.2.1, hG.2.2.2.2.2.2.2.2.2.2.2.2.2.2.2.2.2.2.2.2.2.2.2.2⟩⟩
theorem sx_q_l_cp3_0 {γ : Nat → Int} {A : Nat → Nat → Int} {j : Nat} {y : Int} (hG : sx_G0 γ A) (f0 : 0 ≤ (-2560) + (1 * y + 0)) (f1 : 0 ≤ 0 + (1 * γ 18475 + ((-1) * y + 0))) (c15 : sx_x5 (3 + 0) (0 + (1 * (j : Int) + 0)) (0 + (1 * y + 0)) (A 117) (A 119) (A 120) (A 121) (A 115) (A 116) (A 113) (A 114)) : ∃ a ∈ sx_r_l_cp3.2, ∃ w : Nat → Int, (∀ (i : Nat) p, a.1[i]? = some p → p.2.1 ≤ w i ∧ w i ≤ p.2.2) ∧ (∀ f ∈ a.2.1, 0 ≤ sx_d (sx_th γ (j : Int) y w) f) ∧ (∀ e, a.2.2.2.head? = some e → sx_d (sx_th γ (j : Int) y w) e = y) ∧ sx_G0 (sx_gu γ (sx_th γ (j : Int) y w) a.2.2.1) (if false = true then sx_au A 120 j y else A) := ⟨([], [((-2560), [(19001, 1)]), (0, [(18475, 1), (19001, (-1))])], [(18498, (3, [])), (18499, (0, [(19000, 1)])), (18500, (0, [(19001, 1)]))], []), List.Mem.head _, (fun _ => 0), fun i p hi => (by
    match i, hi with
    | n + 0, hi => simp at hi), fun f hf => (by
    simp only [List.mem_cons, List.not_mem_nil, or_false] at hf
    rcases hf with rfl | rfl
    · exact f0
    · exact f1
    ), fun e he => (by cases he), ⟨hG.1, hG.2.1, hG.2.2.1, hG.2.2.2.1, hG.2.2.2.2.1, hG.2.2.2.2.2.1, hG.2.2.2.2.2.2.1, hG.2.2.2.2.2.2.2.1, hG.2.2.2.2.2.2.2.2.1, hG.2.2.2.2.2.2.2.2.2.1, hG.2.2.2.2.2.2.2.2.2.2.1, hG.2.2.2.2.2.2.2.2.2.2.2.1, hG.2.2.2.2.2.2.2.2.2.2.2.2.1, hG.2.2.2.2.2.2.2.2.2.2.2.2.2.1, hG.2.2.2.2.2.2.2.2.2.2.2.2.2.2.1, c15, hG.2.2.2.2.2.2.2.2.2.2.2.2.2.2.2.2.1, hG.2.2.2.2.2.2.2.2.2.2.2.2.2.2.2.2.2.1, hG.2.2.2.2.2.2.2.2.2.2.2.2.2.2.2.2.2.2.1, hG.2.2.2.2.2.2.2.2.2.2.2.2.2.2.2.2.2.2.2.1, hG.2.2.2.2.2.2.2.2.2.2.2.2.2.2.2.2.2.2.2.2.1, hG.2.2.2.2.2.2.2.2.2.2.2.2.2.2.2.2.2.2.2.2.2.1, hG.2.2.2.2.2.2.2.2.2.2.2.2.2.2.2.2.2.2.2.2.2.2.1, hG.2.2.2.2.2.2.2.2.2.2.2.2.2.2.2.2.2.2.2.2.2.2.2.1, hG.2.2.2.2.2.2.2.2.2.2.2.2.2.2.2.2.2.2.2.2.2.2.2.2⟩⟩
theorem sx_q_l_rt_0 {γ : Nat → Int} {A : Nat → Nat → Int} {j : Nat} {y : Int} (hG : sx_G0 γ A) (f0 : 0 ≤ 0 + ((-1) * γ 18466 + (1 * y + 0))) (f1 : 0 ≤ 320 + (1 * γ 18466 + ((-1) * y + 0))) (c12 : sx_x2 (γ 18461) (0 + (1 * γ 18466 + 0)) (0 + 0) (0 + (1 * y + 0)) (γ 18465) (γ 18466) (γ 18467) (γ 18468) (γ 18469) (γ 18470) (γ 18471) (γ 18472) (γ 18473) (A 117) (A 119) (A 120) (A 121) (A 116) (A 114) (A 111)) : ∃ a ∈ sx_r_l_rt.2, ∃ w : Nat → Int, (∀ (i : Nat) p, a.1[i]? = some p → p.2.1 ≤ w i ∧ w i ≤ p.2.2) ∧ (∀ f ∈ a.2.1, 0 ≤ sx_d (sx_th γ (j : Int) y w) f) ∧ (∀ e, a.2.2.2.head? = some e → sx_d (sx_th γ (j : Int) y w) e = y) ∧ sx_G0 (sx_gu γ (sx_th γ (j : Int) y w) a.2.2.1) (if false = true then sx_au A 121 j y else A) := ⟨([], [(0, [(18466, (-1)), (19001, 1)]), (320, [(18466, 1), (19001, (-1))])], [(18462, (0, [(18466, 1)])), (18463, (0, [])), (18464, (0, [(19001, 1)]))], []), List.Mem.head _, (fun _ => 0), fun i p hi => (by
    match i, hi with
    | n + 0, hi => simp at hi), fun f hf => (by
    simp only [List.mem_cons, List.not_mem_nil, or_false] at hf
    rcases hf with rfl | rfl
    · exact f0
    · exact f1
    ), fun e he => (by cases he), ⟨hG.1, hG.2.1, hG.2.2.1, hG.2.2.2.1, hG.2.2.2.2.1, hG.2.2.2.2.2.1, hG.2.2.2.2.2.2.1, hG.2.2.2.2.2.2.2.1, hG.2.2.2.2.2.2.2.2.1, hG.2.2.2.2.2.2.2.2.2.1, hG.2.2.2.2.2.2.2.2.2.2.1, hG.2.2.2.2.2.2.2.2.2.2.2.1, c12, hG.2.2.2.2.2.2.2.2.2.2.2.2.2.1, hG.2.2.2.2.2.2.2.2.2.2.2.2.2.2.1, hG.2.2.2.2.2.2.2.2.2.2.2.2.2.2.2.1, hG.2.2.2.2.2.2.2.2.2.2.2.2.2.2.2.2.1, hG.2.2.2.2.2.2.2.2.2.2.2.2.2.2.2.2.2.1, hG.2.2.2.2.2.2.2.2.2.2.2.2.2.2.2.2.2.2.1, hG.2.2.2.2.2.2.2.2.2.2.2.2.2.2.2.2.2.2.2.1, hG.2.2.2.2.2.2.2.2.2.2.2.2.2.2.2.2.2.2.2.2.1, hG.2.2.2.2.2.2.2.2.2.2.2.2.2.2.2.2.2.2.2.2.2.1, hG.2.2.2.2.2.2.2.2.2.2.2.2.2.2.2.2.2.2.2.2.2.2.1, hG.2.2.2.2.2.2.2.2.2.2.2.2.2.2.2.2.2.2.2.2.2.2.2.1, hG.2.2.2.2.2.2.2.2.2.2.2.2.2.2.2.2.2.2.2.2.2.2.2.2⟩⟩
theorem sx_q_l_cp4_0 {γ : Nat → Int} {A : Nat → Nat → Int} {j : Nat} {y : Int} (hG : sx_G0 γ A) (f0 : 0 ≤ (-2560) + (1 * y + 0)) (f1 : 0 ≤ 0 + (1 * γ 18475 + ((-1) * y + 0))) (c15 : sx_x5 (4 + 0) (0 + (1 * (j : Int) + 0)) (0 + (1 * y + 0)) (A 117) (A 119) (A 120) (A 121) (A 115) (A 116) (A 113) (A 114)) : ∃ a ∈ sx_r_l_cp4.2, ∃ w : Nat → Int, (∀ (i : Nat) p, a.1[i]? = some p → p.2.1 ≤ w i ∧ w i ≤ p.2.2) ∧ (∀ f ∈ a.2.1, 0 ≤ sx_d (sx_th γ (j : Int) y w) f) ∧ (∀ e, a.2.2.2.head? = some e → sx_d (sx_th γ (j : Int) y w) e = y) ∧ sx_G0 (sx_gu γ (sx_th γ (j : Int) y w) a.2.2.1) (if false = true then sx_au A 121 j y else A) := ⟨([], [((-2560), [(19001, 1)]), (0, [(18475, 1), (19001, (-1))])], [(18498, (4, [])), (18499, (0, [(19000, 1)])), (18500, (0, [(19001, 1)]))], []), List.Mem.head _, (fun _ => 0), fun i p hi => (by
    match i, hi with
    | n + 0, hi => simp at hi), fun f hf => (by
    simp only [List.mem_cons, List.not_mem_nil, or_false] at hf
    rcases hf with rfl | rfl
    · exact f0
    · exact f1
    ), fun e he => (by cases he), ⟨hG.1, hG.2.1, hG.2.2.1, hG.2.2.2.1, hG.2.2.2.2.1, hG.2.2.2.2.2.1, hG.2.2.2.2.2.2.1, hG.2.2.2.2.2.2.2.1, hG.2.2.2.2.2.2.2.2.1, hG.2.2.2.2.2.2.2.2.2.1, hG.2.2.2.2.2.2.2.2.2.2.1, hG.2.2.2.2.2.2.2.2.2.2.2.1, hG.2.2.2.2.2.2.2.2.2.2.2.2.1, hG.2.2.2.2.2.2.2.2.2.2.2.2.2.1, hG.2.2.2.2.2.2.2.2.2.2.2.2.2.2.1, c15, hG.2.2.2.2.2.2.2.2.2.2.2.2.2.2.2.2.1, hG.2.2.2.2.2.2.2.2.2.2.2.2.2.2.2.2.2.1, hG.2.2.2.2.2.2.2.2.2.2.2.2.2.2.2.2.2.2.1, hG.2.2.2.2.2.2.2.2.2.2.2.2.2.2.2.2.2.2.2.1, hG.2.2.2.2.2.2.2.2.2.2.2.2.2.2.2.2.2.2.2.2.1, hG.2.2.2.2.2.2.2.2.2.2.2.2.2.2.2.2.2.2.2.2.2.1, hG.2.2.2.2.2.2.2.2.2.2.2.2.2.2.2.2.2.2.2.2.2.2.1, hG.2.2.2.2.2.2.2.2.2.2.2.2.2.2.2.2.2.2.2.2.2.2.2.1, hG.2.2.2.2.2.2.2.2.2.2.2.2.2.2.2.2.2.2.2.2.2.2.2.2⟩⟩
theorem sx_q_l_zS0_0 {γ : Nat → Int} {A : Nat → Nat → Int} {j : Nat} {y : Int} (hG : sx_G0 γ A) (f0 : 0 ≤ 0 + ((-1) * γ 18446 + 0)) (hv : 0 + 0 = y) : ∃ a ∈ sx_r_l_zS0.2, ∃ w : Nat → Int, (∀ (i : Nat) p, a.1[i]? = some p → p.2.1 ≤ w i ∧ w i ≤ p.2.2) ∧ (∀ f ∈ a.2.1, 0 ≤ sx_d (sx_th γ (j : Int) y w) f) ∧ (∀ e, a.2.2.2.head? = some e → sx_d (sx_th γ (j : Int) y w) e = y) ∧ sx_G0 (sx_gu γ (sx_th γ (j : Int) y w) a.2.2.1) (if false = true then sx_au A 123 j y else A) := ⟨([], [(0, [(18446, (-1))])], [], [(0, [])]), List.Mem.head _, (fun _ => 0), fun i p hi => (by
    match i, hi with
    | n + 0, hi => simp at hi), fun f hf => (by
    simp only [List.mem_cons, List.not_mem_nil, or_false] at hf
    rcases hf with rfl
    · exact f0
    ), fun e he => (by cases he; exact hv), ⟨hG.1, hG.2.1, hG.2.2.1, hG.2.2.2.1, hG.2.2.2.2.1, hG.2.2.2.2.2.1, hG.2.2.2.2.2.2.1, hG.2.2.2.2.2.2.2.1, hG.2.2.2.2.2.2.2.2.1, hG.2.2.2.2.2.2.2.2.2.1, hG.2.2.2.2.2.2.2.2.2.2.1, hG.2.2.2.2.2.2.2.2.2.2.2.1, hG.2.2.2.2.2.2.2.2.2.2.2.2.1, hG.2.2.2.2.2.2.2.2.2.2.2.2.2.1, hG.2.2.2.2.2.2.2.2.2.2.2.2.2.2.1, hG.2.2.2.2.2.2.2.2.2.2.2.2.2.2.2.1, hG.2.2.2.2.2.2.2.2.2.2.2.2.2.2.2.2.1, hG.2.2.2.2.2.2.2.2.2.2.2.2.2.2.2.2.2.1, hG.2.2.2.2.2.2.2.2.2.2.2.2.2.2.2.2.2.2.1, hG.2.2.2.2.2.2.2.2.2.2.2.2.2.2.2.2.2.2.2.1, hG.2.2.2.2.2.2.2.2.2.2.2.2.2.2.2.2.2.2.2.2.1, hG.2.2.2.2.2.2.2.2.2.2.2.2.2.2.2.2.2.2.2.2.2.1, hG.2.2.2.2.2.2.2.2.2.2.2.2.2.2.2.2.2.2.2.2.2.2.1, hG.2.2.2.2.2.2.2.2.2.2.2.2.2.2.2.2.2.2.2.2.2.2.2.1, hG.2.2.2.2.2.2.2.2.2.2.2.2.2.2.2.2.2.2.2.2.2.2.2.2⟩⟩
theorem sx_q_l_zS0_1 {γ : Nat → Int} {A : Nat → Nat → Int} {j : Nat} {y : Int} (hG : sx_G0 γ A) (f0 : 0 ≤ (-42) + (1 * y + 0)) (f1 : 0 ≤ (-1) + (1 * γ 18446 + 0)) : ∃ a ∈ sx_r_l_zS0.2, ∃ w : Nat → Int, (∀ (i : Nat) p, a.1[i]? = some p → p.2.1 ≤ w i ∧ w i ≤ p.2.2) ∧ (∀ f ∈ a.2.1, 0 ≤ sx_d (sx_th γ (j : Int) y w) f) ∧ (∀ e, a.2.2.2.head? = some e → sx_d (sx_th γ (j : Int) y w) e = y) ∧ sx_G0 (sx_gu γ (sx_th γ (j : Int) y w) a.2.2.1) (if false = true then sx_au A 123 j y else A) := ⟨([], [((-42), [(19001, 1)]), ((-1), [(18446, 1)])], [], []), List.Mem.tail _ (List.Mem.head _), (fun _ => 0), fun i p hi => (by
    match i, hi with
    | n + 0, hi => simp at hi), fun f hf => (by
    simp only [List.mem_cons, List.not_mem_nil, or_false] at hf
    rcases hf with rfl | rfl
    · exact f0
    · exact f1
    ), fun e he => (by cases he), ⟨hG.1, hG.2.1, hG.2.2.1, hG.2.2.2.1, hG.2.2.2.2.1, hG.2.2.2.2.2.1, hG.2.2.2.2.2.2.1, hG.2.2.2.2.2.2.2.1, hG.2.2.2.2.2.2.2.2.1, hG.2.2.2.2.2.2.2.2.2.1, hG.2.2.2.2.2.2.2.2.2.2.1, hG.2.2.2.2.2.2.2.2.2.2.2.1, hG.2.2.2.2.2.2.2.2.2.2.2.2.1, hG.2.2.2.2.2.2.2.2.2.2.2.2.2.1, hG.2.2.2.2.2.2.2.2.2.2.2.2.2.2.1, hG.2.2.2.2.2.2.2.2.2.2.2.2.2.2.2.1, hG.2.2.2.2.2.2.2.2.2.2.2.2.2.2.2.2.1, hG.2.2.2.2.2.2.2.2.2.2.2.2.2.2.2.2.2.1, hG.2.2.2.2.2.2.2.2.2.2.2.2.2.2.2.2.2.2.1, hG.2.2.2.2.2.2.2.2.2.2.2.2.2.2.2.2.2.2.2.1, hG.2.2.2.2.2.2.2.2.2.2.2.2.2.2.2.2.2.2.2.2.1, hG.2.2.2.2.2.2.2.2.2.2.2.2.2.2.2.2.2.2.2.2.2.1, hG.2.2.2.2.2.2.2.2.2.2.2.2.2.2.2.2.2.2.2.2.2.2.1, hG.2.2.2.2.2.2.2.2.2.2.2.2.2.2.2.2.2.2.2.2.2.2.2.1, hG.2.2.2.2.2.2.2.2.2.2.2.2.2.2.2.2.2.2.2.2.2.2.2.2⟩⟩
theorem sx_q_l_zS1_0 {γ : Nat → Int} {A : Nat → Nat → Int} {j : Nat} {y : Int} (hG : sx_G0 γ A) (f0 : 0 ≤ 0 + ((-1) * γ 18447 + 0)) (hv : 0 + 0 = y) : ∃ a ∈ sx_r_l_zS1.2, ∃ w : Nat → Int, (∀ (i : Nat) p, a.1[i]? = some p → p.2.1 ≤ w i ∧ w i ≤ p.2.2) ∧ (∀ f ∈ a.2.1, 0 ≤ sx_d (sx_th γ (j : Int) y w) f) ∧ (∀ e, a.2.2.2.head? = some e → sx_d (sx_th γ (j : Int) y w) e = y) ∧ sx_G0 (sx_gu γ (sx_th γ (j : Int) y w) a.2.2.1) (if false = true then sx_au A 123 j y else A) := ⟨([], [(0, [(18447, (-1))])], [], [(0, [])]), List.Mem.head _, (fun _ => 0), fun i p hi => (by
    match i, hi with
    | n + 0, hi => simp at hi), fun f hf => (by
    simp only [List.mem_cons, List.not_mem_nil, or_false] at hf
    rcases hf with rfl
    · exact f0
    ), fun e he => (by cases he; exact hv), ⟨hG.1, hG.2.1, hG.2.2.1, hG.2.2.2.1, hG.2.2.2.2.1, hG.2.2.2.2.2.1, hG.2.2.2.2.2.2.1, hG.2.2.2.2.2.2.2.1, hG.2.2.2.2.2.2.2.2.1, hG.2.2.2.2.2.2.2.2.2.1, hG.2.2.2.2.2.2.2.2.2.2.1, hG.2.2.2.2.2.2.2.2.2.2.2.1, hG.2.2.2.2.2.2.2.2.2.2.2.2.1, hG.2.2.2.2.2.2.2.2.2.2.2.2.2.1, hG.2.2.2.2.2.2.2.2.2.2.2.2.2.2.1, hG.2.2.2.2.2.2.2.2.2.2.2.2.2.2.2.1, hG.2.2.2.2.2.2.2.2.2.2.2.2.2.2.2.2.1, hG.2.2.2.2.2.2.2.2.2.2.2.2.2.2.2.2.2.1, hG.2.2.2.2.2.2.2.2.2.2.2.2.2.2.2.2.2.2.1, hG.2.2.2.2.2.2.2.2.2.2.2.2.2.2.2.2.2.2.2.1, hG.2.2.2.2.2.2.2.2.2.2.2.2.2.2.2.2.2.2.2.2.1, hG.2.2.2.2.2.2.2.2.2.2.2.2.2.2.2.2.2.2.2.2.2.1, hG.2.2.2.2.2.2.2.2.2.2.2.2.2.2.2.2.2.2.2.2.2.2.1, hG.2.2.2.2.2.2.2.2.2.2.2.2.2.2.2.2.2.2.2.2.2.2.2.1, hG.2.2.2.2.2.2.2.2.2.2.2.2.2.2.2.2.2.2.2.2.2.2.2.2⟩⟩
theorem sx_q_l_zS1_1 {γ : Nat → Int} {A : Nat → Nat → Int} {j : Nat} {y : Int} (hG : sx_G0 γ A) (f0 : 0 ≤ (-42) + (1 * y + 0)) (f1 : 0 ≤ (-1) + (1 * γ 18447 + 0)) : ∃ a ∈ sx_r_l_zS1.2, ∃ w : Nat → Int, (∀ (i : Nat) p, a.1[i]? = some p → p.2.1 ≤ w i ∧ w i ≤ p.2.2) ∧ (∀ f ∈ a.2.1, 0 ≤ sx_d (sx_th γ (j : Int) y w) f) ∧ (∀ e, a.2.2.2.head? = some e → sx_d (sx_th γ (j : Int) y w) e = y) ∧ sx_G0 (sx_gu γ (sx_th γ (j : Int) y w) a.2.2.1) (if false = true then sx_au A 123 j y else A) := ⟨([], [((-42), [(19001, 1)]), ((-1), [(18447, 1)])], [], []), List.Mem.tail _ (List.Mem.head _), (fun _ => 0), fun i p hi => (by
    match i, hi with
    | n + 0, hi => simp at hi), fun f hf => (by
    simp only [List.mem_cons, List.not_mem_nil, or_false] at hf
    rcases hf with rfl | rfl
    · exact f0
    · exact f1
    ), fun e he => (by cases he), ⟨hG.1, hG.2.1, hG.2.2.1, hG.2.2.2.1, hG.2.2.2.2.1, hG.2.2.2.2.2.1, hG.2.2.2.2.2.2.1, hG.2.2.2.2.2.2.2.1, hG.2.2.2.2.2.2.2.2.1, hG.2.2.2.2.2.2.2.2.2.1, hG.2.2.2.2.2.2.2.2.2.2.1, hG.2.2.2.2.2.2.2.2.2.2.2.1, hG.2.2.2.2.2.2.2.2.2.2.2.2.1, hG.2.2.2.2.2.2.2.2.2.2.2.2.2.1, hG.2.2.2.2.2.2.2.2.2.2.2.2.2.2.1, hG.2.2.2.2.2.2.2.2.2.2.2.2.2.2.2.1, hG.2.2.2.2.2.2.2.2.2.2.2.2.2.2.2.2.1, hG.2.2.2.2.2.2.2.2.2.2.2.2.2.2.2.2.2.1, hG.2.2.2.2.2.2.2.2.2.2.2.2.2.2.2.2.2.2.1, hG.2.2.2.2.2.2.2.2.2.2.2.2.2.2.2.2.2.2.2.1, hG.2.2.2.2.2.2.2.2.2.2.2.2.2.2.2.2.2.2.2.2.1, hG.2.2.2.2.2.2.2.2.2.2.2.2.2.2.2.2.2.2.2.2.2.1, hG.2.2.2.2.2.2.2.2.2.2.2.2.2.2.2.2.2.2.2.2.2.2.1, hG.2.2.2.2.2.2.2.2.2.2.2.2.2.2.2.2.2.2.2.2.2.2.2.1, hG.2.2.2.2.2.2.2.2.2.2.2.2.2.2.2.2.2.2.2.2.2.2.2.2⟩⟩
theorem sx_q_l_zS2_0 {γ : Nat → Int} {A : Nat → Nat → Int} {j : Nat} {y : Int} (hG : sx_G0 γ A) (f0 : 0 ≤ 0 + ((-1) * γ 18448 + 0)) (hv : 0 + 0 = y) : ∃ a ∈ sx_r_l_zS2.2, ∃ w : Nat → Int, (∀ (i : Nat) p, a.1[i]? = some p → p.2.1 ≤ w i ∧ w i ≤ p.2.2) ∧ (∀ f ∈ a.2.1, 0 ≤ sx_d (sx_th γ (j : Int) y w) f) ∧ (∀ e, a.2.2.2.head? = some e → sx_d (sx_th γ (j : Int) y w) e = y) ∧ sx_G0 (sx_gu γ (sx_th γ (j : Int) y w) a.2.2.1) (if false = true then sx_au A 123 j y else A) := ⟨([], [(0, [(18448, (-1))])], [], [(0, [])]), List.Mem.head _, (fun _ => 0), fun i p hi => (by
    match i, hi with
    | n + 0, hi => simp at hi), fun f hf => (by
    simp only [List.mem_cons, List.not_mem_nil, or_false] at hf
    rcases hf with rfl
    · exact f0
    ), fun e he => (by cases he; exact hv), ⟨hG.1, hG.2.1, hG.2.2.1, hG.2.2.2.1, hG.2.2.2.2.1, hG.2.2.2.2.2.1, hG.2.2.2.2.2.2.1, hG.2.2.2.2.2.2.2.1, hG.2.2.2.2.2.2.2.2.1, hG.2.2.2.2.2.2.2.2.2.1, hG.2.2.2.2.2.2.2.2.2.2.1, hG.2.2.2.2.2.2.2.2.2.2.2.1, hG.2.2.2.2.2.2.2.2.2.2.2.2.1, hG.2.2.2.2.2.2.2.2.2.2.2.2.2.1, hG.2.2.2.2.2.2.2.2.2.2.2.2.2.2.1, hG.2.2.2.2.2.2.2.2.2.2.2.2.2.2.2.1, hG.2.2.2.2.2.2.2.2.2.2.2.2.2.2.2.2.1, hG.2.2.2.2.2.2.2.2.2.2.2.2.2.2.2.2.2.1, hG.2.2.2.2.2.2.2.2.2.2.2.2.2.2.2.2.2.2.1, hG.2.2.2.2.2.2.2.2.2.2.2.2.2.2.2.2.2.2.2.1, hG.2.2.2.2.2.2.2.2.2.2.2.2.2.2.2.2.2.2.2.2.1, hG.2.2.2.2.2.2.2.2.2.2.2.2.2.2.2.2.2.2.2.2.2.1, hG.2.2.2.2.2.2.2.2.2.2.2.2.2.2.2.2.2.2.2.2.2.2.1, hG.2.2.2.2.2.2.2.2.2.2.2.2.2.2.2.2.2.2.2.2.2.2.2.1, hG.2.2.2.2.2.2.2.2.2.2.2.2.2.2.2.2.2.2.2.2.2.2.2.2⟩⟩
theorem sx_q_l_zS2_1 {γ : Nat → Int} {A : Nat → Nat → Int} {j : Nat} {y : Int} (hG : sx_G0 γ A) (f0 : 0 ≤ (-42) + (1 * y + 0)) (f1 : 0 ≤ (-1) + (1 * γ 18448 + 0)) : ∃ a ∈ sx_r_l_zS2.2, ∃ w : Nat → Int, (∀ (i : Nat) p, a.1[i]? = some p → p.2.1 ≤ w i ∧ w i ≤ p.2.2) ∧ (∀ f ∈ a.2.1, 0 ≤ sx_d (sx_th γ (j : Int) y w) f) ∧ (∀ e, a.2.2.2.head? = some e → sx_d (sx_th γ (j : Int) y w) e = y) ∧ sx_G0 (sx_gu γ (sx_th γ (j : Int) y w) a.2.2.1) (if false = true then sx_au A 123 j y else A) := ⟨([], [((-42), [(19001, 1)]), ((-1), [(18448, 1)])], [], []), List.Mem.tail _ (List.Mem.head _), (fun _ => 0), fun i p hi => (by
    match i, hi with
    | n + 0, hi => simp at hi), fun f hf => (by
    simp only [List.mem_cons, List.not_mem_nil, or_false] at hf
    rcases hf with rfl | rfl
    · exact f0
    · exact f1
    ), fun e he => (by cases he), ⟨hG.1, hG.2.1, hG.2.2.1, hG.2.2.2.1, hG.2.2.2.2.1, hG.2.2.2.2.2.1, hG.2.2.2.2.2.2.1, hG.2.2.2.2.2.2.2.1, hG.2.2.2.2.2.2.2.2.1, hG.2.2.2.2.2.2.2.2.2.1, hG.2.2.2.2.2.2.2.2.2.2.1, hG.2.2.2.2.2.2.2.2.2.2.2.1, hG.2.2.2.2.2.2.2.2.2.2.2.2.1, hG.2.2.2.2.2.2.2.2.2.2.2.2.2.1, hG.2.2.2.2.2.2.2.2.2.2.2.2.2.2.1, hG.2.2.2.2.2.2.2.2.2.2.2.2.2.2.2.1, hG.2.2.2.2.2.2.2.2.2.2.2.2.2.2.2.2.1, hG.2.2.2.2.2.2.2.2.2.2.2.2.2.2.2.2.2.1, hG.2.2.2.2.2.2.2.2.2.2.2.2.2.2.2.2.2.2.1, hG.2.2.2.2.2.2.2.2.2.2.2.2.2.2.2.2.2.2.2.1, hG.2.2.2.2.2.2.2.2.2.2.2.2.2.2.2.2.2.2.2.2.1, hG.2.2.2.2.2.2.2.2.2.2.2.2.2.2.2.2.2.2.2.2.2.1, hG.2.2.2.2.2.2.2.2.2.2.2.2.2.2.2.2.2.2.2.2.2.2.1, hG.2.2.2.2.2.2.2.2.2.2.2.2.2.2.2.2.2.2.2.2.2.2.2.1, hG.2.2.2.2.2.2.2.2.2.2.2.2.2.2.2.2.2.2.2.2.2.2.2.2⟩⟩
theorem sx_q_l_zS3_0 {γ : Nat → Int} {A : Nat → Nat → Int} {j : Nat} {y : Int} (hG : sx_G0 γ A) (f0 : 0 ≤ 0 + ((-1) * γ 18449 + 0)) (hv : 0 + 0 = y) : ∃ a ∈ sx_r_l_zS3.2, ∃ w : Nat → Int, (∀ (i : Nat) p, a.1[i]? = some p → p.2.1 ≤ w i ∧ w i ≤ p.2.2) ∧ (∀ f ∈ a.2.1, 0 ≤ sx_d (sx_th γ (j : Int) y w) f) ∧ (∀ e, a.2.2.2.head? = some e → sx_d (sx_th γ (j : Int) y w) e = y) ∧ sx_G0 (sx_gu γ (sx_th γ (j : Int) y w) a.2.2.1) (if false = true then sx_au A 123 j y else A) := ⟨([], [(0, [(18449, (-1))])], [], [(0, [])]), List.Mem.head _, (fun _ => 0), fun i p hi => (by
    match i, hi with
    | n + 0, hi => simp at hi), fun f hf => (by
    simp only [List.mem_cons, List.not_mem_nil, or_false] at hf
    rcases hf with rfl
    · exact f0
    ), fun e he => (by cases he; exact hv), ⟨hG.1, hG.2.1, hG.2.2.1, hG.2.2.2.1, hG.2.2.2.2.1, hG.2.2.2.2.2.1, hG.2.2.2.2.2.2.1, hG.2.2.2.2.2.2.2.1, hG.2.2.2.2.2.2.2.2.1, hG.2.2.2.2.2.2.2.2.2.1, hG.2.2.2.2.2.2.2.2.2.2.1, hG.2.2.2.2.2.2.2.2.2.2.2.1, hG.2.2.2.2.2.2.2.2.2.2.2.2.1, hG.2.2.2.2.2.2.2.2.2.2.2.2.2.1, hG.2.2.2.2.2.2.2.2.2.2.2.2.2.2.1, hG.2.2.2.2.2.2.2.2.2.2.2.2.2.2.2.1, hG.2.2.2.2.2.2.2.2.2.2.2.2.2.2.2.2.1, hG.2.2.2.2.2.2.2.2.2.2.2.2.2.2.2.2.2.1, hG.2.2.2.2.2.2.2.2.2.2.2.2.2.2.2.2.2.2.1, hG.2.2.2.2.2.2.2.2.2.2.2.2.2.2.2.2.2.2.2.1, hG.2.2.2.2.2.2.2.2.2.2.2.2.2.2.2.2.2.2.2.2.1, hG.2.2.2.2.2.2.2.2.2.2.2.2.2.2.2.2.2.2.2.2.2.1, hG.2.2.2.2.2.2.2.2.2.2.2.2.2.2.2.2.2.2.2.2.2.2.1, hG.2.2.2.2.2.2.2.2.2.2.2.2.2.2.2.2.2.2.2.2.2.2.2.1, hG.2.2.2.2.2.2.2.2.2.2.2.2.2.2.2.2.2.2.2.2.2.2.2.2⟩⟩
theorem sx_q_l_zS3_1 {γ : Nat → Int} {A : Nat → Nat → Int} {j : Nat} {y : Int} (hG : sx_G0 γ A) (f0 : 0 ≤ (-42) + (1 * y + 0)) (f1 : 0 ≤ (-1) + (1 * γ 18449 + 0)) : ∃ a ∈ sx_r_l_zS3.2, ∃ w : Nat → Int, (∀ (i : Nat) p, a.1[i]? = some p → p.2.1 ≤ w i ∧ w i ≤ p.2.2) ∧ (∀ f ∈ a.2.1, 0 ≤ sx_d (sx_th γ (j : Int) y w) f) ∧ (∀ e, a.2.2.2.head? = some e → sx_d (sx_th γ (j : Int) y w) e = y) ∧ sx_G0 (sx_gu γ (sx_th γ (j : Int) y w) a.2.2.1) (if false = true then sx_au A 123 j y else A) := ⟨([], [((-42), [(19001, 1)]), ((-1), [(18449, 1)])], [], []), List.Mem.tail _ (List.Mem.head _), (fun _ => 0), fun i p hi => (by
    match i, hi with
    | n + 0, hi => simp at hi), fun f hf => (by
    simp only [List.mem_cons, List.not_mem_nil, or_false] at hf
    rcases hf with rfl | rfl
    · exact f0
    · exact f1
    ), fun e he => (by cases he), ⟨hG.1, hG.2.1, hG.2.2.1, hG.2.2.2.1, hG.2.2.2.2.1, hG.2.2.2.2.2.1, hG.2.2.2.2.2.2.1, hG.2.2.2.2.2.2.2.1, hG.2.2.2.2.2.2.2.2.1, hG.2.2.2.2.2.2.2.2.2.1, hG.2.2.2.2.2.2.2.2.2.2.1, hG.2.2.2.2.2.2.2.2.2.2.2.1, hG.2.2.2.2.2.2.2.2.2.2.2.2.1, hG.2.2.2.2.2.2.2.2.2.2.2.2.2.1, hG.2.2.2.2.2.2.2.2.2.2.2.2.2.2.1, hG.2.2.2.2.2.2.2.2.2.2.2.2.2.2.2.1, hG.2.2.2.2.2.2.2.2.2.2.2.2.2.2.2.2.1, hG.2.2.2.2.2.2.2.2.2.2.2.2.2.2.2.2.2.1, hG.2.2.2.2.2.2.2.2.2.2.2.2.2.2.2.2.2.2.1, hG.2.2.2.2.2.2.2.2.2.2.2.2.2.2.2.2.2.2.2.1, hG.2.2.2.2.2.2.2.2.2.2.2.2.2.2.2.2.2.2.2.2.1, hG.2.2.2.2.2.2.2.2.2.2.2.2.2.2.2.2.2.2.2.2.2.1, hG.2.2.2.2.2.2.2.2.2.2.2.2.2.2.2.2.2.2.2.2.2.2.1, hG.2.2.2.2.2.2.2.2.2.2.2.2.2.2.2.2.2.2.2.2.2.2.2.1, hG.2.2.2.2.2.2.2.2.2.2.2.2.2.2.2.2.2.2.2.2.2.2.2.2⟩⟩
theorem sx_q_l_zS4_0 {γ : Nat → Int} {A : Nat → Nat → Int} {j : Nat} {y : Int} (hG : sx_G0 γ A) (f0 : 0 ≤ 0 + ((-1) * γ 18450 + 0)) (hv : 0 + 0 = y) : ∃ a ∈ sx_r_l_zS4.2, ∃ w : Nat → Int, (∀ (i : Nat) p, a.1[i]? = some p → p.2.1 ≤ w i ∧ w i ≤ p.2.2) ∧ (∀ f ∈ a.2.1, 0 ≤ sx_d (sx_th γ (j : Int) y w) f) ∧ (∀ e, a.2.2.2.head? = some e → sx_d (sx_th γ (j : Int) y w) e = y) ∧ sx_G0 (sx_gu γ (sx_th γ (j : Int) y w) a.2.2.1) (if false = true then sx_au A 123 j y else A) := ⟨([], [(0, [(18450, (-1))])], [], [(0, [])]), List.Mem.head _, (fun _ => 0), fun i p hi => (by
    match i, hi with
    | n + 0, hi => simp at hi), fun f hf => (by
    simp only [List.mem_cons, List.not_mem_nil, or_false] at hf
    rcases hf with rfl
    · exact f0
    ), fun e he => (by cases he; exact hv), ⟨hG.1, hG.2.1, hG.2.2.1, hG.2.2.2.1, hG.2.2.2.2.1, hG.2.2.2.2.2.1, hG.2.2.2.2.2.2.1, hG.2.2.2.2.2.2.2.1, hG.2.2.2.2.2.2.2.2.1, hG.2.2.2.2.2.2.2.2.2.1, hG.2.2.2.2.2.2.2.2.2.2.1, hG.2.2.2.2.2.2.2.2.2.2.2.1, hG.2.2.2.2.2.2.2.2.2.2.2.2.1, hG.2.2.2.2.2.2.2.2.2.2.2.2.2.1, hG.2.2.2.2.2.2.2.2.2.2.2.2.2.2.1, hG.2.2.2.2.2.2.2.2.2.2.2.2.2.2.2.1, hG.2.2.2.2.2.2.2.2.2.2.2.2.2.2.2.2.1, hG.2.2.2.2.2.2.2.2.2.2.2.2.2.2.2.2.2.1, hG.2.2.2.2.2.2.2.2.2.2.2.2.2.2.2.2.2.2.1, hG.2.2.2.2.2.2.2.2.2.2.2.2.2.2.2.2.2.2.2.1, hG.2.2.2.2.2.2.2.2.2.2.2.2.2.2.2.2.2.2.2.2.1, hG.2.2.2.2.2.2.2.2.2.2.2.2.2.2.2.2.2.2.2.2.2.1, hG.2.2.2.2.2.2.2.2.2.2.2.2.2.2.2.2.2.2.2.2.2.2.1, hG.2.2.2.2.2.2.2.2.2.2.2.2.2.2.2.2.2.2.2.2.2.2.2.1, hG.2.2.2.2.2.2.2.2.2.2.2.2.2.2.2.2.2.2.2.2.2.2.2.2⟩⟩
theorem sx_q_l_zS4_1 {γ : Nat → Int} {A : Nat → Nat → Int} {j : Nat} {y : Int} (hG : sx_G0 γ A) (f0 : 0 ≤ (-42) + (1 * y + 0)) (f1 : 0 ≤ (-1) + (1 * γ 18450 + 0)) : ∃ a ∈ sx_r_l_zS4.2, ∃ w : Nat → Int, (∀ (i : Nat) p, a.1[i]? = some p → p.2.1 ≤ w i ∧ w i ≤ p.2.2) ∧ (∀ f ∈ a.2.1, 0 ≤ sx_d (sx_th γ (j : Int) y w) f) ∧ (∀ e, a.2.2.2.head? = some e → sx_d (sx_th γ (j : Int) y w) e = y) ∧ sx_G0 (sx_gu γ (sx_th γ (j : Int) y w) a.2.2.1) (if false = true then sx_au A 123 j y else A) := ⟨([], [((-42), [(19001, 1)]), ((-1), [(18450, 1)])], [], []), List.Mem.tail _ (List.Mem.head _), (fun _ => 0), fun i p hi => (by
    match i, hi with
    | n + 0, hi => simp at hi), fun f hf => (by
    simp only [List.mem_cons, List.not_mem_nil, or_false] at hf
    rcases hf with rfl | rfl
    · exact f0
    · exact f1
    ), fun e he => (by cases he), ⟨hG.1, hG.2.1, hG.2.2.1, hG.2.2.2.1, hG.2.2.2.2.1, hG.2.2.2.2.2.1, hG.2.2.2.2.2.2.1, hG.2.2.2.2.2.2.2.1, hG.2.2.2.2.2.2.2.2.1, hG.2.2.2.2.2.2.2.2.2.1, hG.2.2.2.2.2.2.2.2.2.2.1, hG.2.2.2.2.2.2.2.2.2.2.2.1, hG.2.2.2.2.2.2.2.2.2.2.2.2.1, hG.2.2.2.2.2.2.2.2.2.2.2.2.2.1, hG.2.2.2.2.2.2.2.2.2.2.2.2.2.2.1, hG.2.2.2.2.2.2.2.2.2.2.2.2.2.2.2.1, hG.2.2.2.2.2.2.2.2.2.2.2.2.2.2.2.2.1, hG.2.2.2.2.2.2.2.2.2.2.2.2.2.2.2.2.2.1, hG.2.2.2.2.2.2.2.2.2.2.2.2.2.2.2.2.2.2.1, hG.2.2.2.2.2.2.2.2.2.2.2.2.2.2.2.2.2.2.2.1, hG.2.2.2.2.2.2.2.2.2.2.2.2.2.2.2.2.2.2.2.2.1, hG.2.2.2.2.2.2.2.2.2.2.2.2.2.2.2.2.2.2.2.2.2.1, hG.2.2.2.2.2.2.2.2.2.2.2.2.2.2.2.2.2.2.2.2.2.2.1, hG.2.2.2.2.2.2.2.2.2.2.2.2.2.2.2.2.2.2.2.2.2.2.2.1, hG.2.2.2.2.2.2.2.2.2.2.2.2.2.2.2.2.2.2.2.2.2.2.2.2⟩⟩
theorem sx_q_l_zS5_0 {γ : Nat → Int} {A : Nat → Nat → Int} {j : Nat} {y : Int} (hG : sx_G0 γ A) (f0 : 0 ≤ 0 + ((-1) * γ 18451 + 0)) (hv : 0 + 0 = y) : ∃ a ∈ sx_r_l_zS5.2, ∃ w : Nat → Int, (∀ (i : Nat) p, a.1[i]? = some p → p.2.1 ≤ w i ∧ w i ≤ p.2.2) ∧ (∀ f ∈ a.2.1, 0 ≤ sx_d (sx_th γ (j : Int) y w) f) ∧ (∀ e, a.2.2.2.head? = some e → sx_d (sx_th γ (j : Int) y w) e = y) ∧ sx_G0 (sx_gu γ (sx_th γ (j : Int) y w) a.2.2.1) (if false = true then sx_au A 123 j y else A) := ⟨([], [(0, [(18451, (-1))])], [], [(0, [])]), List.Mem.head _, (fun _ => 0), fun i p hi => (by
    match i, hi with
    | n + 0, hi => simp at hi), fun f hf => (by
    simp only [List.mem_cons, List.not_mem_nil, or_false] at hf
    rcases hf with rfl
    · exact f0
    ), fun e he => (by cases he; exact hv), ⟨hG.1, hG.2.1, hG.2.2.1, hG.2.2.2.1, hG.2.2.2.2.1, hG.2.2.2.2.2.1, hG.2.2.2.2.2.2.1, hG.2.2.2.2.2.2.2.1, hG.2.2.2.2.2.2.2.2.1, hG.2.2.2.2.2.2.2.2.2.1, hG.2.2.2.2.2.2.2.2.2.2.1, hG.2.2.2.2.2.2.2.2.2.2.2.1, hG.2.2.2.2.2.2.2.2.2.2.2.2.1, hG.2.2.2.2.2.2.2.2.2.2.2.2.2.1, hG.2.2.2.2.2.2.2.2.2.2.2.2.2.2.1, hG.2.2.2.2.2.2.2.2.2.2.2.2.2.2.2.1, hG.2.2.2.2.2.2.2.2.2.2.2.2.2.2.2.2.1, hG.2.2.2.2.2.2.2.2.2.2.2.2.2.2.2.2.2.1, hG.2.2.2.2.2.2.2.2.2.2.2.2.2.2.2.2.2.2.1, hG.2.2.2.2.2.2.2.2.2.2.2.2.2.2.2.2.2.2.2.1, hG.2.2.2.2.2.2.2.2.2.2.2.2.2.2.2.2.2.2.2.2.1, hG.2.2.2.2.2.2.2.2.2.2.2.2.2.2.2.2.2.2.2.2.2.1, hG.2.2.2.2.2.2.2.2.2.2.2.2.2.2.2.2.2.2.2.2.2.2.1, hG.2.2.2.2.2.2.2.2.2.2.2.2.2.2.2.2.2.2.2.2.2.2.2.1, hG.2.2.2.2.2.2.2.2.2.2.2.2.2.2.2.2.2.2.2.2.2.2.2.2⟩⟩
theorem sx_q_l_zS5_1 {γ : Nat → Int} {A : Nat → Nat → Int} {j : Nat} {y : Int} (hG : sx_G0 γ A) (f0 : 0 ≤ (-42) + (1 * y + 0)) (f1 : 0 ≤ (-1) + (1 * γ 18451 + 0)) : ∃ a ∈ sx_r_l_zS5.2, ∃ w : Nat → Int, (∀ (i : Nat) p, a.1[i]? = some p → p.2.1 ≤ w i ∧ w i ≤ p.2.2) ∧ (∀ f ∈ a.2.1, 0 ≤ sx_d (sx_th γ (j : Int) y w) f) ∧ (∀ e, a.2.2.2.head? = some e → sx_d (sx_th γ (j : Int) y w) e = y) ∧ sx_G0 (sx_gu γ (sx_th γ (j : Int) y w) a.2.2.1) (if false = true then sx_au A 123 j y else A) := ⟨([], [((-42), [(19001, 1)]), ((-1), [(18451, 1)])], [], []), List.Mem.tail _ (List.Mem.head _), (fun _ => 0), fun i p hi => (by
    match i, hi with
    | n + 0, hi => simp at hi), fun f hf => (by
    simp only [List.mem_cons, List.not_mem_nil, or_false] at hf
    rcases hf with rfl | rfl
    · exact f0
    · exact f1
    ), fun e he => (by cases he), ⟨hG.1, hG.2.1, hG.2.2.1, hG.2.2.2.1, hG.2.2.2.2.1, hG.2.2.2.2.2.1, hG.2.2.2.2.2.2.1, hG.2.2.2.2.2.2.2.1, hG.2.2.2.2.2.2.2.2.1, hG.2.2.2.2.2.2.2.2.2.1, hG.2.2.2.2.2.2.2.2.2.2.1, hG.2.2.2.2.2.2.2.2.2.2.2.1, hG.2.2.2.2.2.2.2.2.2.2.2.2.1, hG.2.2.2.2.2.2.2.2.2.2.2.2.2.1, hG.2.2.2.2.2.2.2.2.2.2.2.2.2.2.1, hG.2.2.2.2.2.2.2.2.2.2.2.2.2.2.2.1, hG.2.2.2.2.2.2.2.2.2.2.2.2.2.2.2.2.1, hG.2.2.2.2.2.2.2.2.2.2.2.2.2.2.2.2.2.1, hG.2.2.2.2.2.2.2.2.2.2.2.2.2.2.2.2.2.2.1, hG.2.2.2.2.2.2.2.2.2.2.2.2.2.2.2.2.2.2.2.1, hG.2.2.2.2.2.2.2.2.2.2.2.2.2.2.2.2.2.2.2.2.1, hG.2.2.2.2.2.2.2.2.2.2.2.2.2.2.2.2.2.2.2.2.2.1, hG.2.2.2.2.2.2.2.2.2.2.2.2.2.2.2.2.2.2.2.2.2.2.1, hG.2.2.2.2.2.2.2.2.2.2.2.2.2.2.2.2.2.2.2.2.2.2.2.1, hG.2.2.2.2.2.2.2.2.2.2.2.2.2.2.2.2.2.2.2.2.2.2.2.2⟩⟩
theorem sx_q_l_zS6_0 {γ : Nat → Int} {A : Nat → Nat → Int} {j : Nat} {y : Int} (hG : sx_G0 γ A) (f0 : 0 ≤ 0 + ((-1) * γ 18452 + 0)) (hv : 0 + 0 = y) : ∃ a ∈ sx_r_l_zS6.2, ∃ w : Nat → Int, (∀ (i : Nat) p, a.1[i]? = some p → p.2.1 ≤ w i ∧ w i ≤ p.2.2) ∧ (∀ f ∈ a.2.1, 0 ≤ sx_d (sx_th γ (j : Int) y w) f) ∧ (∀ e, a.2.2.2.head? = some e → sx_d (sx_th γ (j : Int) y w) e = y) ∧ sx_G0 (sx_gu γ (sx_th γ (j : Int) y w) a.2.2.1) (if false = true then sx_au A 123 j y else A) := ⟨([], [(0, [(18452, (-1))])], [], [(0, [])]), List.Mem.head _, (fun _ => 0), fun i p hi => (by
    match i, hi with
    | n + 0, hi => simp at hi), fun f hf => (by
    simp only [List.mem_cons, List.not_mem_nil, or_false] at hf
    rcases hf with rfl
    · exact f0
    ), fun e he => (by cases he; exact hv), ⟨hG.1, hG.2.1, hG.2.2.1, hG.2.2.2.1, hG.2.2.2.2.1, hG.2.2.2.2.2.1, hG.2.2.2.2.2.2.1, hG.2.2.2.2.2.2.2.1, hG.2.2.2.2.2.2.2.2.1, hG.2.2.2.2.2.2.2.2.2.1, hG.2.2.2.2.2.2.2.2.2.2.1, hG.2.2.2.2.2.2.2.2.2.2.2.1, hG.2.2.2.2.2.2.2.2.2.2.2.2.1, hG.2.2.2.2.2.2.2.2.2.2.2.2.2.1, hG.2.2.2.2.2.2.2.2.2.2.2.2.2.2.1, hG.2.2.2.2.2.2.2.2.2.2.2.2.2.2.2.1, hG.2.2.2.2.2.2.2.2.2.2.2.2.2.2.2.2.1, hG.2.2.2.2.2.2.2.2.2.2.2.2.2.2.2.2.2.1, hG.2.2.2.2.2.2.2.2.2.2.2.2.2.2.2.2.2.2.1, hG.2.2.2.2.2.2.2.2.2.2.2.2.2.2.2.2.2.2.2.1, hG.2.2.2.2.2.2.2.2.2.2.2.2.2.2.2.2.2.2.2.2.1, hG.2.2.2.2.2.2.2.2.2.2.2.2.2.2.2.2.2.2.2.2.2.1, hG.2.2.2.2.2.2.2.2.2.2.2.2.2.2.2.2.2.2.2.2.2.2.1, hG.2.2.2.2.2.2.2.2.2.2.2.2.2.2.2.2.2.2.2.2.2.2.2.1, hG.2.2.2.2.2.2.2.2.2.2.2.2.2.2.2.2.2.2.2.2.2.2.2.2⟩⟩
theorem sx_q_l_zS6_1 {γ : Nat → Int} {A : Nat → Nat → Int} {j : Nat} {y : Int} (hG : sx_G0 γ A) (f0 : 0 ≤ (-42) + (1 * y + 0)) (f1 : 0 ≤ (-1) + (1 * γ 18452 + 0)) : ∃ a ∈ sx_r_l_zS6.2, ∃ w : Nat → Int, (∀ (i : Nat) p, a.1[i]? = some p → p.2.1 ≤ w i ∧ w i ≤ p.2.2) ∧ (∀ f ∈ a.2.1, 0 ≤ sx_d (sx_th γ (j : Int) y w) f) ∧ (∀ e, a.2.2.2.head? = some e → sx_d (sx_th γ (j : Int) y w) e = y) ∧ sx_G0 (sx_gu γ (sx_th γ (j : Int) y w) a.2.2.1) (if false = true then sx_au A 123 j y else A) := ⟨([], [((-42), [(19001, 1)]), ((-1), [(18452, 1)])], [], []), List.Mem.tail _ (List.Mem.head _), (fun _ => 0), fun i p hi => (by
    match i, hi with
    | n + 0, hi => simp at hi), fun f hf => (by
    simp only [List.mem_cons, List.not_mem_nil, or_false] at hf
    rcases hf with rfl | rfl
    · exact f0
    · exact f1
    ), fun e he => (by cases he), ⟨hG.1, hG.2.1, hG.2.2.1, hG.2.2.2.1, hG.2.2.2.2.1, hG.2.2.2.2.2.1, hG.2.2.2.2.2.2.1, hG.2.2.2.2.2.2.2.1, hG.2.2.2.2.2.2.2.2.1, hG.2.2.2.2.2.2.2.2.2.1, hG.2.2.2.2.2.2.2.2.2.2.1, hG.2.2.2.2.2.2.2.2.2.2.2.1, hG.2.2.2.2.2.2.2.2.2.2.2.2.1, hG.2.2.2.2.2.2.2.2.2.2.2.2.2.1, hG.2.2.2.2.2.2.2.2.2.2.2.2.2.2.1, hG.2.2.2.2.2.2.2.2.2.2.2.2.2.2.2.1, hG.2.2.2.2.2.2.2.2.2.2.2.2.2.2.2.2.1, hG.2.2.2.2.2.2.2.2.2.2.2.2.2.2.2.2.2.1, hG.2.2.2.2.2.2.2.2.2.2.2.2.2.2.2.2.2.2.1, hG.2.2.2.2.2.2.2.2.2.2.2.2.2.2.2.2.2.2.2.1, hG.2.2.2.2.2.2.2.2.2.2.2.2.2.2.2.2.2.2.2.2.1, hG.2.2.2.2.2.2.2.2.2.2.2.2.2.2.2.2.2.2.2.2.2.1, hG.2.2.2.2.2.2.2.2.2.2.2.2.2.2.2.2.2.2.2.2.2.2.1, hG.2.2.2.2.2.2.2.2.2.2.2.2.2.2.2.2.2.2.2.2.2.2.2.1, hG.2.2.2.2.2.2.2.2.2.2.2.2.2.2.2.2.2.2.2.2.2.2.2.2⟩⟩
theorem sx_q_l_zI0_0 {γ : Nat → Int} {A : Nat → Nat → Int} {j : Nat} {y : Int} (hG : sx_G0 γ A) (f0 : 0 ≤ 0 + ((-1) * γ 18439 + 0)) (hv : 0 + 0 = y) : ∃ a ∈ sx_r_l_zI0.2, ∃ w : Nat → Int, (∀ (i : Nat) p, a.1[i]? = some p → p.2.1 ≤ w i ∧ w i ≤ p.2.2) ∧ (∀ f ∈ a.2.1, 0 ≤ sx_d (sx_th γ (j : Int) y w) f) ∧ (∀ e, a.2.2.2.head? = some e → sx_d (sx_th γ (j : Int) y w) e = y) ∧ sx_G0 (sx_gu γ (sx_th γ (j : Int) y w) a.2.2.1) (if false = true then sx_au A 124 j y else A) := ⟨([], [(0, [(18439, (-1))])], [], [(0, [])]), List.Mem.head _, (fun _ => 0), fun i p hi => (by
    match i, hi with
    | n + 0, hi => simp at hi), fun f hf => (by
    simp only [List.mem_cons, List.not_mem_nil, or_false] at hf
    rcases hf with rfl
    · exact f0
    ), fun e he => (by cases he; exact hv), ⟨hG.1, hG.2.1, hG.2.2.1, hG.2.2.2.1, hG.2.2.2.2.1, hG.2.2.2.2.2.1, hG.2.2.2.2.2.2.1, hG.2.2.2.2.2.2.2.1, hG.2.2.2.2.2.2.2.2.1, hG.2.2.2.2.2.2.2.2.2.1, hG.2.2.2.2.2.2.2.2.2.2.1, hG.2.2.2.2.2.2.2.2.2.2.2.1, hG.2.2.2.2.2.2.2.2.2.2.2.2.1, hG.2.2.2.2.2.2.2.2.2.2.2.2.2.1, hG.2.2.2.2.2.2.2.2.2.2.2.2.2.2.1, hG.2.2.2.2.2.2.2.2.2.2.2.2.2.2.2.1, hG.2.2.2.2.2.2.2.2.2.2.2.2.2.2.2.2.1, hG.2.2.2.2.2.2.2.2.2.2.2.2.2.2.2.2.2.1, hG.2.2.2.2.2.2.2.2.2.2.2.2.2.2.2.2.2.2.1, hG.2.2.2.2.2.2.2.2.2.2.2.2.2.2.2.2.2.2.2.1, hG.2.2.2.2.2.2.2.2.2.2.2.2.2.2.2.2.2.2.2.2.1, hG.2.2.2.2.2.2.2.2.2.2.2.2.2.2.2.2.2.2.2.2.2.1, hG.2.2.2.2.2.2.2.2.2.2.2.2.2.2.2.2.2.2.2.2.2.2.1, hG.2.2.2.2.2.2.2.2.2.2.2.2.2.2.2.2.2.2.2.2.2.2.2.1, hG.2.2.2.2.2.2.2.2.2.2.2.2.2.2.2.2.2.2.2.2.2.2.2.2⟩⟩
theorem sx_q_l_zI0_1 {γ : Nat → Int} {A : Nat → Nat → Int} {j : Nat} {y : Int} (hG : sx_G0 γ A) (f0 : 0 ≤ (-42) + (1 * y + 0)) (f1 : 0 ≤ (-1) + (1 * γ 18439 + 0)) : ∃ a ∈ sx_r_l_zI0.2, ∃ w : Nat → Int, (∀ (i : Nat) p, a.1[i]? = some p → p.2.1 ≤ w i ∧ w i ≤ p.2.2) ∧ (∀ f ∈ a.2.1, 0 ≤ sx_d (sx_th γ (j : Int) y w) f) ∧ (∀ e, a.2.2.2.head? = some e → sx_d (sx_th γ (j : Int) y w) e = y) ∧ sx_G0 (sx_gu γ (sx_th γ (j : Int) y w) a.2.2.1) (if false = true then sx_au A 124 j y else A) := ⟨([], [((-42), [(19001, 1)]), ((-1), [(18439, 1)])], [], []), List.Mem.tail _ (List.Mem.head _), (fun _ => 0), fun i p hi => (by
    match i, hi with
    | n + 0, hi => simp at hi), fun f hf => (by
    simp only [List.mem_cons, List.not_mem_nil, or_false] at hf
    rcases hf with rfl | rfl
    · exact f0
    · exact f1
    ), fun e he => (by cases he), ⟨hG.1, hG.2.1, hG.2.2.1, hG.2.2.2.1, hG.2.2.2.2.1, hG.2.2.2.2.2.1, hG.2.2.2.2.2.2.1, hG.2.2.2.2.2.2.2.1, hG.2.2.2.2.2.2.2.2.1, hG.2.2.2.2.2.2.2.2.2.1, hG.2.2.2.2.2.2.2.2.2.2.1, hG.2.2.2.2.2.2.2.2.2.2.2.1, hG.2.2.2.2.2.2.2.2.2.2.2.2.1, hG.2.2.2.2.2.2.2.2.2.2.2.2.2.1, hG.2.2.2.2.2.2.2.2.2.2.2.2.2.2.1, hG.2.2.2.2.2.2.2.2.2.2.2.2.2.2.2.1, hG.2.2.2.2.2.2.2.2.2.2.2.2.2.2.2.2.1, hG.2.2.2.2.2.2.2.2.2.2.2.2.2.2.2.2.2.1, hG.2.2.2.2.2.2.2.2.2.2.2.2.2.2.2.2.2.2.1, hG.2.2.2.2.2.2.2.2.2.2.2.2.2.2.2.2.2.2.2.1, hG.2.2.2.2.2.2.2.2.2.2.2.2.2.2.2.2.2.2.2.2.1, hG.2.2.2.2.2.2.2.2.2.2.2.2.2.2.2.2.2.2.2.2.2.1, hG.2.2.2.2.2.2.2.2.2.2.2.2.2.2.2.2.2.2.2.2.2.2.1, hG.2.2.2.2.2.2.2.2.2.2.2.2.2.2.2.2.2.2.2.2.2.2.2.1, hG.2.2.2.2.2.2.2.2.2.2.2.2.2.2.2.2.2.2.2.2.2.2.2.2⟩⟩
theorem sx_q_l_zI1_0 {γ : Nat → Int} {A : Nat → Nat → Int} {j : Nat} {y : Int} (hG : sx_G0 γ A) (f0 : 0 ≤ 0 + ((-1) * γ 18440 + 0)) (hv : 0 + 0 = y) : ∃ a ∈ sx_r_l_zI1.2, ∃ w : Nat → Int, (∀ (i : Nat) p, a.1[i]? = some p → p.2.1 ≤ w i ∧ w i ≤ p.2.2) ∧ (∀ f ∈ a.2.1, 0 ≤ sx_d (sx_th γ (j : Int) y w) f) ∧ (∀ e, a.2.2.2.head? = some e → sx_d (sx_th γ (j : Int) y w) e = y) ∧ sx_G0 (sx_gu γ (sx_th γ (j : Int) y w) a.2.2.1) (if false = true then sx_au A 124 j y else A) := ⟨([], [(0, [(18440, (-1))])], [], [(0, [])]), List.Mem.head _, (fun _ => 0), fun i p hi => (by
    match i, hi with
    | n + 0, hi => simp at hi), fun f hf => (by
    simp only [List.mem_cons, List.not_mem_nil, or_false] at hf
    rcases hf with rfl
    · exact f0
    ), fun e he => (by cases he; exact hv), ⟨hG.1, hG.2.1, hG.2.2.1, hG.2.2.2.1, hG.2.2.2.2.1, hG.2.2.2.2.2.1, hG.2.2.2.2.2.2.1, hG.2.2.2.2.2.2.2.1, hG.2.2.2.2.2.2.2.2.1, hG.2.2.2.2.2.2.2.2.2.1, hG.2.2.2.2.2.2.2.2.2.2.1, hG.2.2.2.2.2.2.2.2.2.2.2.1, hG.2.2.2.2.2.2.2.2.2.2.2.2.1, hG.2.2.2.2.2.2.2.2.2.2.2.2.2.1, hG.2.2.2.2.2.2.2.2.2.2.2.2.2.2.1, hG.2.2.2.2.2.2.2.2.2.2.2.2.2.2.2.1, hG.2.2.2.2.2.2.2.2.2.2.2.2.2.2.2.2.1, hG.2.2.2.2.2.2.2.2.2.2.2.2.2.2.2.2.2.1, hG.2.2.2.2.2.2.2.2.2.2.2.2.2.2.2.2.2.2.1, hG.2.2.2.2.2.2.2.2.2.2.2.2.2.2.2.2.2.2.2.1, hG.2.2.2.2.2.2.2.2.2.2.2.2.2.2.2.2.2.2.2.2.1, hG.2.2.2.2.2.2.2.2.2.2.2.2.2.2.2.2.2.2.2.2.2.1, hG.2.2.2.2.2.2.2.2.2.2.2.2.2.2.2.2.2.2.2.2.2.2.1, hG.2.2.2.2.2.2.2.2.2.2.2.2.2.2.2.2.2.2.2.2.2.2.2.1, hG.2.2.2.2.2.2.2.2.2.2.2.2.2.2.2.2.2.2.2.2.2.2.2.2⟩⟩
theorem sx_q_l_zI1_1 {γ : Nat → Int} {A : Nat → Nat → Int} {j : Nat} {y : Int} (hG : sx_G0 γ A) (f0 : 0 ≤ (-42) + (1 * y + 0)) (f1 : 0 ≤ (-1) + (1 * γ 18440 + 0)) : ∃ a ∈ sx_r_l_zI1.2, ∃ w : Nat → Int, (∀ (i : Nat) p, a.1[i]? = some p → p.2.1 ≤ w i ∧ w i ≤ p.2.2) ∧ (∀ f ∈ a.2.1, 0 ≤ sx_d (sx_th γ (j : Int) y w) f) ∧ (∀ e, a.2.2.2.head? = some e → sx_d (sx_th γ (j : Int) y w) e = y) ∧ sx_G0 (sx_gu γ (sx_th γ (j : Int) y w) a.2.2.1) (if false = true then sx_au A 124 j y else A) := ⟨([], [((-42), [(19001, 1)]), ((-1), [(18440, 1)])], [], []), List.Mem.tail _ (List.Mem.head _), (fun _ => 0), fun i p hi => (by
    match i, hi with
    | n + 0, hi => simp at hi), fun f hf => (by
    simp only [List.mem_cons, List.not_mem_nil, or_false] at hf
    rcases hf with rfl | rfl
    · exact f0
    · exact f1
    ), fun e he => (by cases he), ⟨hG.1, hG.2.1, hG.2.2.1, hG.2.2.2.1, hG.2.2.2.2.1, hG.2.2.2.2.2.1, hG.2.2.2.2.2.2.1, hG.2.2.2.2.2.2.2.1, hG.2.2.2.2.2.2.2.2.1, hG.2.2.2.2.2.2.2.2.2.1, hG.2.2.2.2.2.2.2.2.2.2.1, hG.2.2.2.2.2.2.2.2.2.2.2.1, hG.2.2.2.2.2.2.2.2.2.2.2.2.1, hG.2.2.2.2.2.2.2.2.2.2.2.2.2.1, hG.2.2.2.2.2.2.2.2.2.2.2.2.2.2.1, hG.2.2.2.2.2.2.2.2.2.2.2.2.2.2.2.1, hG.2.2.2.2.2.2.2.2.2.2.2.2.2.2.2.2.1, hG.2.2.2.2.2.2.2.2.2.2.2.2.2.2.2.2.2.1, hG.2.2.2.2.2.2.2.2.2.2.2.2.2.2.2.2.2.2.1, hG.2.2.2.2.2.2.2.2.2.2.2.2.2.2.2.2.2.2.2.1, hG.2.2.2.2.2.2.2.2.2.2.2.2.2.2.2.2.2.2.2.2.1, hG.2.2.2.2.2.2.2.2.2.2.2.2.2.2.2.2.2.2.2.2.2.1, hG.2.2.2.2.2.2.2.2.2.2.2.2.2.2.2.2.2.2.2.2.2.2.1, hG.2.2.2.2.2.2.2.2.2.2.2.2.2.2.2.2.2.2.2.2.2.2.2.1, hG.2.2.2.2.2.2.2.2.2.2.2.2.2.2.2.2.2.2.2.2.2.2.2.2⟩⟩
theorem sx_q_l_zI2_0 {γ : Nat → Int} {A : Nat → Nat → Int} {j : Nat} {y : Int} (hG : sx_G0 γ A) (f0 : 0 ≤ 0 + ((-1) * γ 18441 + 0)) (hv : 0 + 0 = y) : ∃ a ∈ sx_r_l_zI2.2, ∃ w : Nat → Int, (∀ (i : Nat) p, a.1[i]? = some p → p.2.1 ≤ w i ∧ w i ≤ p.2.2) ∧ (∀ f ∈ a.2.1, 0 ≤ sx_d (sx_th γ (j : Int) y w) f) ∧ (∀ e, a.2.2.2.head? = some e → sx_d (sx_th γ (j : Int) y w) e = y) ∧ sx_G0 (sx_gu γ (sx_th γ (j : Int) y w) a.2.2.1) (if false = true then sx_au A 124 j y else A) := ⟨([], [(0, [(18441, (-1))])], [], [(0, [])]), List.Mem.head _, (fun _ => 0), fun i p hi => (by
    match i, hi with
    | n + 0, hi => simp at hi), fun f hf => (by
    simp only [List.mem_cons, List.not_mem_nil, or_false] at hf
    rcases hf with rfl
    · exact f0
    ), fun e he => (by cases he; exact hv), ⟨hG.1, hG.2.1, hG.2.2.1, hG.2.2.2.1, hG.2.2.2.2.1, hG.2.2.2.2.2.1, hG.2.2.2.2.2.2.1, hG.2.2.2.2.2.2.2.1, hG.2.2.2.2.2.2.2.2.1, hG.2.2.2.2.2.2.2.2.2.1, hG.2.2.2.2.2.2.2.2.2.2.1, hG.2.2.2.2.2.2.2.2.2.2.2.1, hG.2.2.2.2.2.2.2.2.2.2.2.2.1, hG.2.2.2.2.2.2.2.2.2.2.2.2.2.1, hG.2.2.2.2.2.2.2.2.2.2.2.2.2.2.1, hG.2.2.2.2.2.2.2.2.2.2.2.2.2.2.2.1, hG.2.2.2.2.2.2.2.2.2.2.2.2.2.2.2.2.1, hG.2.2.2.2.2.2.2.2.2.2.2.2.2.2.2.2.2.1, hG.2.2.2.2.2.2.2.2.2.2.2.2.2.2.2.2.2.2.1, hG.2.2.2.2.2.2.2.2.2.2.2.2.2.2.2.2.2.2.2.1, hG.2.2.2.2.2.2.2.2.2.2.2.2.2.2.2.2.2.2.2.2.1, hG.2.2.2.2.2.2.2.2.2.2.2.2.2.2.2.2.2.2.2.2.2.1, hG.2.2.2.2.2.2.2.2.2.2.2.2.2.2.2.2.2.2.2.2.2.2.1, hG.2.2.2.2.2.2.2.2.2.2.2.2.2.2.2.2.2.2.2.2.2.2.2.1, hG.2.2.2.2.2.2.2.2.2.2.2.2.2.2.2.2.2.2.2.2.2.2.2.2⟩⟩
theorem sx_q_l_zI2_1 {γ : Nat → Int} {A : Nat → Nat → Int} {j : Nat} {y : Int} (hG : sx_G0 γ A) (f0 : 0 ≤ (-42) + (1 * y + 0)) (f1 : 0 ≤ (-1) + (1 * γ 18441 + 0)) : ∃ a ∈ sx_r_l_zI2.2, ∃ w : Nat → Int, (∀ (i : Nat) p, a.1[i]? = some p → p.2.1 ≤ w i ∧ w i ≤ p.2.2) ∧ (∀ f ∈ a.2.1, 0 ≤ sx_d (sx_th γ (j : Int) y w) f) ∧ (∀ e, a.2.2.2.head? = some e → sx_d (sx_th γ (j : Int) y w) e = y) ∧ sx_G0 (sx_gu γ (sx_th γ (j : Int) y w) a.2.2.1) (if false = true then sx_au A 124 j y else A) := ⟨([], [((-42), [(19001, 1)]), ((-1), [(18441, 1)])], [], []), List.Mem.tail _ (List.Mem.head _), (fun _ => 0), fun i p hi => (by
    match i, hi with
    | n + 0, hi => simp at hi), fun f hf => (by
    simp only [List.mem_cons, List.not_mem_nil, or_false] at hf
    rcases hf with rfl | rfl
    · exact f0
    · exact f1
    ), fun e he => (by cases he), ⟨hG.1, hG.2.1, hG.2.2.1, hG.2.2.2.1, hG.2.2.2.2.1, hG.2.2.2.2.2.1, hG.2.2.2.2.2.2.1, hG.2.2.2.2.2.2.2.1, hG.2.2.2.2.2.2.2.2.1, hG.2.2.2.2.2.2.2.2.2.1, hG.2.2.2.2.2.2.2.2.2.2.1, hG.2.2.2.2.2.2.2.2.2.2.2.1, hG.2.2.2.2.2.2.2.2.2.2.2.2.1, hG.2.2.2.2.2.2.2.2.2.2.2.2.2.1, hG.2.2.2.2.2.2.2.2.2.2.2.2.2.2.1, hG.2.2.2.2.2.2.2.2.2.2.2.2.2.2.2.1, hG.2.2.2.2.2.2.2.2.2.2.2.2.2.2.2.2.1, hG.2.2.2.2.2.2.2.2.2.2.2.2.2.2.2.2.2.1, hG.2.2.2.2.2.2.2.2.2.2.2.2.2.2.2.2.2.2.1, hG.2.2.2.2.2.2.2.2.2.2.2.2.2.2.2.2.2.2.2.1, hG.2.2.2.2.2.2.2.2.2.2.2.2.2.2.2.2.2.2.2.2.1, hG.2.2.2.2.2.2.2.2.2.2.2.2.2.2.2.2.2.2.2.2.2.1, hG.2.2.2.2.2.2.2.2.2.2.2.2.2.2.2.2.2.2.2.2.2.2.1, hG.2.2.2.2.2.2.2.2.2.2.2.2.2.2.2.2.2.2.2.2.2.2.2.1, hG.2.2.2.2.2.2.2.2.2.2.2.2.2.2.2.2.2.2.2.2.2.2.2.2⟩⟩
theorem sx_q_l_zI3_0 {γ : Nat → Int} {A : Nat → Nat → Int} {j : Nat} {y : Int} (hG : sx_G0 γ A) (f0 : 0 ≤ 0 + ((-1) * γ 18442 + 0)) (hv : 0 + 0 = y) : ∃ a ∈ sx_r_l_zI3.2, ∃ w : Nat → Int, (∀ (i : Nat) p, a.1[i]? = some p → p.2.1 ≤ w i ∧ w i ≤ p.2.2) ∧ (∀ f ∈ a.2.1, 0 ≤ sx_d (sx_th γ (j : Int) y w) f) ∧ (∀ e, a.2.2.2.head? = some e → sx_d (sx_th γ (j : Int) y w) e = y) ∧ sx_G0 (sx_gu γ (sx_th γ (j : Int) y w) a.2.2.1) (if false = true then sx_au A 124 j y else A) := ⟨([], [(0, [(18442, (-1))])], [], [(0, [])]), List.Mem.head _, (fun _ => 0), fun i p hi => (by
    match i, hi with
    | n + 0, hi => simp at hi), fun f hf => (by
    simp only [List.mem_cons, List.not_mem_nil, or_false] at hf
    rcases hf with rfl
    · exact f0
    ), fun e he => (by cases he; exact hv), ⟨hG.1, hG.2.1, hG.2.2.1, hG.2.2.2.1, hG.2.2.2.2.1, hG.2.2.2.2.2.1, hG.2.2.2.2.2.2.1, hG.2.2.2.2.2.2.2.1, hG.2.2.2.2.2.2.2.2.1, hG.2.2.2.2.2.2.2.2.2.1, hG.2.2.2.2.2.2.2.2.2.2.1, hG.2.2.2.2.2.2.2.2.2.2.2.1, hG.2.2.2.2.2.2.2.2.2.2.2.2.1, hG.2.2.2.2.2.2.2.2.2.2.2.2.2.1, hG.2.2.2.2.2.2.2.2.2.2.2.2.2.2.1, hG.2.2.2.2.2.2.2.2.2.2.2.2.2.2.2.1, hG.2.2.2.2.2.2.2.2.2.2.2.2.2.2.2.2.1, hG.2.2.2.2.2.2.2.2.2.2.2.2.2.2.2.2.2.1, hG.2.2.2.2.2.2.2.2.2.2.2.2.2.2.2.2.2.2.1, hG.2.2.2.2.2.2.2.2.2.2.2.2.2.2.2.2.2.2.2.1, hG.2.2.2.2.2.2.2.2.2.2.2.2.2.2.2.2.2.2.2.2.1, hG.2.2.2.2.2.2.2.2.2.2.2.2.2.2.2.2.2.2.2.2.2.1, hG.2.2.2.2.2.2.2.2.2.2.2.2.2.2.2.2.2.2.2.2.2.2.1, hG.2.2.2.2.2.2.2.2.2.2.2.2.2.2.2.2.2.2.2.2.2.2.2.1, hG.2.2.2.2.2.2.2.2.2.2.2.2.2.2.2.2.2.2.2.2.2.2.2.2⟩⟩
theorem sx_q_l_zI3_1 {γ : Nat → Int} {A : Nat → Nat → Int} {j : Nat} {y : Int} (hG : sx_G0 γ A) (f0 : 0 ≤ (-42) + (1 * y + 0)) (f1 : 0 ≤ (-1) + (1 * γ 18442 + 0)) : ∃ a ∈ sx_r_l_zI3.2, ∃ w : Nat → Int, (∀ (i : Nat) p, a.1[i]? = some p → p.2.1 ≤ w i ∧ w i ≤ p.2.2) ∧ (∀ f ∈ a.2.1, 0 ≤ sx_d (sx_th γ (j : Int) y w) f) ∧ (∀ e, a.2.2.2.head? = some e → sx_d (sx_th γ (j : Int) y w) e = y) ∧ sx_G0 (sx_gu γ (sx_th γ (j : Int) y w) a.2.2.1) (if false = true then sx_au A 124 j y else A) := ⟨([], [((-42), [(19001, 1)]), ((-1), [(18442, 1)])], [], []), List.Mem.tail _ (List.Mem.head _), (fun _ => 0), fun i p hi => (by
    match i, hi with
    | n + 0, hi => simp at hi), fun f hf => (by
    simp only [List.mem_cons, List.not_mem_nil, or_false] at hf
    rcases hf with rfl | rfl
    · exact f0
    · exact f1
    ), fun e he => (by cases he), ⟨hG.1, hG.2.1, hG.2.2.1, hG.2.2.2.1, hG.2.2.2.2.1, hG.2.2.2.2.2.1, hG.2.2.2.2.2.2.1, hG.2.2.2.2.2.2.2.1, hG.2.2.2.2.2.2.2.2.1, hG.2.2.2.2.2.2.2.2.2.1, hG.2.2.2.2.2.2.2.2.2.2.1, hG.2.2.2.2.2.2.2.2.2.2.2.1, hG.2.2.2.2.2.2.2.2.2.2.2.2.1, hG.2.2.2.2.2.2.2.2.2.2.2.2.2.1, hG.2.2.2.2.2.2.2.2.2.2.2.2.2.2.1, hG.2.2.2.2.2.2.2.2.2.2.2.2.2.2.2.1, hG.2.2.2.2.2.2.2.2.2.2.2.2.2.2.2.2.1, hG.2.2.2.2.2.2.2.2.2.2.2.2.2.2.2.2.2.1, hG.2.2.2.2.2.2.2.2.2.2.2.2.2.2.2.2.2.2.1, hG.2.2.2.2.2.2.2.2.2.2.2.2.2.2.2.2.2.2.2.1, hG.2.2.2.2.2.2.2.2.2.2.2.2.2.2.2.2.2.2.2.2.1, hG.2.2.2.2.2.2.2.2.2.2.2.2.2.2.2.2.2.2.2.2.2.1, hG.2.2.2.2.2.2.2.2.2.2.2.2.2.2.2.2.2.2.2.2.2.2.1, hG.2.2.2.2.2.2.2.2.2.2.2.2.2.2.2.2.2.2.2.2.2.2.2.1, hG.2.2.2.2.2.2.2.2.2.2.2.2.2.2.2.2.2.2.2.2.2.2.2.2⟩⟩
theorem sx_q_l_zI4_0 {γ : Nat → Int} {A : Nat → Nat → Int} {j : Nat} {y : Int} (hG : sx_G0 γ A) (f0 : 0 ≤ 0 + ((-1) * γ 18443 + 0)) (hv : 0 + 0 = y) : ∃ a ∈ sx_r_l_zI4.2, ∃ w : Nat → Int, (∀ (i : Nat) p, a.1[i]? = some p → p.2.1 ≤ w i ∧ w i ≤ p.2.2) ∧ (∀ f ∈ a.2.1, 0 ≤ sx_d (sx_th γ (j : Int) y w) f) ∧ (∀ e, a.2.2.2.head? = some e → sx_d (sx_th γ (j : Int) y w) e = y) ∧ sx_G0 (sx_gu γ (sx_th γ (j : Int) y w) a.2.2.1) (if false = true then sx_au A 124 j y else A) := ⟨([], [(0, [(18443, (-1))])], [], [(0, [])]), List.Mem.head _, (fun _ => 0), fun i p hi => (by
    match i, hi with
    | n + 0, hi => simp at hi), fun f hf => (by
    simp only [List.mem_cons, List.not_mem_nil, or_false] at hf
    rcases hf with rfl
    · exact f0
    ), fun e he => (by cases he; exact hv), ⟨hG.1, hG.2.1, hG.2.2.1, hG.2.2.2.1, hG.2.2.2.2.1, hG.2.2.2.2.2.1, hG.2.2.2.2.2.2.1, hG.2.2.2.2.2.2.2.1, hG.2.2.2.2.2.2.2.2.1, hG.2.2.2.2.2.2.2.2.2.1, hG.2.2.2.2.2.2.2.2.2.2.1, hG.2.2.2.2.2.2.2.2.2.2.2.1, hG.2.2.2.2.2.2.2.2.2.2.2.2.1, hG.2.2.2.2.2.2.2.2.2.2.2.2.2.1, hG.2.2.2.2.2.2.2.2.2.2.2.2.2.2.1, hG.2.2.2.2.2.2.2.2.2.2.2.2.2.2.2.1, hG.2.2.2.2.2.2.2.2.2.2.2.2.2.2.2.2.1, hG.2.2.2.2.2.2.2.2.2.2.2.2.2.2.2.2.2.1, hG.2.2.2.2.2.2.2.2.2.2.2.2.2.2.2.2.2.2.1, hG.2.2.2.2.2.2.2.2.2.2.2.2.2.2.2.2.2.2.2.1, hG.2.2.2.2.2.2.2.2.2.2.2.2.2.2.2.2.2.2.2.2.1, hG.2.2.2.2.2.2.2.2.2.2.2.2.2.2.2.2.2.2.2.2.2.1, hG.2.2.2.2.2.2.2.2.2.2.2.2.2.2.2.2.2.2.2.2.2.2.1, hG.2.2.2.2.2.2.2.2.2.2.2.2.2.2.2.2.2.2.2.2.2.2.2.1, hG.2.2.2.2.2.2.2.2.2.2.2.2.2.2.2.2.2.2.2.2.2.2.2.2⟩⟩
theorem sx_q_l_zI4_1 {γ : Nat → Int} {A : Nat → Nat → Int} {j : Nat} {y : Int} (hG : sx_G0 γ A) (f0 : 0 ≤ (-42) + (1 * y + 0)) (f1 : 0 ≤ (-1) + (1 * γ 18443 + 0)) : ∃ a ∈ sx_r_l_zI4.2, ∃ w : Nat → Int, (∀ (i : Nat) p, a.1[i]? = some p → p.2.1 ≤ w i ∧ w i ≤ p.2.2) ∧ (∀ f ∈ a.2.1, 0 ≤ sx_d (sx_th γ (j : Int) y w) f) ∧ (∀ e, a.2.2.2.head? = some e → sx_d (sx_th γ (j : Int) y w) e = y) ∧ sx_G0 (sx_gu γ (sx_th γ (j : Int) y w) a.2.2.1) (if false = true then sx_au A 124 j y else A) := ⟨([], [((-42), [(19001, 1)]), ((-1), [(18443, 1)])], [], []), List.Mem.tail _ (List.Mem.head _), (fun _ => 0), fun i p hi => (by
    match i, hi with
    | n + 0, hi => simp at hi), fun f hf => (by
    simp only [List.mem_cons, List.not_mem_nil, or_false] at hf
    rcases hf with rfl | rfl
    · exact f0
    · exact f1
    ), fun e he => (by cases he), ⟨hG.1, hG.2.1, hG.2.2.1, hG.2.2.2.1, hG.2.2.2.2.1, hG.2.2.2.2.2.1, hG.2.2.2.2.2.2.1, hG.2.2.2.2.2.2.2.1, hG.2.2.2.2.2.2.2.2.1, hG.2.2.2.2.2.2.2.2.2.1, hG.2.2.2.2.2.2.2.2.2.2.1, hG.2.2.2.2.2.2.2.2.2.2.2.1, hG.2.2.2.2.2.2.2.2.2.2.2.2.1, hG.2.2.2.2.2.2.2.2.2.2.2.2.2.1, hG.2.2.2.2.2.2.2.2.2.2.2.2.2.2.1, hG.2.2.2.2.2.2.2.2.2.2.2.2.2.2.2.1, hG.2.2.2.2.2.2.2.2.2.2.2.2.2.2.2.2.1, hG.2.2.2.2.2.2.2.2.2.2.2.2.2.2.2.2.2.1, hG.2.2.2.2.2.2.2.2.2.2.2.2.2.2.2.2.2.2.1, hG.2.2.2.2.2.2.2.2.2.2.2.2.2.2.2.2.2.2.2.1, hG.2.2.2.2.2.2.2.2.2.2.2.2.2.2.2.2.2.2.2.2.1, hG.2.2.2.2.2.2.2.2.2.2.2.2.2.2.2.2.2.2.2.2.2.1, hG.2.2.2.2.2.2.2.2.2.2.2.2.2.2.2.2.2.2.2.2.2.2.1, hG.2.2.2.2.2.2.2.2.2.2.2.2.2.2.2.2.2.2.2.2.2.2.2.1, hG.2.2.2.2.2.2.2.2.2.2.2.2.2.2.2.2.2.2.2.2.2.2.2.2⟩⟩
theorem sx_q_l_zI5_0 {γ : Nat → Int} {A : Nat → Nat → Int} {j : Nat} {y : Int} (hG : sx_G0 γ A) (f0 : 0 ≤ 0 + ((-1) * γ 18444 + 0)) (hv : 0 + 0 = y) : ∃ a ∈ sx_r_l_zI5.2, ∃ w : Nat → Int, (∀ (i : Nat) p, a.1[i]? = some p → p.2.1 ≤ w i ∧ w i ≤ p.2.2) ∧ (∀ f ∈ a.2.1, 0 ≤ sx_d (sx_th γ (j : Int) y w) f) ∧ (∀ e, a.2.2.2.head? = some e → sx_d (sx_th γ (j : Int) y w) e = y) ∧ sx_G0 (sx_gu γ (sx_th γ (j : Int) y w) a.2.2.1) (if false = true then sx_au A 124 j y else A) := ⟨([], [(0, [(18444, (-1))])], [], [(0, [])]), List.Mem.head _, (fun _ => 0), fun i p hi => (by
    match i, hi with
    | n + 0, hi => simp at hi), fun f hf => (by
    simp only [List.mem_cons, List.not_mem_nil, or_false] at hf
    rcases hf with rfl
    · exact f0
    ), fun e he => (by cases he; exact hv), ⟨hG.1, hG.2.1, hG.2.2.1, hG.2.2.2.1, hG.2.2.2.2.1, hG.2.2.2.2.2.1, hG.2.2.2.2.2.2.1, hG.2.2.2.2.2.2.2.1, hG.2.2.2.2.2.2.2.2.1, hG.2.2.2.2.2.2.2.2.2.1, hG.2.2.2.2.2.2.2.2.2.2.1, hG.2.2.2.2.2.2.2.2.2.2.2.1, hG.2.2.2.2.2.2.2.2.2.2.2.2.1, hG.2.2.2.2.2.2.2.2.2.2.2.2.2.1, hG.2.2.2.2.2.2.2.2.2.2.2.2.2.2.1, hG.2.2.2.2.2.2.2.2.2.2.2.2.2.2.2.1, hG.2.2.2.2.2.2.2.2.2.2.2.2.2.2.2.2.1, hG.2.2.2.2.2.2.2.2.2.2.2.2.2.2.2.2.2.1, hG.2.2.2.2.2.2.2.2.2.2.2.2.2.2.2.2.2.2.1, hG.2.2.2.2.2.2.2.2.2.2.2.2.2.2.2.2.2.2.2.1, hG.2.2.2.2.2.2.2.2.2.2.2.2.2.2.2.2.2.2.2.2.1, hG.2.2.2.2.2.2.2.2.2.2.2.2.2.2.2.2.2.2.2.2.2.1, hG.2.2.2.2.2.2.2.2.2.2.2.2.2.2.2.2.2.2.2.2.2.2.1, hG.2.2.2.2.2.2.2.2.2.2.2.2.2.2.2.2.2.2.2.2.2.2.2.1, hG.2.2.2.2.2.2.2.2.2.2.2.2.2.2.2.2.2.2.2.2.2.2.2.2⟩⟩
theorem sx_q_l_zI5_1 {γ : Nat → Int} {A : Nat → Nat → Int} {j : Nat} {y : Int} (hG : sx_G0 γ A) (f0 : 0 ≤ (-42) + (1 * y + 0)) (f1 : 0 ≤ (-1) + (1 * γ 18444 + 0)) : ∃ a ∈ sx_r_l_zI5.2, ∃ w : Nat → Int, (∀ (i : Nat) p, a.1[i]? = some p → p.2.1 ≤ w i ∧ w i ≤ p.2.2) ∧ (∀ f ∈ a.2.1, 0 ≤ sx_d (sx_th γ (j : Int) y w) f) ∧ (∀ e, a.2.2.2.head? = some e → sx_d (sx_th γ (j : Int) y w) e = y) ∧ sx_G0 (sx_gu γ (sx_th γ (j : Int) y w) a.2.2.1) (if false = true then sx_au A 124 j y else A) := ⟨([], [((-42), [(19001, 1)]), ((-1), [(18444, 1)])], [], []), List.Mem.tail _ (List.Mem.head _), (fun _ => 0), fun i p hi => (by
    match i, hi with
    | n + 0, hi => simp at hi), fun f hf => (by
    simp only [List.mem_cons, List.not_mem_nil, or_false] at hf
    rcases hf with rfl | rfl
    · exact f0
    · exact f1
    ), fun e he => (by cases he), ⟨hG.1, hG.2.1, hG.2.2.1, hG.2.2.2.1, hG.2.2.2.2.1, hG.2.2.2.2.2.1, hG.2.2.2.2.2.2.1, hG.2.2.2.2.2.2.2.1, hG.2.2.2.2.2.2.2.2.1, hG.2.2.2.2.2.2.2.2.2.1, hG.2.2.2.2.2.2.2.2.2.2.1, hG.2.2.2.2.2.2.2.2.2.2.2.1, hG.2.2.2.2.2.2.2.2.2.2.2.2.1, hG.2.2.2.2.2.2.2.2.2.2.2.2.2.1, hG.2.2.2.2.2.2.2.2.2.2.2.2.2.2.1, hG.2.2.2.2.2.2.2.2.2.2.2.2.2.2.2.1, hG.2.2.2.2.2.2.2.2.2.2.2.2.2.2.2.2.1, hG.2.2.2.2.2.2.2.2.2.2.2.2.2.2.2.2.2.1, hG.2.2.2.2.2.2.2.2.2.2.2.2.2.2.2.2.2.2.1, hG.2.2.2.2.2.2.2.2.2.2.2.2.2.2.2.2.2.2.2.1, hG.2.2.2.2.2.2.2.2.2.2.2.2.2.2.2.2.2.2.2.2.1, hG.2.2.2.2.2.2.2.2.2.2.2.2.2.2.2.2.2.2.2.2.2.1, hG.2.2.2.2.2.2.2.2.2.2.2.2.2.2.2.2.2.2.2.2.2.2.1, hG.2.2.2.2.2.2.2.2.2.2.2.2.2.2.2.2.2.2.2.2.2.2.2.1, hG.2.2.2.2.2.2.2.2.2.2.2.2.2.2.2.2.2.2.2.2.2.2.2.2⟩⟩
theorem sx_q_l_zI6_0 {γ : Nat → Int} {A : Nat → Nat → Int} {j : Nat} {y : Int} (hG : sx_G0 γ A) (f0 : 0 ≤ 0 + ((-1) * γ 18445 + 0)) (hv : 0 + 0 = y) : ∃ a ∈ sx_r_l_zI6.2, ∃ w : Nat → Int, (∀ (i : Nat) p, a.1[i]? = some p → p.2.1 ≤ w i ∧ w i ≤ p.2.2) ∧ (∀ f ∈ a.2.1, 0 ≤ sx_d (sx_th γ (j : Int) y w) f) ∧ (∀ e, a.2.2.2.head? = some e → sx_d (sx_th γ (j : Int) y w) e = y) ∧ sx_G0 (sx_gu γ (sx_th γ (j : Int) y w) a.2.2.1) (if false = true then sx_au A 124 j y else A) := ⟨([], [(0, [(18445, (-1))])], [], [(0, [])]), List.Mem.head _, (fun _ => 0), fun i p hi => (by
    match i, hi with
    | n + 0, hi => simp at hi), fun f hf => (by
    simp only [List.mem_cons, List.not_mem_nil, or_false] at hf
    rcases hf with rfl
    · exact f0
    ), fun e he => (by cases he; exact hv), ⟨hG.1, hG.2.1, hG.2.2.1, hG.2.2.2.1, hG.2.2.2.2.1, hG.2.2.2.2.2.1, hG.2.2.2.2.2.2.1, hG.2.2.2.2.2.2.2.1, hG.2.2.2.2.2.2.2.2.1, hG.2.2.2.2.2.2.2.2.2.1, hG.2.2.2.2.2.2.2.2.2.2.1, hG.2.2.2.2.2.2.2.2.2.2.2.1, hG.2.2.2.2.2.2.2.2.2.2.2.2.1, hG.2.2.2.2.2.2.2.2.2.2.2.2.2.1, hG.2.2.2.2.2.2.2.2.2.2.2.2.2.2.1, hG.2.2.2.2.2.2.2.2.2.2.2.2.2.2.2.1, hG.2.2.2.2.2.2.2.2.2.2.2.2.2.2.2.2.1, hG.2.2.2.2.2.2.2.2.2.2.2.2.2.2.2.2.2.1, hG.2.2.2.2.2.2.2.2.2.2.2.2.2.2.2.2.2.2.1, hG.2.2.2.2.2.2.2.2.2.2.2.2.2.2.2.2.2.2.2.1, hG.2.2.2.2.2.2.2.2.2.2.2.2.2.2.2.2.2.2.2.2.1, hG.2.2.2.2.2.2.2.2.2.2.2.2.2.2.2.2.2.2.2.2.2.1, hG.2.2.2.2.2.2.2.2.2.2.2.2.2.2.2.2.2.2.2.2.2.2.1, hG.2.2.2.2.2.2.2.2.2.2.2.2.2.2.2.2.2.2.2.2.2.2.2.1, hG.2.2.2.2.2.2.2.2.2.2.2.2.2.2.2.2.2.2.2.2.2.2.2.2⟩⟩
theorem sx_q_l_zI6_1 {γ : Nat → Int} {A : Nat → Nat → Int} {j : Nat} {y : Int} (hG : sx_G0 γ A) (f0 : 0 ≤ (-42) + (1 * y + 0)) (f1 : 0 ≤ (-1) + (1 * γ 18445 + 0)) : ∃ a ∈ sx_r_l_zI6.2, ∃ w : Nat → Int, (∀ (i : Nat) p, a.1[i]? = some p → p.2.1 ≤ w i ∧ w i ≤ p.2.2) ∧ (∀ f ∈ a.2.1, 0 ≤ sx_d (sx_th γ (j : Int) y w) f) ∧ (∀ e, a.2.2.2.head? = some e → sx_d (sx_th γ (j : Int) y w) e = y) ∧ sx_G0 (sx_gu γ (sx_th γ (j : Int) y w) a.2.2.1) (if false = true then sx_au A 124 j y else A) := ⟨([], [((-42), [(19001, 1)]), ((-1), [(18445, 1)])], [], []), List.Mem.tail _ (List.Mem.head _), (fun _ => 0), fun i p hi => (by
    match i, hi with
    | n + 0, hi => simp at hi), fun f hf => (by
    simp only [List.mem_cons, List.not_mem_nil, or_false] at hf
    rcases hf with rfl | rfl
    · exact f0
    · exact f1
    ), fun e he => (by cases he), ⟨hG.1, hG.2.1, hG.2.2.1, hG.2.2.2.1, hG.2.2.2.2.1, hG.2.2.2.2.2.1, hG.2.2.2.2.2.2.1, hG.2.2.2.2.2.2.2.1, hG.2.2.2.2.2.2.2.2.1, hG.2.2.2.2.2.2.2.2.2.1, hG.2.2.2.2.2.2.2.2.2.2.1, hG.2.2.2.2.2.2.2.2.2.2.2.1, hG.2.2.2.2.2.2.2.2.2.2.2.2.1, hG.2.2.2.2.2.2.2.2.2.2.2.2.2.1, hG.2.2.2.2.2.2.2.2.2.2.2.2.2.2.1, hG.2.2.2.2.2.2.2.2.2.2.2.2.2.2.2.1, hG.2.2.2.2.2.2.2.2.2.2.2.2.2.2.2.2.1, hG.2.2.2.2.2.2.2.2.2.2.2.2.2.2.2.2.2.1, hG.2.2.2.2.2.2.2.2.2.2.2.2.2.2.2.2.2.2.1, hG.2.2.2.2.2.2.2.2.2.2.2.2.2.2.2.2.2.2.2.1, hG.2.2.2.2.2.2.2.2.2.2.2.2.2.2.2.2.2.2.2.2.1, hG.2.2.2.2.2.2.2.2.2.2.2.2.2.2.2.2.2.2.2.2.2.1, hG.2.2.2.2.2.2.2.2.2.2.2.2.2.2.2.2.2.2.2.2.2.2.1, hG.2.2.2.2.2.2.2.2.2.2.2.2.2.2.2.2.2.2.2.2.2.2.2.1, hG.2.2.2.2.2.2.2.2.2.2.2.2.2.2.2.2.2.2.2.2.2.2.2.2⟩⟩
theorem sx_q_l_room0_0 {γ : Nat → Int} {A : Nat → Nat → Int} {j : Nat} {y : Int} (hG : sx_G0 γ A) (hv : 0 + (1 * γ 18458 + 0) = y) : ∃ a ∈ sx_r_l_room0.2, ∃ w : Nat → Int, (∀ (i : Nat) p, a.1[i]? = some p → p.2.1 ≤ w i ∧ w i ≤ p.2.2) ∧ (∀ f ∈ a.2.1, 0 ≤ sx_d (sx_th γ (j : Int) y w) f) ∧ (∀ e, a.2.2.2.head? = some e → sx_d (sx_th γ (j : Int) y w) e = y) ∧ sx_G0 (sx_gu γ (sx_th γ (j : Int) y w) a.2.2.1) (if false = true then sx_au A 131 j y else A) := ⟨([], [], [], [(0, [(18458, 1)])]), List.Mem.head _, (fun _ => 0), fun i p hi => (by
    match i, hi with
    | n + 0, hi => simp at hi), fun f hf => (by cases hf), fun e he => (by cases he; exact hv), ⟨hG.1, hG.2.1, hG.2.2.1, hG.2.2.2.1, hG.2.2.2.2.1, hG.2.2.2.2.2.1, hG.2.2.2.2.2.2.1, hG.2.2.2.2.2.2.2.1, hG.2.2.2.2.2.2.2.2.1, hG.2.2.2.2.2.2.2.2.2.1, hG.2.2.2.2.2.2.2.2.2.2.1, hG.2.2.2.2.2.2.2.2.2.2.2.1, hG.2.2.2.2.2.2.2.2.2.2.2.2.1, hG.2.2.2.2.2.2.2.2.2.2.2.2.2.1, hG.2.2.2.2.2.2.2.2.2.2.2.2.2.2.1, hG.2.2.2.2.2.2.2.2.2.2.2.2.2.2.2.1, hG.2.2.2.2.2.2.2.2.2.2.2.2.2.2.2.2.1, hG.2.2.2.2.2.2.2.2.2.2.2.2.2.2.2.2.2.1, hG.2.2.2.2.2.2.2.2.2.2.2.2.2.2.2.2.2.2.1, hG.2.2.2.2.2.2.2.2.2.2.2.2.2.2.2.2.2.2.2.1, hG.2.2.2.2.2.2.2.2.2.2.2.2.2.2.2.2.2.2.2.2.1, hG.2.2.2.2.2.2.2.2.2.2.2.2.2.2.2.2.2.2.2.2.2.1, hG.2.2.2.2.2.2.2.2.2.2.2.2.2.2.2.2.2.2.2.2.2.2.1, hG.2.2.2.2.2.2.2.2.2.2.2.2.2.2.2.2.2.2.2.2.2.2.2.1, hG.2.2.2.2.2.2.2.2.2.2.2.2.2.2.2.2.2.2.2.2.2.2.2.2⟩⟩
theorem sx_q_l_room_0 {γ : Nat → Int} {A : Nat → Nat → Int} {j : Nat} {y : Int} (hG : sx_G0 γ A) (f0 : 0 ≤ 0 + (1 * (j : Int) + ((-1) * y + 0))) (f1 : 0 ≤ (-1) + ((-1) * γ 18459 + (1 * y + 0))) (c7 : sx_g6 (γ 18455) (γ 18456) (0 + (1 * (j : Int) + 0)) (0 + (1 * y + 0)) (0 + (1 * y + 0)) (1 + (1 * (j : Int) + 0)) (A 131)) : ∃ a ∈ sx_r_l_room.2, ∃ w : Nat → Int, (∀ (i : Nat) p, a.1[i]? = some p → p.2.1 ≤ w i ∧ w i ≤ p.2.2) ∧ (∀ f ∈ a.2.1, 0 ≤ sx_d (sx_th γ (j : Int) y w) f) ∧ (∀ e, a.2.2.2.head? = some e → sx_d (sx_th γ (j : Int) y w) e = y) ∧ sx_G0 (sx_gu γ (sx_th γ (j : Int) y w) a.2.2.1) (if false = true then sx_au A 131 j y else A) := ⟨([], [(0, [(19000, 1), (19001, (-1))]), ((-1), [(18459, (-1)), (19001, 1)])], [(18457, (0, [(19000, 1)])), (18458, (0, [(19001, 1)])), (18459, (0, [(19001, 1)])), (18460, (1, [(19000, 1)]))], []), List.Mem.head _, (fun _ => 0), fun i p hi => (by
    match i, hi with
    | n + 0, hi => simp at hi), fun f hf => (by
    simp only [List.mem_cons, List.not_mem_nil, or_false] at hf
    rcases hf with rfl | rfl
    · exact f0
    · exact f1
    ), fun e he => (by cases he), ⟨hG.1, hG.2.1, hG.2.2.1, hG.2.2.2.1, hG.2.2.2.2.1, hG.2.2.2.2.2.1, hG.2.2.2.2.2.2.1, c7, hG.2.2.2.2.2.2.2.2.1, hG.2.2.2.2.2.2.2.2.2.1, hG.2.2.2.2.2.2.2.2.2.2.1, hG.2.2.2.2.2.2.2.2.2.2.2.1, hG.2.2.2.2.2.2.2.2.2.2.2.2.1, hG.2.2.2.2.2.2.2.2.2.2.2.2.2.1, hG.2.2.2.2.2.2.2.2.2.2.2.2.2.2.1, hG.2.2.2.2.2.2.2.2.2.2.2.2.2.2.2.1, hG.2.2.2.2.2.2.2.2.2.2.2.2.2.2.2.2.1, hG.2.2.2.2.2.2.2.2.2.2.2.2.2.2.2.2.2.1, hG.2.2.2.2.2.2.2.2.2.2.2.2.2.2.2.2.2.2.1, hG.2.2.2.2.2.2.2.2.2.2.2.2.2.2.2.2.2.2.2.1, hG.2.2.2.2.2.2.2.2.2.2.2.2.2.2.2.2.2.2.2.2.1, hG.2.2.2.2.2.2.2.2.2.2.2.2.2.2.2.2.2.2.2.2.2.1, hG.2.2.2.2.2.2.2.2.2.2.2.2.2.2.2.2.2.2.2.2.2.2.1, hG.2.2.2.2.2.2.2.2.2.2.2.2.2.2.2.2.2.2.2.2.2.2.2.1, hG.2.2.2.2.2.2.2.2.2.2.2.2.2.2.2.2.2.2.2.2.2.2.2.2⟩⟩
theorem sx_q_l_room_1 {γ : Nat → Int} {A : Nat → Nat → Int} {j : Nat} {y : Int} (hG : sx_G0 γ A) (f0 : 0 ≤ 0 + (1 * (j : Int) + ((-1) * y + 0))) (f1 : 0 ≤ 0 + (1 * γ 18459 + ((-1) * y + 0))) (c7 : sx_g6 (γ 18455) (γ 18456) (0 + (1 * (j : Int) + 0)) (0 + (1 * y + 0)) (γ 18459) (γ 18460) (A 131)) : ∃ a ∈ sx_r_l_room.2, ∃ w : Nat → Int, (∀ (i : Nat) p, a.1[i]? = some p → p.2.1 ≤ w i ∧ w i ≤ p.2.2) ∧ (∀ f ∈ a.2.1, 0 ≤ sx_d (sx_th γ (j : Int) y w) f) ∧ (∀ e, a.2.2.2.head? = some e → sx_d (sx_th γ (j : Int) y w) e = y) ∧ sx_G0 (sx_gu γ (sx_th γ (j : Int) y w) a.2.2.1) (if false = true then sx_au A 131 j y else A) := ⟨([], [(0, [(19000, 1), (19001, (-1))]), (0, [(18459, 1), (19001, (-1))])], [(18457, (0, [(19000, 1)])), (18458, (0, [(19001, 1)]))], []), List.Mem.tail _ (List.Mem.head _), (fun _ => 0), fun i p hi => (by
    match i, hi with
    | n + 0, hi => simp at hi), fun f hf => (by
    simp only [List.mem_cons, List.not_mem_nil, or_false] at hf
    rcases hf with rfl | rfl
    · exact f0
    · exact f1
    ), fun e he => (by cases he), ⟨hG.1, hG.2.1, hG.2.2.1, hG.2.2.2.1, hG.2.2.2.2.1, hG.2.2.2.2.2.1, hG.2.2.2.2.2.2.1, c7, hG.2.2.2.2.2.2.2.2.1, hG.2.2.2.2.2.2.2.2.2.1, hG.2.2.2.2.2.2.2.2.2.2.1, hG.2.2.2.2.2.2.2.2.2.2.2.1, hG.2.2.2.2.2.2.2.2.2.2.2.2.1, hG.2.2.2.2.2.2.2.2.2.2.2.2.2.1, hG.2.2.2.2.2.2.2.2.2.2.2.2.2.2.1, hG.2.2.2.2.2.2.2.2.2.2.2.2.2.2.2.1, hG.2.2.2.2.2.2.2.2.2.2.2.2.2.2.2.2.1, hG.2.2.2.2.2.2.2.2.2.2.2.2.2.2.2.2.2.1, hG.2.2.2.2.2.2.2.2.2.2.2.2.2.2.2.2.2.2.1, hG.2.2.2.2.2.2.2.2.2.2.2.2.2.2.2.2.2.2.2.1, hG.2.2.2.2.2.2.2.2.2.2.2.2.2.2.2.2.2.2.2.2.1, hG.2.2.2.2.2.2.2.2.2.2.2.2.2.2.2.2.2.2.2.2.2.1, hG.2.2.2.2.2.2.2.2.2.2.2.2.2.2.2.2.2.2.2.2.2.2.1, hG.2.2.2.2.2.2.2.2.2.2.2.2.2.2.2.2.2.2.2.2.2.2.2.1, hG.2.2.2.2.2.2.2.2.2.2.2.2.2.2.2.2.2.2.2.2.2.2.2.2⟩⟩
theorem sx_q_l_who_0 {γ : Nat → Int} {A : Nat → Nat → Int} {j : Nat} {y : Int} (hG : sx_G0 γ A) (hv : 0 + (1 * γ 18432 + 0) = y) : ∃ a ∈ sx_r_l_who.2, ∃ w : Nat → Int, (∀ (i : Nat) p, a.1[i]? = some p → p.2.1 ≤ w i ∧ w i ≤ p.2.2) ∧ (∀ f ∈ a.2.1, 0 ≤ sx_d (sx_th γ (j : Int) y w) f) ∧ (∀ e, a.2.2.2.head? = some e → sx_d (sx_th γ (j : Int) y w) e = y) ∧ sx_G0 (sx_gu γ (sx_th γ (j : Int) y w) a.2.2.1) (if false = true then sx_au A 135 j y else A) := ⟨([], [], [], [(0, [(18432, 1)])]), List.Mem.head _, (fun _ => 0), fun i p hi => (by
    match i, hi with
    | n + 0, hi => simp at hi), fun f hf => (by cases hf), fun e he => (by cases he; exact hv), ⟨hG.1, hG.2.1, hG.2.2.1, hG.2.2.2.1, hG.2.2.2.2.1, hG.2.2.2.2.2.1, hG.2.2.2.2.2.2.1, hG.2.2.2.2.2.2.2.1, hG.2.2.2.2.2.2.2.2.1, hG.2.2.2.2.2.2.2.2.2.1, hG.2.2.2.2.2.2.2.2.2.2.1, hG.2.2.2.2.2.2.2.2.2.2.2.1, hG.2.2.2.2.2.2.2.2.2.2.2.2.1, hG.2.2.2.2.2.2.2.2.2.2.2.2.2.1, hG.2.2.2.2.2.2.2.2.2.2.2.2.2.2.1, hG.2.2.2.2.2.2.2.2.2.2.2.2.2.2.2.1, hG.2.2.2.2.2.2.2.2.2.2.2.2.2.2.2.2.1, hG.2.2.2.2.2.2.2.2.2.2.2.2.2.2.2.2.2.1, hG.2.2.2.2.2.2.2.2.2.2.2.2.2.2.2.2.2.2.1, hG.2.2.2.2.2.2.2.2.2.2.2.2.2.2.2.2.2.2.2.1, hG.2.2.2.2.2.2.2.2.2.2.2.2.2.2.2.2.2.2.2.2.1, hG.2.2.2.2.2.2.2.2.2.2.2.2.2.2.2.2.2.2.2.2.2.1, hG.2.2.2.2.2.2.2.2.2.2.2.2.2.2.2.2.2.2.2.2.2.2.1, hG.2.2.2.2.2.2.2.2.2.2.2.2.2.2.2.2.2.2.2.2.2.2.2.1, hG.2.2.2.2.2.2.2.2.2.2.2.2.2.2.2.2.2.2.2.2.2.2.2.2⟩⟩
theorem sx_q_l_goal_0 {γ : Nat → Int} {A : Nat → Nat → Int} {j : Nat} {y : Int} (hG : sx_G0 γ A) (hv : 0 + (1 * γ 18433 + 0) = y) : ∃ a ∈ sx_r_l_goal.2, ∃ w : Nat → Int, (∀ (i : Nat) p, a.1[i]? = some p → p.2.1 ≤ w i ∧ w i ≤ p.2.2) ∧ (∀ f ∈ a.2.1, 0 ≤ sx_d (sx_th γ (j : Int) y w) f) ∧ (∀ e, a.2.2.2.head? = some e → sx_d (sx_th γ (j : Int) y w) e = y) ∧ sx_G0 (sx_gu γ (sx_th γ (j : Int) y w) a.2.2.1) (if false = true then sx_au A 136 j y else A) := ⟨([], [], [], [(0, [(18433, 1)])]), List.Mem.head _, (fun _ => 0), fun i p hi => (by
    match i, hi with
    | n + 0, hi => simp at hi), fun f hf => (by cases hf), fun e he => (by cases he; exact hv), ⟨hG.1, hG.2.1, hG.2.2.1, hG.2.2.2.1, hG.2.2.2.2.1, hG.2.2.2.2.2.1, hG.2.2.2.2.2.2.1, hG.2.2.2.2.2.2.2.1, hG.2.2.2.2.2.2.2.2.1, hG.2.2.2.2.2.2.2.2.2.1, hG.2.2.2.2.2.2.2.2.2.2.1, hG.2.2.2.2.2.2.2.2.2.2.2.1, hG.2.2.2.2.2.2.2.2.2.2.2.2.1, hG.2.2.2.2.2.2.2.2.2.2.2.2.2.1, hG.2.2.2.2.2.2.2.2.2.2.2.2.2.2.1, hG.2.2.2.2.2.2.2.2.2.2.2.2.2.2.2.1, hG.2.2.2.2.2.2.2.2.2.2.2.2.2.2.2.2.1, hG.2.2.2.2.2.2.2.2.2.2.2.2.2.2.2.2.2.1, hG.2.2.2.2.2.2.2.2.2.2.2.2.2.2.2.2.2.2.1, hG.2.2.2.2.2.2.2.2.2.2.2.2.2.2.2.2.2.2.2.1, hG.2.2.2.2.2.2.2.2.2.2.2.2.2.2.2.2.2.2.2.2.1, hG.2.2.2.2.2.2.2.2.2.2.2.2.2.2.2.2.2.2.2.2.2.1, hG.2.2.2.2.2.2.2.2.2.2.2.2.2.2.2.2.2.2.2.2.2.2.1, hG.2.2.2.2.2.2.2.2.2.2.2.2.2.2.2.2.2.2.2.2.2.2.2.1, hG.2.2.2.2.2.2.2.2.2.2.2.2.2.2.2.2.2.2.2.2.2.2.2.2⟩⟩
theorem sx_q_l_week0_0 {γ : Nat → Int} {A : Nat → Nat → Int} {j : Nat} {y : Int} (hG : sx_G0 γ A) (hv : 0 + (1 * γ 18434 + 0) = y) : ∃ a ∈ sx_r_l_week0.2, ∃ w : Nat → Int, (∀ (i : Nat) p, a.1[i]? = some p → p.2.1 ≤ w i ∧ w i ≤ p.2.2) ∧ (∀ f ∈ a.2.1, 0 ≤ sx_d (sx_th γ (j : Int) y w) f) ∧ (∀ e, a.2.2.2.head? = some e → sx_d (sx_th γ (j : Int) y w) e = y) ∧ sx_G0 (sx_gu γ (sx_th γ (j : Int) y w) a.2.2.1) (if false = true then sx_au A 140 j y else A) := ⟨([], [], [], [(0, [(18434, 1)])]), List.Mem.head _, (fun _ => 0), fun i p hi => (by
    match i, hi with
    | n + 0, hi => simp at hi), fun f hf => (by cases hf), fun e he => (by cases he; exact hv), ⟨hG.1, hG.2.1, hG.2.2.1, hG.2.2.2.1, hG.2.2.2.2.1, hG.2.2.2.2.2.1, hG.2.2.2.2.2.2.1, hG.2.2.2.2.2.2.2.1, hG.2.2.2.2.2.2.2.2.1, hG.2.2.2.2.2.2.2.2.2.1, hG.2.2.2.2.2.2.2.2.2.2.1, hG.2.2.2.2.2.2.2.2.2.2.2.1, hG.2.2.2.2.2.2.2.2.2.2.2.2.1, hG.2.2.2.2.2.2.2.2.2.2.2.2.2.1, hG.2.2.2.2.2.2.2.2.2.2.2.2.2.2.1, hG.2.2.2.2.2.2.2.2.2.2.2.2.2.2.2.1, hG.2.2.2.2.2.2.2.2.2.2.2.2.2.2.2.2.1, hG.2.2.2.2.2.2.2.2.2.2.2.2.2.2.2.2.2.1, hG.2.2.2.2.2.2.2.2.2.2.2.2.2.2.2.2.2.2.1, hG.2.2.2.2.2.2.2.2.2.2.2.2.2.2.2.2.2.2.2.1, hG.2.2.2.2.2.2.2.2.2.2.2.2.2.2.2.2.2.2.2.2.1, hG.2.2.2.2.2.2.2.2.2.2.2.2.2.2.2.2.2.2.2.2.2.1, hG.2.2.2.2.2.2.2.2.2.2.2.2.2.2.2.2.2.2.2.2.2.2.1, hG.2.2.2.2.2.2.2.2.2.2.2.2.2.2.2.2.2.2.2.2.2.2.2.1, hG.2.2.2.2.2.2.2.2.2.2.2.2.2.2.2.2.2.2.2.2.2.2.2.2⟩⟩
theorem sx_q_l_week1_0 {γ : Nat → Int} {A : Nat → Nat → Int} {j : Nat} {y : Int} (hG : sx_G0 γ A) (hv : 0 + (1 * γ 18435 + 0) = y) : ∃ a ∈ sx_r_l_week1.2, ∃ w : Nat → Int, (∀ (i : Nat) p, a.1[i]? = some p → p.2.1 ≤ w i ∧ w i ≤ p.2.2) ∧ (∀ f ∈ a.2.1, 0 ≤ sx_d (sx_th γ (j : Int) y w) f) ∧ (∀ e, a.2.2.2.head? = some e → sx_d (sx_th γ (j : Int) y w) e = y) ∧ sx_G0 (sx_gu γ (sx_th γ (j : Int) y w) a.2.2.1) (if false = true then sx_au A 140 j y else A) := ⟨([], [], [], [(0, [(18435, 1)])]), List.Mem.head _, (fun _ => 0), fun i p hi => (by
    match i, hi with
    | n + 0, hi => simp at hi), fun f hf => (by cases hf), fun e he => (by cases he; exact hv), ⟨hG.1, hG.2.1, hG.2.2.1, hG.2.2.2.1, hG.2.2.2.2.1, hG.2.2.2.2.2.1, hG.2.2.2.2.2.2.1, hG.2.2.2.2.2.2.2.1, hG.2.2.2.2.2.2.2.2.1, hG.2.2.2.2.2.2.2.2.2.1, hG.2.2.2.2.2.2.2.2.2.2.1, hG.2.2.2.2.2.2.2.2.2.2.2.1, hG.2.2.2.2.2.2.2.2.2.2.2.2.1, hG.2.2.2.2.2.2.2.2.2.2.2.2.2.1, hG.2.2.2.2.2.2.2.2.2.2.2.2.2.2.1, hG.2.2.2.2.2.2.2.2.2.2.2.2.2.2.2.1, hG.2.2.2.2.2.2.2.2.2.2.2.2.2.2.2.2.1, hG.2.2.2.2.2.2.2.2.2.2.2.2.2.2.2.2.2.1, hG.2.2.2.2.2.2.2.2.2.2.2.2.2.2.2.2.2.2.1, hG.2.2.2.2.2.2.2.2.2.2.2.2.2.2.2.2.2.2.2.1, hG.2.2.2.2.2.2.2.2.2.2.2.2.2.2.2.2.2.2.2.2.1, hG.2.2.2.2.2.2.2.2.2.2.2.2.2.2.2.2.2.2.2.2.2.1, hG.2.2.2.2.2.2.2.2.2.2.2.2.2.2.2.2.2.2.2.2.2.2.1, hG.2.2.2.2.2.2.2.2.2.2.2.2.2.2.2.2.2.2.2.2.2.2.2.1, hG.2.2.2.2.2.2.2.2.2.2.2.2.2.2.2.2.2.2.2.2.2.2.2.2⟩⟩
theorem sx_q_l_week2_0 {γ : Nat → Int} {A : Nat → Nat → Int} {j : Nat} {y : Int} (hG : sx_G0 γ A) (hv : 0 + (1 * γ 18436 + 0) = y) : ∃ a ∈ sx_r_l_week2.2, ∃ w : Nat → Int, (∀ (i : Nat) p, a.1[i]? = some p → p.2.1 ≤ w i ∧ w i ≤ p.2.2) ∧ (∀ f ∈ a.2.1, 0 ≤ sx_d (sx_th γ (j : Int) y w) f) ∧ (∀ e, a.2.2.2.head? = some e → sx_d (sx_th γ (j : Int) y w) e = y) ∧ sx_G0 (sx_gu γ (sx_th γ (j : Int) y w) a.2.2.1) (if false = true then sx_au A 140 j y else A) := ⟨([], [], [], [(0, [(18436, 1)])]), List.Mem.head _, (fun _ => 0), fun i p hi => (by
    match i, hi with
    | n + 0, hi => simp at hi), fun f hf => (by cases hf), fun e he => (by cases he; exact hv), ⟨hG.1, hG.2.1, hG.2.2.1, hG.2.2.2.1, hG.2.2.2.2.1, hG.2.2.2.2.2.1, hG.2.2.2.2.2.2.1, hG.2.2.2.2.2.2.2.1, hG.2.2.2.2.2.2.2.2.1, hG.2.2.2.2.2.2.2.2.2.1, hG.2.2.2.2.2.2.2.2.2.2.1, hG.2.2.2.2.2.2.2.2.2.2.2.1, hG.2.2.2.2.2.2.2.2.2.2.2.2.1, hG.2.2.2.2.2.2.2.2.2.2.2.2.2.1, hG.2.2.2.2.2.2.2.2.2.2.2.2.2.2.1, hG.2.2.2.2.2.2.2.2.2.2.2.2.2.2.2.1, hG.2.2.2.2.2.2.2.2.2.2.2.2.2.2.2.2.1, hG.2.2.2.2.2.2.2.2.2.2.2.2.2.2.2.2.2.1, hG.2.2.2.2.2.2.2.2.2.2.2.2.2.2.2.2.2.2.1, hG.2.2.2.2.2.2.2.2.2.2.2.2.2.2.2.2.2.2.2.1, hG.2.2.2.2.2.2.2.2.2.2.2.2.2.2.2.2.2.2.2.2.1, hG.2.2.2.2.2.2.2.2.2.2.2.2.2.2.2.2.2.2.2.2.2.1, hG.2.2.2.2.2.2.2.2.2.2.2.2.2.2.2.2.2.2.2.2.2.2.1, hG.2.2.2.2.2.2.2.2.2.2.2.2.2.2.2.2.2.2.2.2.2.2.2.1, hG.2.2.2.2.2.2.2.2.2.2.2.2.2.2.2.2.2.2.2.2.2.2.2.2⟩⟩
theorem sx_q_l_week3_0 {γ : Nat → Int} {A : Nat → Nat → Int} {j : Nat} {y : Int} (hG : sx_G0 γ A) (hv : 0 + (1 * γ 18437 + 0) = y) : ∃ a ∈ sx_r_l_week3.2, ∃ w : Nat → Int, (∀ (i : Nat) p, a.1[i]? = some p → p.2.1 ≤ w i ∧ w i ≤ p.2.2) ∧ (∀ f ∈ a.2.1, 0 ≤ sx_d (sx_th γ (j : Int) y w) f) ∧ (∀ e, a.2.2.2.head? = some e → sx_d (sx_th γ (j : Int) y w) e = y) ∧ sx_G0 (sx_gu γ (sx_th γ (j : Int) y w) a.2.2.1) (if false = true then sx_au A 140 j y else A) := ⟨([], [], [], [(0, [(18437, 1)])]), List.Mem.head _, (fun _ => 0), fun i p hi => (by
    match i, hi with
    | n + 0, hi => simp at hi), fun f hf => (by cases hf), fun e he => (by cases he; exact hv), ⟨hG.1, hG.2.1, hG.2.2.1, hG.2.2.2.1, hG.2.2.2.2.1, hG.2.2.2.2.2.1, hG.2.2.2.2.2.2.1, hG.2.2.2.2.2.2.2.1, hG.2.2.2.2.2.2.2.2.1, hG.2.2.2.2.2.2.2.2.2.1, hG.2.2.2.2.2.2.2.2.2.2.1, hG.2.2.2.2.2.2.2.2.2.2.2.1, hG.2.2.2.2.2.2.2.2.2.2.2.2.1, hG.2.2.2.2.2.2.2.2.2.2.2.2.2.1, hG.2.2.2.2.2.2.2.2.2.2.2.2.2.2.1, hG.2.2.2.2.2.2.2.2.2.2.2.2.2.2.2.1, hG.2.2.2.2.2.2.2.2.2.2.2.2.2.2.2.2.1, hG.2.2.2.2.2.2.2.2.2.2.2.2.2.2.2.2.2.1, hG.2.2.2.2.2.2.2.2.2.2.2.2.2.2.2.2.2.2.1, hG.2.2.2.2.2.2.2.2.2.2.2.2.2.2.2.2.2.2.2.1, hG.2.2.2.2.2.2.2.2.2.2.2.2.2.2.2.2.2.2.2.2.1, hG.2.2.2.2.2.2.2.2.2.2.2.2.2.2.2.2.2.2.2.2.2.1, hG.2.2.2.2.2.2.2.2.2.2.2.2.2.2.2.2.2.2.2.2.2.2.1, hG.2.2.2.2.2.2.2.2.2.2.2.2.2.2.2.2.2.2.2.2.2.2.2.1, hG.2.2.2.2.2.2.2.2.2.2.2.2.2.2.2.2.2.2.2.2.2.2.2.2⟩⟩
theorem sx_q_l_week4_0 {γ : Nat → Int} {A : Nat → Nat → Int} {j : Nat} {y : Int} (hG : sx_G0 γ A) (hv : 0 + (1 * γ 18438 + 0) = y) : ∃ a ∈ sx_r_l_week4.2, ∃ w : Nat → Int, (∀ (i : Nat) p, a.1[i]? = some p → p.2.1 ≤ w i ∧ w i ≤ p.2.2) ∧ (∀ f ∈ a.2.1, 0 ≤ sx_d (sx_th γ (j : Int) y w) f) ∧ (∀ e, a.2.2.2.head? = some e → sx_d (sx_th γ (j : Int) y w) e = y) ∧ sx_G0 (sx_gu γ (sx_th γ (j : Int) y w) a.2.2.1) (if false = true then sx_au A 140 j y else A) := ⟨([], [], [], [(0, [(18438, 1)])]), List.Mem.head _, (fun _ => 0), fun i p hi => (by
    match i, hi with
    | n + 0, hi => simp at hi), fun f hf => (by cases hf), fun e he => (by cases he; exact hv), ⟨hG.1, hG.2.1, hG.2.2.1, hG.2.2.2.1, hG.2.2.2.2.1, hG.2.2.2.2.2.1, hG.2.2.2.2.2.2.1, hG.2.2.2.2.2.2.2.1, hG.2.2.2.2.2.2.2.2.1, hG.2.2.2.2.2.2.2.2.2.1, hG.2.2.2.2.2.2.2.2.2.2.1, hG.2.2.2.2.2.2.2.2.2.2.2.1, hG.2.2.2.2.2.2.2.2.2.2.2.2.1, hG.2.2.2.2.2.2.2.2.2.2.2.2.2.1, hG.2.2.2.2.2.2.2.2.2.2.2.2.2.2.1, hG.2.2.2.2.2.2.2.2.2.2.2.2.2.2.2.1, hG.2.2.2.2.2.2.2.2.2.2.2.2.2.2.2.2.1, hG.2.2.2.2.2.2.2.2.2.2.2.2.2.2.2.2.2.1, hG.2.2.2.2.2.2.2.2.2.2.2.2.2.2.2.2.2.2.1, hG.2.2.2.2.2.2.2.2.2.2.2.2.2.2.2.2.2.2.2.1, hG.2.2.2.2.2.2.2.2.2.2.2.2.2.2.2.2.2.2.2.2.1, hG.2.2.2.2.2.2.2.2.2.2.2.2.2.2.2.2.2.2.2.2.2.1, hG.2.2.2.2.2.2.2.2.2.2.2.2.2.2.2.2.2.2.2.2.2.2.1, hG.2.2.2.2.2.2.2.2.2.2.2.2.2.2.2.2.2.2.2.2.2.2.2.1, hG.2.2.2.2.2.2.2.2.2.2.2.2.2.2.2.2.2.2.2.2.2.2.2.2⟩⟩
theorem sx_q_s_fndA_0 {γ : Nat → Int} {A : Nat → Nat → Int} {j : Nat} {y : Int} (hG : sx_G0 γ A) (f0 : 0 ≤ 0 + (1 * (j : Int) + 0)) (f1 : 0 ≤ 0 + ((-1) * (j : Int) + 0)) (c21 : sx_gfn (γ 18514) (γ 18515) (γ 18516) (sx_au A 2 j y 2)) (c23 : sx_gn (0 + (1 * y + 0)) (γ 18521) (γ 18522) (γ 18523) (γ 18524) (γ 18525) (γ 18526) (γ 18527) (sx_au A 2 j y 2)) : ∃ a ∈ sx_r_s_fndA.2, ∃ w : Nat → Int, (∀ (i : Nat) p, a.1[i]? = some p → p.2.1 ≤ w i ∧ w i ≤ p.2.2) ∧ (∀ f ∈ a.2.1, 0 ≤ sx_d (sx_th γ (j : Int) y w) f) ∧ (∀ e, a.2.2.2.head? = some e → sx_d (sx_th γ (j : Int) y w) e = y) ∧ sx_G0 (sx_gu γ (sx_th γ (j : Int) y w) a.2.2.1) (if true = true then sx_au A 2 j y else A) := ⟨([], [(0, [(19000, 1)]), (0, [(19000, (-1))])], [(18520, (0, [(19001, 1)]))], []), List.Mem.head _, (fun _ => 0), fun i p hi => (by
    match i, hi with
    | n + 0, hi => simp at hi), fun f hf => (by
    simp only [List.mem_cons, List.not_mem_nil, or_false] at hf
    rcases hf with rfl | rfl
    · exact f0
    · exact f1
    ), fun e he => (by cases he), ⟨hG.1, hG.2.1, hG.2.2.1, hG.2.2.2.1, hG.2.2.2.2.1, hG.2.2.2.2.2.1, hG.2.2.2.2.2.2.1, hG.2.2.2.2.2.2.2.1, hG.2.2.2.2.2.2.2.2.1, hG.2.2.2.2.2.2.2.2.2.1, hG.2.2.2.2.2.2.2.2.2.2.1, hG.2.2.2.2.2.2.2.2.2.2.2.1, hG.2.2.2.2.2.2.2.2.2.2.2.2.1, hG.2.2.2.2.2.2.2.2.2.2.2.2.2.1, hG.2.2.2.2.2.2.2.2.2.2.2.2.2.2.1, hG.2.2.2.2.2.2.2.2.2.2.2.2.2.2.2.1, hG.2.2.2.2.2.2.2.2.2.2.2.2.2.2.2.2.1, hG.2.2.2.2.2.2.2.2.2.2.2.2.2.2.2.2.2.1, hG.2.2.2.2.2.2.2.2.2.2.2.2.2.2.2.2.2.2.1, hG.2.2.2.2.2.2.2.2.2.2.2.2.2.2.2.2.2.2.2.1, hG.2.2.2.2.2.2.2.2.2.2.2.2.2.2.2.2.2.2.2.2.1, c21, hG.2.2.2.2.2.2.2.2.2.2.2.2.2.2.2.2.2.2.2.2.2.2.1, c23, hG.2.2.2.2.2.2.2.2.2.2.2.2.2.2.2.2.2.2.2.2.2.2.2.2⟩⟩
theorem sx_q_s_fndA_1 {γ : Nat → Int} {A : Nat → Nat → Int} {j : Nat} {y : Int} (hG : sx_G0 γ A) (f0 : 0 ≤ (-1) + (1 * (j : Int) + 0)) (f1 : 0 ≤ 1 + ((-1) * (j : Int) + 0)) (c21 : sx_gfn (γ 18514) (γ 18515) (γ 18516) (sx_au A 2 j y 2)) (c23 : sx_gn (γ 18520) (0 + (1 * y + 0)) (γ 18522) (γ 18523) (γ 18524) (γ 18525) (γ 18526) (γ 18527) (sx_au A 2 j y 2)) : ∃ a ∈ sx_r_s_fndA.2, ∃ w : Nat → Int, (∀ (i : Nat) p, a.1[i]? = some p → p.2.1 ≤ w i ∧ w i ≤ p.2.2) ∧ (∀ f ∈ a.2.1, 0 ≤ sx_d (sx_th γ (j : Int) y w) f) ∧ (∀ e, a.2.2.2.head? = some e → sx_d (sx_th γ (j : Int) y w) e = y) ∧ sx_G0 (sx_gu γ (sx_th γ (j : Int) y w) a.2.2.1) (if true = true then sx_au A 2 j y else A) := ⟨([], [((-1), [(19000, 1)]), (1, [(19000, (-1))])], [(18521, (0, [(19001, 1)]))], []), List.Mem.tail _ (List.Mem.head _), (fun _ => 0), fun i p hi => (by
    match i, hi with
    | n + 0, hi => simp at hi), fun f hf => (by
    simp only [List.mem_cons, List.not_mem_nil, or_false] at hf
    rcases hf with rfl | rfl
    · exact f0
    · exact f1
    ), fun e he => (by cases he), ⟨hG.1, hG.2.1, hG.2.2.1, hG.2.2.2.1, hG.2.2.2.2.1, hG.2.2.2.2.2.1, hG.2.2.2.2.2.2.1, hG.2.2.2.2.2.2.2.1, hG.2.2.2.2.2.2.2.2.1, hG.2.2.2.2.2.2.2.2.2.1, hG.2.2.2.2.2.2.2.2.2.2.1, hG.2.2.2.2.2.2.2.2.2.2.2.1, hG.2.2.2.2.2.2.2.2.2.2.2.2.1, hG.2.2.2.2.2.2.2.2.2.2.2.2.2.1, hG.2.2.2.2.2.2.2.2.2.2.2.2.2.2.1, hG.2.2.2.2.2.2.2.2.2.2.2.2.2.2.2.1, hG.2.2.2.2.2.2.2.2.2.2.2.2.2.2.2.2.1, hG.2.2.2.2.2.2.2.2.2.2.2.2.2.2.2.2.2.1, hG.2.2.2.2.2.2.2.2.2.2.2.2.2.2.2.2.2.2.1, hG.2.2.2.2.2.2.2.2.2.2.2.2.2.2.2.2.2.2.2.1, hG.2.2.2.2.2.2.2.2.2.2.2.2.2.2.2.2.2.2.2.2.1, c21, hG.2.2.2.2.2.2.2.2.2.2.2.2.2.2.2.2.2.2.2.2.2.2.1, c23, hG.2.2.2.2.2.2.2.2.2.2.2.2.2.2.2.2.2.2.2.2.2.2.2.2⟩⟩
theorem sx_q_s_fndA_2 {γ : Nat → Int} {A : Nat → Nat → Int} {j : Nat} {y : Int} (hG : sx_G0 γ A) (f0 : 0 ≤ (-2) + (1 * (j : Int) + 0)) (f1 : 0 ≤ 2 + ((-1) * (j : Int) + 0)) (c21 : sx_gfn (γ 18514) (γ 18515) (γ 18516) (sx_au A 2 j y 2)) (c23 : sx_gn (γ 18520) (γ 18521) (0 + (1 * y + 0)) (γ 18523) (γ 18524) (γ 18525) (γ 18526) (γ 18527) (sx_au A 2 j y 2)) : ∃ a ∈ sx_r_s_fndA.2, ∃ w : Nat → Int, (∀ (i : Nat) p, a.1[i]? = some p → p.2.1 ≤ w i ∧ w i ≤ p.2.2) ∧ (∀ f ∈ a.2.1, 0 ≤ sx_d (sx_th γ (j : Int) y w) f) ∧ (∀ e, a.2.2.2.head? = some e → sx_d (sx_th γ (j : Int) y w) e = y) ∧ sx_G0 (sx_gu γ (sx_th γ (j : Int) y w) a.2.2.1) (if true = true then sx_au A 2 j y else A) := ⟨([], [((-2), [(19000, 1)]), (2, [(19000, (-1))])], [(18522, (0, [(19001, 1)]))], []), List.Mem.tail _ (List.Mem.tail _ (List.Mem.head _)), (fun _ => 0), fun i p hi => (by
    match i, hi with
    | n + 0, hi => simp at hi), fun f hf => (by
    simp only [List.mem_cons, List.not_mem_nil, or_false] at hf
    rcases hf with rfl | rfl
    · exact f0
    · exact f1
    ), fun e he => (by cases he), ⟨hG.1, hG.2.1, hG.2.2.1, hG.2.2.2.1, hG.2.2.2.2.1, hG.2.2.2.2.2.1, hG.2.2.2.2.2.2.1, hG.2.2.2.2.2.2.2.1, hG.2.2.2.2.2.2.2.2.1, hG.2.2.2.2.2.2.2.2.2.1, hG.2.2.2.2.2.2.2.2.2.2.1, hG.2.2.2.2.2.2.2.2.2.2.2.1, hG.2.2.2.2.2.2.2.2.2.2.2.2.1, hG.2.2.2.2.2.2.2.2.2.2.2.2.2.1, hG.2.2.2.2.2.2.2.2.2.2.2.2.2.2.1, hG.2.2.2.2.2.2.2.2.2.2.2.2.2.2.2.1, hG.2.2.2.2.2.2.2.2.2.2.2.2.2.2.2.2.1, hG.2.2.2.2.2.2.2.2.2.2.2.2.2.2.2.2.2.1, hG.2.2.2.2.2.2.2.2.2.2.2.2.2.2.2.2.2.2.1, hG.2.2.2.2.2.2.2.2.2.2.2.2.2.2.2.2.2.2.2.1, hG.2.2.2.2.2.2.2.2.2.2.2.2.2.2.2.2.2.2.2.2.1, c21, hG.2.2.2.2.2.2.2.2.2.2.2.2.2.2.2.2.2.2.2.2.2.2.1, c23, hG.2.2.2.2.2.2.2.2.2.2.2.2.2.2.2.2.2.2.2.2.2.2.2.2⟩⟩
theorem sx_q_s_fndA_3 {γ : Nat → Int} {A : Nat → Nat → Int} {j : Nat} {y : Int} (hG : sx_G0 γ A) (f0 : 0 ≤ (-3) + (1 * (j : Int) + 0)) (f1 : 0 ≤ 3 + ((-1) * (j : Int) + 0)) (c21 : sx_gfn (γ 18514) (γ 18515) (γ 18516) (sx_au A 2 j y 2)) (c23 : sx_gn (γ 18520) (γ 18521) (γ 18522) (0 + (1 * y + 0)) (γ 18524) (γ 18525) (γ 18526) (γ 18527) (sx_au A 2 j y 2)) : ∃ a ∈ sx_r_s_fndA.2, ∃ w : Nat → Int, (∀ (i : Nat) p, a.1[i]? = some p → p.2.1 ≤ w i ∧ w i ≤ p.2.2) ∧ (∀ f ∈ a.2.1, 0 ≤ sx_d (sx_th γ (j : Int) y w) f) ∧ (∀ e, a.2.2.2.head? = some e → sx_d (sx_th γ (j : Int) y w) e = y) ∧ sx_G0 (sx_gu γ (sx_th γ (j : Int) y w) a.2.2.1) (if true = true then sx_au A 2 j y else A) := ⟨([], [((-3), [(19000, 1)]), (3, [(19000, (-1))])], [(18523, (0, [(19001, 1)]))], []), List.Mem.tail _ (List.Mem.tail _ (List.Mem.tail _ (List.Mem.head _))), (fun _ => 0), fun i p hi => (by
    match i, hi with
    | n + 0, hi => simp at hi), fun f hf => (by
    simp only [List.mem_cons, List.not_mem_nil, or_false] at hf
    rcases hf with rfl | rfl
    · exact f0
    · exact f1
    ), fun e he => (by cases he), ⟨hG.1, hG.2.1, hG.2.2.1, hG.2.2.2.1, hG.2.2.2.2.1, hG.2.2.2.2.2.1, hG.2.2.2.2.2.2.1, hG.2.2.2.2.2.2.2.1, hG.2.2.2.2.2.2.2.2.1, hG.2.2.2.2.2.2.2.2.2.1, hG.2.2.2.2.2.2.2.2.2.2.1, hG.2.2.2.2.2.2.2.2.2.2.2.1, hG.2.2.2.2.2.2.2.2.2.2.2.2.1, hG.2.2.2.2.2.2.2.2.2.2.2.2.2.1, hG.2.2.2.2.2.2.2.2.2.2.2.2.2.2.1, hG.2.2.2.2.2.2.2.2.2.2.2.2.2.2.2.1, hG.2.2.2.2.2.2.2.2.2.2.2.2.2.2.2.2.1, hG.2.2.2.2.2.2.2.2.2.2.2.2.2.2.2.2.2.1, hG.2.2.2.2.2.2.2.2.2.2.2.2.2.2.2.2.2.2.1, hG.2.2.2.2.2.2.2.2.2.2.2.2.2.2.2.2.2.2.2.1, hG.2.2.2.2.2.2.2.2.2.2.2.2.2.2.2.2.2.2.2.2.1, c21, hG.2.2.2.2.2.2.2.2.2.2.2.2.2.2.2.2.2.2.2.2.2.2.1, c23, hG.2.2.2.2.2.2.2.2.2.2.2.2.2.2.2.2.2.2.2.2.2.2.2.2⟩⟩
theorem sx_q_s_fndA_4 {γ : Nat → Int} {A : Nat → Nat → Int} {j : Nat} {y : Int} (hG : sx_G0 γ A) (f0 : 0 ≤ (-4) + (1 * (j : Int) + 0)) (f1 : 0 ≤ 4 + ((-1) * (j : Int) + 0)) (c21 : sx_gfn (γ 18514) (γ 18515) (γ 18516) (sx_au A 2 j y 2)) (c23 : sx_gn (γ 18520) (γ 18521) (γ 18522) (γ 18523) (0 + (1 * y + 0)) (γ 18525) (γ 18526) (γ 18527) (sx_au A 2 j y 2)) : ∃ a ∈ sx_r_s_fndA.2, ∃ w : Nat → Int, (∀ (i : Nat) p, a.1[i]? = some p → p.2.1 ≤ w i ∧ w i ≤ p.2.2) ∧ (∀ f ∈ a.2.1, 0 ≤ sx_d (sx_th γ (j : Int) y w) f) ∧ (∀ e, a.2.2.2.head? = some e → sx_d (sx_th γ (j : Int) y w) e = y) ∧ sx_G0 (sx_gu γ (sx_th γ (j : Int) y w) a.2.2.1) (if true = true then sx_au A 2 j y else A) := ⟨([], [((-4), [(19000, 1)]), (4, [(19000, (-1))])], [(18524, (0, [(19001, 1)]))], []), List.Mem.tail _ (List.Mem.tail _ (List.Mem.tail _ (List.Mem.tail _ (List.Mem.head _)))), (fun _ => 0), fun i p hi => (by
    match i, hi with
    | n + 0, hi => simp at hi), fun f hf => (by
    simp only [List.mem_cons, List.not_mem_nil, or_false] at hf
    rcases hf with rfl | rfl
    · exact f0
    · exact f1
    ), fun e he => (by cases he), ⟨hG.1, hG.2.1, hG.2.2.1, hG.2.2.2.1, hG.2.2.2.2.1, hG.2.2.2.2.2.1, hG.2.2.2.2.2.2.1, hG.2.2.2.2.2.2.2.1, hG.2.2.2.2.2.2.2.2.1, hG.2.2.2.2.2.2.2.2.2.1, hG.2.2.2.2.2.2.2.2.2.2.1, hG.2.2.2.2.2.2.2.2.2.2.2.1, hG.2.2.2.2.2.2.2.2.2.2.2.2.1, hG.2.2.2.2.2.2.2.2.2.2.2.2.2.1, hG.2.2.2.2.2.2.2.2.2.2.2.2.2.2.1, hG.2.2.2.2.2.2.2.2.2.2.2.2.2.2.2.1, hG.2.2.2.2.2.2.2.2.2.2.2.2.2.2.2.2.1, hG.2.2.2.2.2.2.2.2.2.2.2.2.2.2.2.2.2.1, hG.2.2.2.2.2.2.2.2.2.2.2.2.2.2.2.2.2.2.1, hG.2.2.2.2.2.2.2.2.2.2.2.2.2.2.2.2.2.2.2.1, hG.2.2.2.2.2.2.2.2.2.2.2.2.2.2.2.2.2.2.2.2.1, c21, hG.2.2.2.2.2.2.2.2.2.2.2.2.2.2.2.2.2.2.2.2.2.2.1, c23, hG.2.2.2.2.2.2.2.2.2.2.2.2.2.2.2.2.2.2.2.2.2.2.2.2⟩⟩
theorem sx_q_s_fndA_5 {γ : Nat → Int} {A : Nat → Nat → Int} {j : Nat} {y : Int} (hG : sx_G0 γ A) (f0 : 0 ≤ (-5) + (1 * (j : Int) + 0)) (f1 : 0 ≤ 5 + ((-1) * (j : Int) + 0)) (c21 : sx_gfn (γ 18514) (γ 18515) (γ 18516) (sx_au A 2 j y 2)) (c23 : sx_gn (γ 18520) (γ 18521) (γ 18522) (γ 18523) (γ 18524) (0 + (1 * y + 0)) (γ 18526) (γ 18527) (sx_au A 2 j y 2)) : ∃ a ∈ sx_r_s_fndA.2, ∃ w : Nat → Int, (∀ (i : Nat) p, a.1[i]? = some p → p.2.1 ≤ w i ∧ w i ≤ p.2.2) ∧ (∀ f ∈ a.2.1, 0 ≤ sx_d (sx_th γ (j : Int) y w) f) ∧ (∀ e, a.2.2.2.head? = some e → sx_d (sx_th γ (j : Int) y w) e = y) ∧ sx_G0 (sx_gu γ (sx_th γ (j : Int) y w) a.2.2.1) (if true = true then sx_au A 2 j y else A) := ⟨([], [((-5), [(19000, 1)]), (5, [(19000, (-1))])], [(18525, (0, [(19001, 1)]))], []), List.Mem.tail _ (List.Mem.tail _ (List.Mem.tail _ (List.Mem.tail _ (List.Mem.tail _ (List.Mem.head _))))), (fun _ => 0), fun i p hi => (by
    match i, hi with
    | n + 0, hi => simp at hi), fun f hf => (by
    simp only [List.mem_cons, List.not_mem_nil, or_false] at hf
    rcases hf with rfl | rfl
    · exact f0
    · exact f1
    ), fun e he => (by cases he), ⟨hG.1, hG.2.1, hG.2.2.1, hG.2.2.2.1, hG.2.2.2.2.1, hG.2.2.2.2.2.1, hG.2.2.2.2.2.2.1, hG.2.2.2.2.2.2.2.1, hG.2.2.2.2.2.2.2.2.1, hG.2.2.2.2.2.2.2.2.2.1, hG.2.2.2.2.2.2.2.2.2.2.1, hG.2.2.2.2.2.2.2.2.2.2.2.1, hG.2.2.2.2.2.2.2.2.2.2.2.2.1, hG.2.2.2.2.2.2.2.2.2.2.2.2.2.1, hG.2.2.2.2.2.2.2.2.2.2.2.2.2.2.1, hG.2.2.2.2.2.2.2.2.2.2.2.2.2.2.2.1, hG.2.2.2.2.2.2.2.2.2.2.2.2.2.2.2.2.1, hG.2.2.2.2.2.2.2.2.2.2.2.2.2.2.2.2.2.1, hG.2.2.2.2.2.2.2.2.2.2.2.2.2.2.2.2.2.2.1, hG.2.2.2.2.2.2.2.2.2.2.2.2.2.2.2.2.2.2.2.1, hG.2.2.2.2.2.2.2.2.2.2.2.2.2.2.2.2.2.2.2.2.1, c21, hG.2.2.2.2.2.2.2.2.2.2.2.2.2.2.2.2.2.2.2.2.2.2.1, c23, hG.2.2.2.2.2.2.2.2.2.2.2.2.2.2.2.2.2.2.2.2.2.2.2.2⟩⟩
theorem sx_q_s_fndA_6 {γ : Nat → Int} {A : Nat → Nat → Int} {j : Nat} {y : Int} (hG : sx_G0 γ A) (f0 : 0 ≤ (-6) + (1 * (j : Int) + 0)) (f1 : 0 ≤ 6 + ((-1) * (j : Int) + 0)) (c21 : sx_gfn (γ 18514) (γ 18515) (γ 18516) (sx_au A 2 j y 2)) (c23 : sx_gn (γ 18520) (γ 18521) (γ 18522) (γ 18523) (γ 18524) (γ 18525) (0 + (1 * y + 0)) (γ 18527) (sx_au A 2 j y 2)) : ∃ a ∈ sx_r_s_fndA.2, ∃ w : Nat → Int, (∀ (i : Nat) p, a.1[i]? = some p → p.2.1 ≤ w i ∧ w i ≤ p.2.2) ∧ (∀ f ∈ a.2.1, 0 ≤ sx_d (sx_th γ (j : Int) y w) f) ∧ (∀ e, a.2.2.2.head? = some e → sx_d (sx_th γ (j : Int) y w) e = y) ∧ sx_G0 (sx_gu γ (sx_th γ (j : Int) y w) a.2.2.1) (if true = true then sx_au A 2 j y else A) := ⟨([], [((-6), [(19000, 1)]), (6, [(19000, (-1))])], [(18526, (0, [(19001, 1)]))], []), List.Mem.tail _ (List.Mem.tail _ (List.Mem.tail _ (List.Mem.tail _ (List.Mem.tail _ (List.Mem.tail _ (List.Mem.head _)))))), (fun _ => 0), fun i p hi => (by
    match i, hi with
    | n + 0, hi => simp at hi), fun f hf => (by
    simp only [List.mem_cons, List.not_mem_nil, or_false] at hf
    rcases hf with rfl | rfl
    · exact f0
    · exact f1
    ), fun e he => (by cases he), ⟨hG.1, hG.2.1, hG.2.2.1, hG.2.2.2.1, hG.2.2.2.2.1, hG.2.2.2.2.2.1, hG.2.2.2.2.2.2.1, hG.2.2.2.2.2.2.2.1, hG.2.2.2.2.2.2.2.2.1, hG.2.2.2.2.2.2.2.2.2.1, hG.2.2.2.2.2.2.2.2.2.2.1, hG.2.2.2.2.2.2.2.2.2.2.2.1, hG.2.2.2.2.2.2.2.2.2.2.2.2.1, hG.2.2.2.2.2.2.2.2.2.2.2.2.2.1, hG.2.2.2.2.2.2.2.2.2.2.2.2.2.2.1, hG.2.2.2.2.2.2.2.2.2.2.2.2.2.2.2.1, hG.2.2.2.2.2.2.2.2.2.2.2.2.2.2.2.2.1, hG.2.2.2.2.2.2.2.2.2.2.2.2.2.2.2.2.2.1, hG.2.2.2.2.2.2.2.2.2.2.2.2.2.2.2.2.2.2.1, hG.2.2.2.2.2.2.2.2.2.2.2.2.2.2.2.2.2.2.2.1, hG.2.2.2.2.2.2.2.2.2.2.2.2.2.2.2.2.2.2.2.2.1, c21, hG.2.2.2.2.2.2.2.2.2.2.2.2.2.2.2.2.2.2.2.2.2.2.1, c23, hG.2.2.2.2.2.2.2.2.2.2.2.2.2.2.2.2.2.2.2.2.2.2.2.2⟩⟩
theorem sx_q_s_fndA_7 {γ : Nat → Int} {A : Nat → Nat → Int} {j : Nat} {y : Int} (hG : sx_G0 γ A) (f0 : 0 ≤ (-7) + (1 * (j : Int) + 0)) (f1 : 0 ≤ 7 + ((-1) * (j : Int) + 0)) (c21 : sx_gfn (γ 18514) (γ 18515) (γ 18516) (sx_au A 2 j y 2)) (c23 : sx_gn (γ 18520) (γ 18521) (γ 18522) (γ 18523) (γ 18524) (γ 18525) (γ 18526) (0 + (1 * y + 0)) (sx_au A 2 j y 2)) : ∃ a ∈ sx_r_s_fndA.2, ∃ w : Nat → Int, (∀ (i : Nat) p, a.1[i]? = some p → p.2.1 ≤ w i ∧ w i ≤ p.2.2) ∧ (∀ f ∈ a.2.1, 0 ≤ sx_d (sx_th γ (j : Int) y w) f) ∧ (∀ e, a.2.2.2.head? = some e → sx_d (sx_th γ (j : Int) y w) e = y) ∧ sx_G0 (sx_gu γ (sx_th γ (j : Int) y w) a.2.2.1) (if true = true then sx_au A 2 j y else A) := ⟨([], [((-7), [(19000, 1)]), (7, [(19000, (-1))])], [(18527, (0, [(19001, 1)]))], []), List.Mem.tail _ (List.Mem.tail _ (List.Mem.tail _ (List.Mem.tail _ (List.Mem.tail _ (List.Mem.tail _ (List.Mem.tail _ (List.Mem.head _))))))), (fun _ => 0), fun i p hi => (by
    match i, hi with
    | n + 0, hi => simp at hi), fun f hf => (by
    simp only [List.mem_cons, List.not_mem_nil, or_false] at hf
    rcases hf with rfl | rfl
    · exact f0
    · exact f1
    ), fun e he => (by cases he), ⟨hG.1, hG.2.1, hG.2.2.1, hG.2.2.2.1, hG.2.2.2.2.1, hG.2.2.2.2.2.1, hG.2.2.2.2.2.2.1, hG.2.2.2.2.2.2.2.1, hG.2.2.2.2.2.2.2.2.1, hG.2.2.2.2.2.2.2.2.2.1, hG.2.2.2.2.2.2.2.2.2.2.1, hG.2.2.2.2.2.2.2.2.2.2.2.1, hG.2.2.2.2.2.2.2.2.2.2.2.2.1, hG.2.2.2.2.2.2.2.2.2.2.2.2.2.1, hG.2.2.2.2.2.2.2.2.2.2.2.2.2.2.1, hG.2.2.2.2.2.2.2.2.2.2.2.2.2.2.2.1, hG.2.2.2.2.2.2.2.2.2.2.2.2.2.2.2.2.1, hG.2.2.2.2.2.2.2.2.2.2.2.2.2.2.2.2.2.1, hG.2.2.2.2.2.2.2.2.2.2.2.2.2.2.2.2.2.2.1, hG.2.2.2.2.2.2.2.2.2.2.2.2.2.2.2.2.2.2.2.1, hG.2.2.2.2.2.2.2.2.2.2.2.2.2.2.2.2.2.2.2.2.1, c21, hG.2.2.2.2.2.2.2.2.2.2.2.2.2.2.2.2.2.2.2.2.2.2.1, c23, hG.2.2.2.2.2.2.2.2.2.2.2.2.2.2.2.2.2.2.2.2.2.2.2.2⟩⟩
theorem sx_q_s_fndB_0 {γ : Nat → Int} {A : Nat → Nat → Int} {j : Nat} {y : Int} (hG : sx_G0 γ A) (f0 : 0 ≤ 0 + (1 * (j : Int) + 0)) (f1 : 0 ≤ 0 + ((-1) * (j : Int) + 0)) (c21 : sx_gfn (γ 18514) (0 + 0) ((-1) + 0) (sx_au A 2 j y 2)) (c23 : sx_gn (0 + (1 * y + 0)) (γ 18521) (γ 18522) (γ 18523) (γ 18524) (γ 18525) (γ 18526) (γ 18527) (sx_au A 2 j y 2)) : ∃ a ∈ sx_r_s_fndB.2, ∃ w : Nat → Int, (∀ (i : Nat) p, a.1[i]? = some p → p.2.1 ≤ w i ∧ w i ≤ p.2.2) ∧ (∀ f ∈ a.2.1, 0 ≤ sx_d (sx_th γ (j : Int) y w) f) ∧ (∀ e, a.2.2.2.head? = some e → sx_d (sx_th γ (j : Int) y w) e = y) ∧ sx_G0 (sx_gu γ (sx_th γ (j : Int) y w) a.2.2.1) (if true = true then sx_au A 2 j y else A) := ⟨([], [(0, [(19000, 1)]), (0, [(19000, (-1))])], [(18520, (0, [(19001, 1)])), (18515, (0, [])), (18516, ((-1), []))], []), List.Mem.head _, (fun _ => 0), fun i p hi => (by
    match i, hi with
    | n + 0, hi => simp at hi), fun f hf => (by
    simp only [List.mem_cons, List.not_mem_nil, or_false] at hf
    rcases hf with rfl | rfl
    · exact f0
    · exact f1
    ), fun e he => (by cases he), ⟨hG.1, hG.2.1, hG.2.2.1, hG.2.2.2.1, hG.2.2.2.2.1, hG.2.2.2.2.2.1, hG.2.2.2.2.2.2.1, hG.2.2.2.2.2.2.2.1, hG.2.2.2.2.2.2.2.2.1, hG.2.2.2.2.2.2.2.2.2.1, hG.2.2.2.2.2.2.2.2.2.2.1, hG.2.2.2.2.2.2.2.2.2.2.2.1, hG.2.2.2.2.2.2.2.2.2.2.2.2.1, hG.2.2.2.2.2.2.2.2.2.2.2.2.2.1, hG.2.2.2.2.2.2.2.2.2.2.2.2.2.2.1, hG.2.2.2.2.2.2.2.2.2.2.2.2.2.2.2.1, hG.2.2.2.2.2.2.2.2.2.2.2.2.2.2.2.2.1, hG.2.2.2.2.2.2.2.2.2.2.2.2.2.2.2.2.2.1, hG.2.2.2.2.2.2.2.2.2.2.2.2.2.2.2.2.2.2.1, hG.2.2.2.2.2.2.2.2.2.2.2.2.2.2.2.2.2.2.2.1, hG.2.2.2.2.2.2.2.2.2.2.2.2.2.2.2.2.2.2.2.2.1, c21, hG.2.2.2.2.2.2.2.2.2.2.2.2.2.2.2.2.2.2.2.2.2.2.1, c23, hG.2.2.2.2.2.2.2.2.2.2.2.2.2.2.2.2.2.2.2.2.2.2.2.2⟩⟩
theorem sx_q_s_fndB_1 {γ : Nat → Int} {A : Nat → Nat → Int} {j : Nat} {y : Int} (hG : sx_G0 γ A) (f0 : 0 ≤ (-1) + (1 * (j : Int) + 0)) (f1 : 0 ≤ 1 + ((-1) * (j : Int) + 0)) (c21 : sx_gfn (γ 18514) (0 + 0) ((-1) + 0) (sx_au A 2 j y 2)) (c23 : sx_gn (γ 18520) (0 + (1 * y + 0)) (γ 18522) (γ 18523) (γ 18524) (γ 18525) (γ 18526) (γ 18527) (sx_au A 2 j y 2)) : ∃ a ∈ sx_r_s_fndB.2, ∃ w : Nat → Int, (∀ (i : Nat) p, a.1[i]? = some p → p.2.1 ≤ w i ∧ w i ≤ p.2.2) ∧ (∀ f ∈ a.2.1, 0 ≤ sx_d (sx_th γ (j : Int) y w) f) ∧ (∀ e, a.2.2.2.head? = some e → sx_d (sx_th γ (j : Int) y w) e = y) ∧ sx_G0 (sx_gu γ (sx_th γ (j : Int) y w) a.2.2.1) (if true = true then sx_au A 2 j y else A) := ⟨([], [((-1), [(19000, 1)]), (1, [(19000, (-1))])], [(18521, (0, [(19001, 1)])), (18515, (0, [])), (18516, ((-1), []))], []), List.Mem.tail _ (List.Mem.head _), (fun _ => 0), fun i p hi => (by
    match i, hi with
    | n + 0, hi => simp at hi), fun f hf => (by
    simp only [List.mem_cons, List.not_mem_nil, or_false] at hf
    rcases hf with rfl | rfl
    · exact f0
    · exact f1
    ), fun e he => (by cases he), ⟨hG.1, hG.2.1, hG.2.2.1, hG.2.2.2.1, hG.2.2.2.2.1, hG.2.2.2.2.2.1, hG.2.2.2.2.2.2.1, hG.2.2.2.2.2.2.2.1, hG.2.2.2.2.2.2.2.2.1, hG.2.2.2.2.2.2.2.2.2.1, hG.2.2.2.2.2.2.2.2.2.2.1, hG.2.2.2.2.2.2.2.2.2.2.2.1, hG.2.2.2.2.2.2.2.2.2.2.2.2.1, hG.2.2.2.2.2.2.2.2.2.2.2.2.2.1, hG.2.2.2.2.2.2.2.2.2.2.2.2.2.2.1, hG.2.2.2.2.2.2.2.2.2.2.2.2.2.2.2.1, hG.2.2.2.2.2.2.2.2.2.2.2.2.2.2.2.2.1, hG.2.2.2.2.2.2.2.2.2.2.2.2.2.2.2.2.2.1, hG.2.2.2.2.2.2.2.2.2.2.2.2.2.2.2.2.2.2.1, hG.2.2.2.2.2.2.2.2.2.2.2.2.2.2.2.2.2.2.2.1, hG.2.2.2.2.2.2.2.2.2.2.2.2.2.2.2.2.2.2.2.2.1, c21, hG.2.2.2.2.2.2.2.2.2.2.2.2.2.2.2.2.2.2.2.2.2.2.1, c23, hG.2.2.2.2.2.2.2.2.2.2.2.2.2.2.2.2.2.2.2.2.2.2.2.2⟩⟩
theorem sx_q_s_fndB_2 {γ : Nat → Int} {A : Nat → Nat → Int} {j : Nat} {y : Int} (hG : sx_G0 γ A) (f0 : 0 ≤ (-2) + (1 * (j : Int) + 0)) (f1 : 0 ≤ 2 + ((-1) * (j : Int) + 0)) (c21 : sx_gfn (γ 18514) (0 + 0) ((-1) + 0) (sx_au A 2 j y 2)) (c23 : sx_gn (γ 18520) (γ 18521) (0 + (1 * y + 0)) (γ 18523) (γ 18524) (γ 18525) (γ 18526) (γ 18527) (sx_au A 2 j y 2)) : ∃ a ∈ sx_r_s_fndB.2, ∃ w : Nat → Int, (∀ (i : Nat) p, a.1[i]? = some p → p.2.1 ≤ w i ∧ w i ≤ p.2.2) ∧ (∀ f ∈ a.2.1, 0 ≤ sx_d (sx_th γ (j : Int) y w) f) ∧ (∀ e, a.2.2.2.head? = some e → sx_d (sx_th γ (j : Int) y w) e = y) ∧ sx_G0 (sx_gu γ (sx_th γ (j : Int) y w) a.2.2.1) (if true = true then sx_au A 2 j y else A) := ⟨([], [((-2), [(19000, 1)]), (2, [(19000, (-1))])], [(18522, (0, [(19001, 1)])), (18515, (0, [])), (18516, ((-1), []))], []), List.Mem.tail _ (List.Mem.tail _ (List.Mem.head _)), (fun _ => 0), fun i p hi => (by
    match i, hi with
    | n + 0, hi => simp at hi), fun f hf => (by
    simp only [List.mem_cons, List.not_mem_nil, or_false] at hf
    rcases hf with rfl | rfl
    · exact f0
    · exact f1
    ), fun e he => (by cases he), ⟨hG.1, hG.2.1, hG.2.2.1, hG.2.2.2.1, hG.2.2.2.2.1, hG.2.2.2.2.2.1, hG.2.2.2.2.2.2.1, hG.2.2.2.2.2.2.2.1, hG.2.2.2.2.2.2.2.2.1, hG.2.2.2.2.2.2.2.2.2.1, hG.2.2.2.2.2.2.2.2.2.2.1, hG.2.2.2.2.2.2.2.2.2.2.2.1, hG.2.2.2.2.2.2.2.2.2.2.2.2.1, hG.2.2.2.2.2.2.2.2.2.2.2.2.2.1, hG.2.2.2.2.2.2.2.2.2.2.2.2.2.2.1, hG.2.2.2.2.2.2.2.2.2.2.2.2.2.2.2.1, hG.2.2.2.2.2.2.2.2.2.2.2.2.2.2.2.2.1, hG.2.2.2.2.2.2.2.2.2.2.2.2.2.2.2.2.2.1, hG.2.2.2.2.2.2.2.2.2.2.2.2.2.2.2.2.2.2.1, hG.2.2.2.2.2.2.2.2.2.2.2.2.2.2.2.2.2.2.2.1, hG.2.2.2.2.2.2.2.2.2.2.2.2.2.2.2.2.2.2.2.2.1, c21, hG.2.2.2.2.2.2.2.2.2.2.2.2.2.2.2.2.2.2.2.2.2.2.1, c23, hG.2.2.2.2.2.2.2.2.2.2.2.2.2.2.2.2.2.2.2.2.2.2.2.2⟩⟩
theorem sx_q_s_fndB_3 {γ : Nat → Int} {A : Nat → Nat → Int} {j : Nat} {y : Int} (hG : sx_G0 γ A) (f0 : 0 ≤ (-3) + (1 * (j : Int) + 0)) (f1 : 0 ≤ 3 + ((-1) * (j : Int) + 0)) (c21 : sx_gfn (γ 18514) (0 + 0) ((-1) + 0) (sx_au A 2 j y 2)) (c23 : sx_gn (γ 18520) (γ 18521) (γ 18522) (0 + (1 * y + 0)) (γ 18524) (γ 18525) (γ 18526) (γ 18527) (sx_au A 2 j y 2)) : ∃ a ∈ sx_r_s_fndB.2, ∃ w : Nat → Int, (∀ (i : Nat) p, a.1[i]? = some p → p.2.1 ≤ w i ∧ w i ≤ p.2.2) ∧ (∀ f ∈ a.2.1, 0 ≤ sx_d (sx_th γ (j : Int) y w) f) ∧ (∀ e, a.2.2.2.head? = some e → sx_d (sx_th γ (j : Int) y w) e = y) ∧ sx_G0 (sx_gu γ (sx_th γ (j : Int) y w) a.2.2.1) (if true = true then sx_au A 2 j y else A) := ⟨([], [((-3), [(19000, 1)]), (3, [(19000, (-1))])], [(18523, (0, [(19001, 1)])), (18515, (0, [])), (18516, ((-1), []))], []), List.Mem.tail _ (List.Mem.tail _ (List.Mem.tail _ (List.Mem.head _))), (fun _ => 0), fun i p hi => (by
    match i, hi with
    | n + 0, hi => simp at hi), fun f hf => (by
    simp only [List.mem_cons, List.not_mem_nil, or_false] at hf
    rcases hf with rfl | rfl
    · exact f0
    · exact f1
    ), fun e he => (by cases he), ⟨hG.1, hG.2.1, hG.2.2.1, hG.2.2.2.1, hG.2.2.2.2.1, hG.2.2.2.2.2.1, hG.2.2.2.2.2.2.1, hG.2.2.2.2.2.2.2.1, hG.2.2.2.2.2.2.2.2.1, hG.2.2.2.2.2.2.2.2.2.1, hG.2.2.2.2.2.2.2.2.2.2.1, hG.2.2.2.2.2.2.2.2.2.2.2.1, hG.2.2.2.2.2.2.2.2.2.2.2.2.1, hG.2.2.2.2.2.2.2.2.2.2.2.2.2.1, hG.2.2.2.2.2.2.2.2.2.2.2.2.2.2.1, hG.2.2.2.2.2.2.2.2.2.2.2.2.2.2.2.1, hG.2.2.2.2.2.2.2.2.2.2.2.2.2.2.2.2.1, hG.2.2.2.2.2.2.2.2.2.2.2.2.2.2.2.2.2.1, hG.2.2.2.2.2.2.2.2.2.2.2.2.2.2.2.2.2.2.1, hG.2.2.2.2.2.2.2.2.2.2.2.2.2.2.2.2.2.2.2.1, hG.2.2.2.2.2.2.2.2.2.2.2.2.2.2.2.2.2.2.2.2.1, c21, hG.2.2.2.2.2.2.2.2.2.2.2.2.2.2.2.2.2.2.2.2.2.2.1, c23, hG.2.2.2.2.2.2.2.2.2.2.2.2.2.2.2.2.2.2.2.2.2.2.2.2⟩⟩
theorem sx_q_s_fndB_4 {γ : Nat → Int} {A : Nat → Nat → Int} {j : Nat} {y : Int} (hG : sx_G0 γ A) (f0 : 0 ≤ (-4) + (1 * (j : Int) + 0)) (f1 : 0 ≤ 4 + ((-1) * (j : Int) + 0)) (c21 : sx_gfn (γ 18514) (0 + 0) ((-1) + 0) (sx_au A 2 j y 2)) (c23 : sx_gn (γ 18520) (γ 18521) (γ 18522) (γ 18523) (0 + (1 * y + 0)) (γ 18525) (γ 18526) (γ 18527) (sx_au A 2 j y 2)) : ∃ a ∈ sx_r_s_fndB.2, ∃ w : Nat → Int, (∀ (i : Nat) p, a.1[i]? = some p → p.2.1 ≤ w i ∧ w i ≤ p.2.2) ∧ (∀ f ∈ a.2.1, 0 ≤ sx_d (sx_th γ (j : Int) y w) f) ∧ (∀ e, a.2.2.2.head? = some e → sx_d (sx_th γ (j : Int) y w) e = y) ∧ sx_G0 (sx_gu γ (sx_th γ (j : Int) y w) a.2.2.1) (if true = true then sx_au A 2 j y else A) := ⟨([], [((-4), [(19000, 1)]), (4, [(19000, (-1))])], [(18524, (0, [(19001, 1)])), (18515, (0, [])), (18516, ((-1), []))], []), List.Mem.tail _ (List.Mem.tail _ (List.Mem.tail _ (List.Mem.tail _ (List.Mem.head _)))), (fun _ => 0), fun i p hi => (by
    match i, hi with
    | n + 0, hi => simp at hi), fun f hf => (by
    simp only [List.mem_cons, List.not_mem_nil, or_false] at hf
    rcases hf with rfl | rfl
    · exact f0
    · exact f1
    ), fun e he => (by cases he), ⟨hG.1, hG.2.1, hG.2.2.1, hG.2.2.2.1, hG.2.2.2.2.1, hG.2.2.2.2.2.1, hG.2.2.2.2.2.2.1, hG.2.2.2.2.2.2.2.1, hG.2.2.2.2.2.2.2.2.1, hG.2.2.2.2.2.2.2.2.2.1, hG.2.2.2.2.2.2.2.2.2.2.1, hG.2.2.2.2.2.2.2.2.2.2.2.1, hG.2.2.2.2.2.2.2.2.2.2.2.2.1, hG.2.2.2.2.2.2.2.2.2.2.2.2.2.1, hG.2.2.2.2.2.2.2.2.2.2.2.2.2.2.1, hG.2.2.2.2.2.2.2.2.2.2.2.2.2.2.2.1, hG.2.2.2.2.2.2.2.2.2.2.2.2.2.2.2.2.1, hG.2.2.2.2.2.2.2.2.2.2.2.2.2.2.2.2.2.1, hG.2.2.2.2.2.2.2.2.2.2.2.2.2.2.2.2.2.2.1, hG.2.2.2.2.2.2.2.2.2.2.2.2.2.2.2.2.2.2.2.1, hG.2.2.2.2.2.2.2.2.2.2.2.2.2.2.2.2.2.2.2.2.1, c21, hG.2.2.2.2.2.2.2.2.2.2.2.2.2.2.2.2.2.2.2.2.2.2.1, c23, hG.2.2.2.2.2.2.2.2.2.2.2.2.2.2.2.2.2.2.2.2.2.2.2.2⟩⟩
theorem sx_q_s_fndB_5 {γ : Nat → Int} {A : Nat → Nat → Int} {j : Nat} {y : Int} (hG : sx_G0 γ A) (f0 : 0 ≤ (-5) + (1 * (j : Int) + 0)) (f1 : 0 ≤ 5 + ((-1) * (j : Int) + 0)) (c21 : sx_gfn (γ 18514) (0 + 0) ((-1) + 0) (sx_au A 2 j y 2)) (c23 : sx_gn (γ 18520) (γ 18521) (γ 18522) (γ 18523) (γ 18524) (0 + (1 * y + 0)) (γ 18526) (γ 18527) (sx_au A 2 j y 2)) : ∃ a ∈ sx_r_s_fndB.2, ∃ w : Nat → Int, (∀ (i : Nat) p, a.1[i]? = some p → p.2.1 ≤ w i ∧ w i ≤ p.2.2) ∧ (∀ f ∈ a.2.1, 0 ≤ sx_d (sx_th γ (j : Int) y w) f) ∧ (∀ e, a.2.2.2.head? = some e → sx_d (sx_th γ (j : Int) y w) e = y) ∧ sx_G0 (sx_gu γ (sx_th γ (j : Int) y w) a.2.2.1) (if true = true then sx_au A 2 j y else A) := ⟨([], [((-5), [(19000, 1)]), (5, [(19000, (-1))])], [(18525, (0, [(19001, 1)])), (18515, (0, [])), (18516, ((-1), []))], []), List.Mem.tail _ (List.Mem.tail _ (List.Mem.tail _ (List.Mem.tail _ (List.Mem.tail _ (List.Mem.head _))))), (fun _ => 0), fun i p hi => (by
    match i, hi with
    | n + 0, hi => simp at hi), fun f hf => (by
    simp only [List.mem_cons, List.not_mem_nil, or_false] at hf
    rcases hf with rfl | rfl
    · exact f0
    · exact f1
    ), fun e he => (by cases he), ⟨hG.1, hG.2.1, hG.2.2.1, hG.2.2.2.1, hG.2.2.2.2.1, hG.2.2.2.2.2.1, hG.2.2.2.2.2.2.1, hG.2.2.2.2.2.2.2.1, hG.2.2.2.2.2.2.2.2.1, hG.2.2.2.2.2.2.2.2.2.1, hG.2.2.2.2.2.2.2.2.2.2.1, hG.2.2.2.2.2.2.2.2.2.2.2.1, hG.2.2.2.2.2.2.2.2.2.2.2.2.1, hG.2.2.2.2.2.2.2.2.2.2.2.2.2.1, hG.2.2.2.2.2.2.2.2.2.2.2.2.2.2.1, hG.2.2.2.2.2.2.2.2.2.2.2.2.2.2.2.1, hG.2.2.2.2.2.2.2.2.2.2.2.2.2.2.2.2.1, hG.2.2.2.2.2.2.2.2.2.2.2.2.2.2.2.2.2.1, hG.2.2.2.2.2.2.2.2.2.2.2.2.2.2.2.2.2.2.1, hG.2.2.2.2.2.2.2.2.2.2.2.2.2.2.2.2.2.2.2.1, hG.2.2.2.2.2.2.2.2.2.2.2.2.2.2.2.2.2.2.2.2.1, c21, hG.2.2.2.2.2.2.2.2.2.2.2.2.2.2.2.2.2.2.2.2.2.2.1, c23, hG.2.2.2.2.2.2.2.2.2.2.2.2.2.2.2.2.2.2.2.2.2.2.2.2⟩⟩
theorem sx_q_s_fndB_6 {γ : Nat → Int} {A : Nat → Nat → Int} {j : Nat} {y : Int} (hG : sx_G0 γ A) (f0 : 0 ≤ (-6) + (1 * (j : Int) + 0)) (f1 : 0 ≤ 6 + ((-1) * (j : Int) + 0)) (c21 : sx_gfn (γ 18514) (0 + 0) ((-1) + 0) (sx_au A 2 j y 2)) (c23 : sx_gn (γ 18520) (γ 18521) (γ 18522) (γ 18523) (γ 18524) (γ 18525) (0 + (1 * y + 0)) (γ 18527) (sx_au A 2 j y 2)) : ∃ a ∈ sx_r_s_fndB.2, ∃ w : Nat → Int, (∀ (i : Nat) p, a.1[i]? = some p → p.2.1 ≤ w i ∧ w i ≤ p.2.2) ∧ (∀ f ∈ a.2.1, 0 ≤ sx_d (sx_th γ (j : Int) y w) f) ∧ (∀ e, a.2.2.2.head? = some e → sx_d (sx_th γ (j : Int) y w) e = y) ∧ sx_G0 (sx_gu γ (sx_th γ (j : Int) y w) a.2.2.1) (if true = true then sx_au A 2 j y else A) := ⟨([], [((-6), [(19000, 1)]), (6, [(19000, (-1))])], [(18526, (0, [(19001, 1)])), (18515, (0, [])), (18516, ((-1), []))], []), List.Mem.tail _ (List.Mem.tail _ (List.Mem.tail _ (List.Mem.tail _ (List.Mem.tail _ (List.Mem.tail _ (List.Mem.head _)))))), (fun _ => 0), fun i p hi => (by
    match i, hi with
    | n + 0, hi => simp at hi), fun f hf => (by
    simp only [List.mem_cons, List.not_mem_nil, or_false] at hf
    rcases hf with rfl | rfl
    · exact f0
    · exact f1
    ), fun e he => (by cases he), ⟨hG.1, hG.2.1, hG.2.2.1, hG.2.2.2.1, hG.2.2.2.2.1, hG.2.2.2.2.2.1, hG.2.2.2.2.2.2.1, hG.2.2.2.2.2.2.2.1, hG.2.2.2.2.2.2.2.2.1, hG.2.2.2.2.2.2.2.2.2.1, hG.2.2.2.2.2.2.2.2.2.2.1, hG.2.2.2.2.2.2.2.2.2.2.2.1, hG.2.2.2.2.2.2.2.2.2.2.2.2.1, hG.2.2.2.2.2.2.2.2.2.2.2.2.2.1, hG.2.2.2.2.2.2.2.2.2.2.2.2.2.2.1, hG.2.2.2.2.2.2.2.2.2.2.2.2.2.2.2.1, hG.2.2.2.2.2.2.2.2.2.2.2.2.2.2.2.2.1, hG.2.2.2.2.2.2.2.2.2.2.2.2.2.2.2.2.2.1, hG.2.2.2.2.2.2.2.2.2.2.2.2.2.2.2.2.2.2.1, hG.2.2.2.2.2.2.2.2.2.2.2.2.2.2.2.2.2.2.2.1, hG.2.2.2.2.2.2.2.2.2.2.2.2.2.2.2.2.2.2.2.2.1, c21, hG.2.2.2.2.2.2.2.2.2.2.2.2.2.2.2.2.2.2.2.2.2.2.1, c23, hG.2.2.2.2.2.2.2.2.2.2.2.2.2.2.2.2.2.2.2.2.2.2.2.2⟩⟩
theorem sx_q_s_fndB_7 {γ : Nat → Int} {A : Nat → Nat → Int} {j : Nat} {y : Int} (hG : sx_G0 γ A) (f0 : 0 ≤ (-7) + (1 * (j : Int) + 0)) (f1 : 0 ≤ 7 + ((-1) * (j : Int) + 0)) (c21 : sx_gfn (γ 18514) (0 + 0) ((-1) + 0) (sx_au A 2 j y 2)) (c23 : sx_gn (γ 18520) (γ 18521) (γ 18522) (γ 18523) (γ 18524) (γ 18525) (γ 18526) (0 + (1 * y + 0)) (sx_au A 2 j y 2)) : ∃ a ∈ sx_r_s_fndB.2, ∃ w : Nat → Int, (∀ (i : Nat) p, a.1[i]? = some p → p.2.1 ≤ w i ∧ w i ≤ p.2.2) ∧ (∀ f ∈ a.2.1, 0 ≤ sx_d (sx_th γ (j : Int) y w) f) ∧ (∀ e, a.2.2.2.head? = some e → sx_d (sx_th γ (j : Int) y w) e = y) ∧ sx_G0 (sx_gu γ (sx_th γ (j : Int) y w) a.2.2.1) (if true = true then sx_au A 2 j y else A) := ⟨([], [((-7), [(19000, 1)]), (7, [(19000, (-1))])], [(18527, (0, [(19001, 1)])), (18515, (0, [])), (18516, ((-1), []))], []), List.Mem.tail _ (List.Mem.tail _ (List.Mem.tail _ (List.Mem.tail _ (List.Mem.tail _ (List.Mem.tail _ (List.Mem.tail _ (List.Mem.head _))))))), (fun _ => 0), fun i p hi => (by
    match i, hi with
    | n + 0, hi => simp at hi), fun f hf => (by
    simp only [List.mem_cons, List.not_mem_nil, or_false] at hf
    rcases hf with rfl | rfl
    · exact f0
    · exact f1
    ), fun e he => (by cases he), ⟨hG.1, hG.2.1, hG.2.2.1, hG.2.2.2.1, hG.2.2.2.2.1, hG.2.2.2.2.2.1, hG.2.2.2.2.2.2.1, hG.2.2.2.2.2.2.2.1, hG.2.2.2.2.2.2.2.2.1, hG.2.2.2.2.2.2.2.2.2.1, hG.2.2.2.2.2.2.2.2.2.2.1, hG.2.2.2.2.2.2.2.2.2.2.2.1, hG.2.2.2.2.2.2.2.2.2.2.2.2.1, hG.2.2.2.2.2.2.2.2.2.2.2.2.2.1, hG.2.2.2.2.2.2.2.2.2.2.2.2.2.2.1, hG.2.2.2.2.2.2.2.2.2.2.2.2.2.2.2.1, hG.2.2.2.2.2.2.2.2.2.2.2.2.2.2.2.2.1, hG.2.2.2.2.2.2.2.2.2.2.2.2.2.2.2.2.2.1, hG.2.2.2.2.2.2.2.2.2.2.2.2.2.2.2.2.2.2.1, hG.2.2.2.2.2.2.2.2.2.2.2.2.2.2.2.2.2.2.2.1, hG.2.2.2.2.2.2.2.2.2.2.2.2.2.2.2.2.2.2.2.2.1, c21, hG.2.2.2.2.2.2.2.2.2.2.2.2.2.2.2.2.2.2.2.2.2.2.1, c23, hG.2.2.2.2.2.2.2.2.2.2.2.2.2.2.2.2.2.2.2.2.2.2.2.2⟩⟩
theorem sx_q_s_tr_0 {γ : Nat → Int} {A : Nat → Nat → Int} {j : Nat} {y : Int} (hG : sx_G0 γ A) (c18 : sx_g0 (sx_au A 41 j y 41)) : ∃ a ∈ sx_r_s_tr.2, ∃ w : Nat → Int, (∀ (i : Nat) p, a.1[i]? = some p → p.2.1 ≤ w i ∧ w i ≤ p.2.2) ∧ (∀ f ∈ a.2.1, 0 ≤ sx_d (sx_th γ (j : Int) y w) f) ∧ (∀ e, a.2.2.2.head? = some e → sx_d (sx_th γ (j : Int) y w) e = y) ∧ sx_G0 (sx_gu γ (sx_th γ (j : Int) y w) a.2.2.1) (if true = true then sx_au A 41 j y else A) := ⟨([], [], [], []), List.Mem.head _, (fun _ => 0), fun i p hi => (by
    match i, hi with
    | n + 0, hi => simp at hi), fun f hf => (by cases hf), fun e he => (by cases he), ⟨hG.1, hG.2.1, hG.2.2.1, hG.2.2.2.1, hG.2.2.2.2.1, hG.2.2.2.2.2.1, hG.2.2.2.2.2.2.1, hG.2.2.2.2.2.2.2.1, hG.2.2.2.2.2.2.2.2.1, hG.2.2.2.2.2.2.2.2.2.1, hG.2.2.2.2.2.2.2.2.2.2.1, hG.2.2.2.2.2.2.2.2.2.2.2.1, hG.2.2.2.2.2.2.2.2.2.2.2.2.1, hG.2.2.2.2.2.2.2.2.2.2.2.2.2.1, hG.2.2.2.2.2.2.2.2.2.2.2.2.2.2.1, hG.2.2.2.2.2.2.2.2.2.2.2.2.2.2.2.1, hG.2.2.2.2.2.2.2.2.2.2.2.2.2.2.2.2.1, hG.2.2.2.2.2.2.2.2.2.2.2.2.2.2.2.2.2.1, c18, hG.2.2.2.2.2.2.2.2.2.2.2.2.2.2.2.2.2.2.2.1, hG.2.2.2.2.2.2.2.2.2.2.2.2.2.2.2.2.2.2.2.2.1, hG.2.2.2.2.2.2.2.2.2.2.2.2.2.2.2.2.2.2.2.2.2.1, hG.2.2.2.2.2.2.2.2.2.2.2.2.2.2.2.2.2.2.2.2.2.2.1, hG.2.2.2.2.2.2.2.2.2.2.2.2.2.2.2.2.2.2.2.2.2.2.2.1, hG.2.2.2.2.2.2.2.2.2.2.2.2.2.2.2.2.2.2.2.2.2.2.2.2⟩⟩
theorem sx_q_s_choicea_0 {γ : Nat → Int} {A : Nat → Nat → Int} {j : Nat} {y : Int} (hG : sx_G0 γ A) (f0 : 0 ≤ 0 + ((-1) * γ 18453 + (1 * (j : Int) + 0))) (f1 : 0 ≤ 0 + (1 * γ 18453 + ((-1) * (j : Int) + 0))) (c5 : sx_g4 (1 + (1 * γ 18453 + 0)) (sx_au A 76 j y 76)) : ∃ a ∈ sx_r_s_choicea.2, ∃ w : Nat → Int, (∀ (i : Nat) p, a.1[i]? = some p → p.2.1 ≤ w i ∧ w i ≤ p.2.2) ∧ (∀ f ∈ a.2.1, 0 ≤ sx_d (sx_th γ (j : Int) y w) f) ∧ (∀ e, a.2.2.2.head? = some e → sx_d (sx_th γ (j : Int) y w) e = y) ∧ sx_G0 (sx_gu γ (sx_th γ (j : Int) y w) a.2.2.1) (if true = true then sx_au A 76 j y else A) := ⟨([], [(0, [(18453, (-1)), (19000, 1)]), (0, [(18453, 1), (19000, (-1))])], [(18453, (1, [(18453, 1)]))], []), List.Mem.head _, (fun _ => 0), fun i p hi => (by
    match i, hi with
    | n + 0, hi => simp at hi), fun f hf => (by
    simp only [List.mem_cons, List.not_mem_nil, or_false] at hf
    rcases hf with rfl | rfl
    · exact f0
    · exact f1
    ), fun e he => (by cases he), ⟨hG.1, hG.2.1, hG.2.2.1, hG.2.2.2.1, hG.2.2.2.2.1, c5, hG.2.2.2.2.2.2.1, hG.2.2.2.2.2.2.2.1, hG.2.2.2.2.2.2.2.2.1, hG.2.2.2.2.2.2.2.2.2.1, hG.2.2.2.2.2.2.2.2.2.2.1, hG.2.2.2.2.2.2.2.2.2.2.2.1, hG.2.2.2.2.2.2.2.2.2.2.2.2.1, hG.2.2.2.2.2.2.2.2.2.2.2.2.2.1, hG.2.2.2.2.2.2.2.2.2.2.2.2.2.2.1, hG.2.2.2.2.2.2.2.2.2.2.2.2.2.2.2.1, hG.2.2.2.2.2.2.2.2.2.2.2.2.2.2.2.2.1, hG.2.2.2.2.2.2.2.2.2.2.2.2.2.2.2.2.2.1, hG.2.2.2.2.2.2.2.2.2.2.2.2.2.2.2.2.2.2.1, hG.2.2.2.2.2.2.2.2.2.2.2.2.2.2.2.2.2.2.2.1, hG.2.2.2.2.2.2.2.2.2.2.2.2.2.2.2.2.2.2.2.2.1, hG.2.2.2.2.2.2.2.2.2.2.2.2.2.2.2.2.2.2.2.2.2.1, hG.2.2.2.2.2.2.2.2.2.2.2.2.2.2.2.2.2.2.2.2.2.2.1, hG.2.2.2.2.2.2.2.2.2.2.2.2.2.2.2.2.2.2.2.2.2.2.2.1, hG.2.2.2.2.2.2.2.2.2.2.2.2.2.2.2.2.2.2.2.2.2.2.2.2⟩⟩
theorem sx_q_s_choicea_1 {γ : Nat → Int} {A : Nat → Nat → Int} {j : Nat} {y : Int} (hG : sx_G0 γ A) (f0 : 0 ≤ (-1) + (1 * γ 18453 + ((-1) * (j : Int) + 0))) (c5 : sx_g4 (γ 18453) (sx_au A 76 j y 76)) : ∃ a ∈ sx_r_s_choicea.2, ∃ w : Nat → Int, (∀ (i : Nat) p, a.1[i]? = some p → p.2.1 ≤ w i ∧ w i ≤ p.2.2) ∧ (∀ f ∈ a.2.1, 0 ≤ sx_d (sx_th γ (j : Int) y w) f) ∧ (∀ e, a.2.2.2.head? = some e → sx_d (sx_th γ (j : Int) y w) e = y) ∧ sx_G0 (sx_gu γ (sx_th γ (j : Int) y w) a.2.2.1) (if true = true then sx_au A 76 j y else A) := ⟨([], [((-1), [(18453, 1), (19000, (-1))])], [], []), List.Mem.tail _ (List.Mem.head _), (fun _ => 0), fun i p hi => (by
    match i, hi with
    | n + 0, hi => simp at hi), fun f hf => (by
    simp only [List.mem_cons, List.not_mem_nil, or_false] at hf
    rcases hf with rfl
    · exact f0
    ), fun e he => (by cases he), ⟨hG.1, hG.2.1, hG.2.2.1, hG.2.2.2.1, hG.2.2.2.2.1, c5, hG.2.2.2.2.2.2.1, hG.2.2.2.2.2.2.2.1, hG.2.2.2.2.2.2.2.2.1, hG.2.2.2.2.2.2.2.2.2.1, hG.2.2.2.2.2.2.2.2.2.2.1, hG.2.2.2.2.2.2.2.2.2.2.2.1, hG.2.2.2.2.2.2.2.2.2.2.2.2.1, hG.2.2.2.2.2.2.2.2.2.2.2.2.2.1, hG.2.2.2.2.2.2.2.2.2.2.2.2.2.2.1, hG.2.2.2.2.2.2.2.2.2.2.2.2.2.2.2.1, hG.2.2.2.2.2.2.2.2.2.2.2.2.2.2.2.2.1, hG.2.2.2.2.2.2.2.2.2.2.2.2.2.2.2.2.2.1, hG.2.2.2.2.2.2.2.2.2.2.2.2.2.2.2.2.2.2.1, hG.2.2.2.2.2.2.2.2.2.2.2.2.2.2.2.2.2.2.2.1, hG.2.2.2.2.2.2.2.2.2.2.2.2.2.2.2.2.2.2.2.2.1, hG.2.2.2.2.2.2.2.2.2.2.2.2.2.2.2.2.2.2.2.2.2.1, hG.2.2.2.2.2.2.2.2.2.2.2.2.2.2.2.2.2.2.2.2.2.2.1, hG.2.2.2.2.2.2.2.2.2.2.2.2.2.2.2.2.2.2.2.2.2.2.2.1, hG.2.2.2.2.2.2.2.2.2.2.2.2.2.2.2.2.2.2.2.2.2.2.2.2⟩⟩
theorem sx_q_s_choiceb_0 {γ : Nat → Int} {A : Nat → Nat → Int} {j : Nat} {y : Int} (hG : sx_G0 γ A) (c5 : sx_g4 (γ 18453) (sx_au A 76 j y 76)) : ∃ a ∈ sx_r_s_choiceb.2, ∃ w : Nat → Int, (∀ (i : Nat) p, a.1[i]? = some p → p.2.1 ≤ w i ∧ w i ≤ p.2.2) ∧ (∀ f ∈ a.2.1, 0 ≤ sx_d (sx_th γ (j : Int) y w) f) ∧ (∀ e, a.2.2.2.head? = some e → sx_d (sx_th γ (j : Int) y w) e = y) ∧ sx_G0 (sx_gu γ (sx_th γ (j : Int) y w) a.2.2.1) (if true = true then sx_au A 76 j y else A) := ⟨([], [], [], []), List.Mem.head _, (fun _ => 0), fun i p hi => (by
    match i, hi with
    | n + 0, hi => simp at hi), fun f hf => (by cases hf), fun e he => (by cases he), ⟨hG.1, hG.2.1, hG.2.2.1, hG.2.2.2.1, hG.2.2.2.2.1, c5, hG.2.2.2.2.2.2.1, hG.2.2.2.2.2.2.2.1, hG.2.2.2.2.2.2.2.2.1, hG.2.2.2.2.2.2.2.2.2.1, hG.2.2.2.2.2.2.2.2.2.2.1, hG.2.2.2.2.2.2.2.2.2.2.2.1, hG.2.2.2.2.2.2.2.2.2.2.2.2.1, hG.2.2.2.2.2.2.2.2.2.2.2.2.2.1, hG.2.2.2.2.2.2.2.2.2.2.2.2.2.2.1, hG.2.2.2.2.2.2.2.2.2.2.2.2.2.2.2.1, hG.2.2.2.2.2.2.2.2.2.2.2.2.2.2.2.2.1, hG.2.2.2.2.2.2.2.2.2.2.2.2.2.2.2.2.2.1, hG.2.2.2.2.2.2.2.2.2.2.2.2.2.2.2.2.2.2.1, hG.2.2.2.2.2.2.2.2.2.2.2.2.2.2.2.2.2.2.2.1, hG.2.2.2.2.2.2.2.2.2.2.2.2.2.2.2.2.2.2.2.2.1, hG.2.2.2.2.2.2.2.2.2.2.2.2.2.2.2.2.2.2.2.2.2.1, hG.2.2.2.2.2.2.2.2.2.2.2.2.2.2.2.2.2.2.2.2.2.2.1, hG.2.2.2.2.2.2.2.2.2.2.2.2.2.2.2.2.2.2.2.2.2.2.2.1, hG.2.2.2.2.2.2.2.2.2.2.2.2.2.2.2.2.2.2.2.2.2.2.2.2⟩⟩
theorem sx_q_s_choicec_0 {γ : Nat → Int} {A : Nat → Nat → Int} {j : Nat} {y : Int} (hG : sx_G0 γ A) (c5 : sx_g4 (0 + (1 * (j : Int) + 0)) (sx_au A 76 j y 76)) : ∃ a ∈ sx_r_s_choicec.2, ∃ w : Nat → Int, (∀ (i : Nat) p, a.1[i]? = some p → p.2.1 ≤ w i ∧ w i ≤ p.2.2) ∧ (∀ f ∈ a.2.1, 0 ≤ sx_d (sx_th γ (j : Int) y w) f) ∧ (∀ e, a.2.2.2.head? = some e → sx_d (sx_th γ (j : Int) y w) e = y) ∧ sx_G0 (sx_gu γ (sx_th γ (j : Int) y w) a.2.2.1) (if true = true then sx_au A 76 j y else A) := ⟨([], [], [(18453, (0, [(19000, 1)]))], []), List.Mem.head _, (fun _ => 0), fun i p hi => (by
    match i, hi with
    | n + 0, hi => simp at hi), fun f hf => (by cases hf), fun e he => (by cases he), ⟨hG.1, hG.2.1, hG.2.2.1, hG.2.2.2.1, hG.2.2.2.2.1, c5, hG.2.2.2.2.2.2.1, hG.2.2.2.2.2.2.2.1, hG.2.2.2.2.2.2.2.2.1, hG.2.2.2.2.2.2.2.2.2.1, hG.2.2.2.2.2.2.2.2.2.2.1, hG.2.2.2.2.2.2.2.2.2.2.2.1, hG.2.2.2.2.2.2.2.2.2.2.2.2.1, hG.2.2.2.2.2.2.2.2.2.2.2.2.2.1, hG.2.2.2.2.2.2.2.2.2.2.2.2.2.2.1, hG.2.2.2.2.2.2.2.2.2.2.2.2.2.2.2.1, hG.2.2.2.2.2.2.2.2.2.2.2.2.2.2.2.2.1, hG.2.2.2.2.2.2.2.2.2.2.2.2.2.2.2.2.2.1, hG.2.2.2.2.2.2.2.2.2.2.2.2.2.2.2.2.2.2.1, hG.2.2.2.2.2.2.2.2.2.2.2.2.2.2.2.2.2.2.2.1, hG.2.2.2.2.2.2.2.2.2.2.2.2.2.2.2.2.2.2.2.2.1, hG.2.2.2.2.2.2.2.2.2.2.2.2.2.2.2.2.2.2.2.2.2.1, hG.2.2.2.2.2.2.2.2.2.2.2.2.2.2.2.2.2.2.2.2.2.2.1, hG.2.2.2.2.2.2.2.2.2.2.2.2.2.2.2.2.2.2.2.2.2.2.2.1, hG.2.2.2.2.2.2.2.2.2.2.2.2.2.2.2.2.2.2.2.2.2.2.2.2⟩⟩
theorem sx_q_s_choiced_0 {γ : Nat → Int} {A : Nat → Nat → Int} {j : Nat} {y : Int} (hG : sx_G0 γ A) (c5 : sx_g4 (0 + 0) (sx_au A 76 j y 76)) : ∃ a ∈ sx_r_s_choiced.2, ∃ w : Nat → Int, (∀ (i : Nat) p, a.1[i]? = some p → p.2.1 ≤ w i ∧ w i ≤ p.2.2) ∧ (∀ f ∈ a.2.1, 0 ≤ sx_d (sx_th γ (j : Int) y w) f) ∧ (∀ e, a.2.2.2.head? = some e → sx_d (sx_th γ (j : Int) y w) e = y) ∧ sx_G0 (sx_gu γ (sx_th γ (j : Int) y w) a.2.2.1) (if true = true then sx_au A 76 j y else A) := ⟨([], [], [(18453, (0, []))], []), List.Mem.head _, (fun _ => 0), fun i p hi => (by
    match i, hi with
    | n + 0, hi => simp at hi), fun f hf => (by cases hf), fun e he => (by cases he), ⟨hG.1, hG.2.1, hG.2.2.1, hG.2.2.2.1, hG.2.2.2.2.1, c5, hG.2.2.2.2.2.2.1, hG.2.2.2.2.2.2.2.1, hG.2.2.2.2.2.2.2.2.1, hG.2.2.2.2.2.2.2.2.2.1, hG.2.2.2.2.2.2.2.2.2.2.1, hG.2.2.2.2.2.2.2.2.2.2.2.1, hG.2.2.2.2.2.2.2.2.2.2.2.2.1, hG.2.2.2.2.2.2.2.2.2.2.2.2.2.1, hG.2.2.2.2.2.2.2.2.2.2.2.2.2.2.1, hG.2.2.2.2.2.2.2.2.2.2.2.2.2.2.2.1, hG.2.2.2.2.2.2.2.2.2.2.2.2.2.2.2.2.1, hG.2.2.2.2.2.2.2.2.2.2.2.2.2.2.2.2.2.1, hG.2.2.2.2.2.2.2.2.2.2.2.2.2.2.2.2.2.2.1, hG.2.2.2.2.2.2.2.2.2.2.2.2.2.2.2.2.2.2.2.1, hG.2.2.2.2.2.2.2.2.2.2.2.2.2.2.2.2.2.2.2.2.1, hG.2.2.2.2.2.2.2.2.2.2.2.2.2.2.2.2.2.2.2.2.2.1, hG.2.2.2.2.2.2.2.2.2.2.2.2.2.2.2.2.2.2.2.2.2.2.1, hG.2.2.2.2.2.2.2.2.2.2.2.2.2.2.2.2.2.2.2.2.2.2.2.1, hG.2.2.2.2.2.2.2.2.2.2.2.2.2.2.2.2.2.2.2.2.2.2.2.2⟩⟩
theorem sx_q_s_openeda_0 {γ : Nat → Int} {A : Nat → Nat → Int} {j : Nat} {y : Int} (hG : sx_G0 γ A) (f0 : 0 ≤ 0 + ((-1) * γ 18454 + (1 * (j : Int) + 0))) (f1 : 0 ≤ 0 + (1 * γ 18454 + ((-1) * (j : Int) + 0))) (c6 : sx_g5 (1 + (1 * γ 18454 + 0)) (sx_au A 77 j y 77)) : ∃ a ∈ sx_r_s_openeda.2, ∃ w : Nat → Int, (∀ (i : Nat) p, a.1[i]? = some p → p.2.1 ≤ w i ∧ w i ≤ p.2.2) ∧ (∀ f ∈ a.2.1, 0 ≤ sx_d (sx_th γ (j : Int) y w) f) ∧ (∀ e, a.2.2.2.head? = some e → sx_d (sx_th γ (j : Int) y w) e = y) ∧ sx_G0 (sx_gu γ (sx_th γ (j : Int) y w) a.2.2.1) (if true = true then sx_au A 77 j y else A) := ⟨([], [(0, [(18454, (-1)), (19000, 1)]), (0, [(18454, 1), (19000, (-1))])], [(18454, (1, [(18454, 1)]))], []), List.Mem.head _, (fun _ => 0), fun i p hi => (by
    match i, hi with
    | n + 0, hi => simp at hi), fun f hf => (by
    simp only [List.mem_cons, List.not_mem_nil, or_false] at hf
    rcases hf with rfl | rfl
    · exact f0
    · exact f1
    ), fun e he => (by cases he), ⟨hG.1, hG.2.1, hG.2.2.1, hG.2.2.2.1, hG.2.2.2.2.1, hG.2.2.2.2.2.1, c6, hG.2.2.2.2.2.2.2.1, hG.2.2.2.2.2.2.2.2.1, hG.2.2.2.2.2.2.2.2.2.1, hG.2.2.2.2.2.2.2.2.2.2.1, hG.2.2.2.2.2.2.2.2.2.2.2.1, hG.2.2.2.2.2.2.2.2.2.2.2.2.1, hG.2.2.2.2.2.2.2.2.2.2.2.2.2.1, hG.2.2.2.2.2.2.2.2.2.2.2.2.2.2.1, hG.2.2.2.2.2.2.2.2.2.2.2.2.2.2.2.1, hG.2.2.2.2.2.2.2.2.2.2.2.2.2.2.2.2.1, hG.2.2.2.2.2.2.2.2.2.2.2.2.2.2.2.2.2.1, hG.2.2.2.2.2.2.2.2.2.2.2.2.2.2.2.2.2.2.1, hG.2.2.2.2.2.2.2.2.2.2.2.2.2.2.2.2.2.2.2.1, hG.2.2.2.2.2.2.2.2.2.2.2.2.2.2.2.2.2.2.2.2.1, hG.2.2.2.2.2.2.2.2.2.2.2.2.2.2.2.2.2.2.2.2.2.1, hG.2.2.2.2.2.2.2.2.2.2.2.2.2.2.2.2.2.2.2.2.2.2.1, hG.2.2.2.2.2.2.2.2.2.2.2.2.2.2.2.2.2.2.2.2.2.2.2.1, hG.2.2.2.2.2.2.2.2.2.2.2.2.2.2.2.2.2.2.2.2.2.2.2.2⟩⟩
theorem sx_q_s_openeda_1 {γ : Nat → Int} {A : Nat → Nat → Int} {j : Nat} {y : Int} (hG : sx_G0 γ A) (f0 : 0 ≤ (-1) + (1 * γ 18454 + ((-1) * (j : Int) + 0))) (c6 : sx_g5 (γ 18454) (sx_au A 77 j y 77)) : ∃ a ∈ sx_r_s_openeda.2, ∃ w : Nat → Int, (∀ (i : Nat) p, a.1[i]? = some p → p.2.1 ≤ w i ∧ w i ≤ p.2.2) ∧ (∀ f ∈ a.2.1, 0 ≤ sx_d (sx_th γ (j : Int) y w) f) ∧ (∀ e, a.2.2.2.head? = some e → sx_d (sx_th γ (j : Int) y w) e = y) ∧ sx_G0 (sx_gu γ (sx_th γ (j : Int) y w) a.2.2.1) (if true = true then sx_au A 77 j y else A) := ⟨([], [((-1), [(18454, 1), (19000, (-1))])], [], []), List.Mem.tail _ (List.Mem.head _), (fun _ => 0), fun i p hi => (by
    match i, hi with
    | n + 0, hi => simp at hi), fun f hf => (by
    simp only [List.mem_cons, List.not_mem_nil, or_false] at hf
    rcases hf with rfl
    · exact f0
    ), fun e he => (by cases he), ⟨hG.1, hG.2.1, hG.2.2.1, hG.2.2.2.1, hG.2.2.2.2.1, hG.2.2.2.2.2.1, c6, hG.2.2.2.2.2.2.2.1, hG.2.2.2.2.2.2.2.2.1, hG.2.2.2.2.2.2.2.2.2.1, hG.2.2.2.2.2.2.2.2.2.2.1, hG.2.2.2.2.2.2.2.2.2.2.2.1, hG.2.2.2.2.2.2.2.2.2.2.2.2.1, hG.2.2.2.2.2.2.2.2.2.2.2.2.2.1, hG.2.2.2.2.2.2.2.2.2.2.2.2.2.2.1, hG.2.2.2.2.2.2.2.2.2.2.2.2.2.2.2.1, hG.2.2.2.2.2.2.2.2.2.2.2.2.2.2.2.2.1, hG.2.2.2.2.2.2.2.2.2.2.2.2.2.2.2.2.2.1, hG.2.2.2.2.2.2.2.2.2.2.2.2.2.2.2.2.2.2.1, hG.2.2.2.2.2.2.2.2.2.2.2.2.2.2.2.2.2.2.2.1, hG.2.2.2.2.2.2.2.2.2.2.2.2.2.2.2.2.2.2.2.2.1, hG.2.2.2.2.2.2.2.2.2.2.2.2.2.2.2.2.2.2.2.2.2.1, hG.2.2.2.2.2.2.2.2.2.2.2.2.2.2.2.2.2.2.2.2.2.2.1, hG.2.2.2.2.2.2.2.2.2.2.2.2.2.2.2.2.2.2.2.2.2.2.2.1, hG.2.2.2.2.2.2.2.2.2.2.2.2.2.2.2.2.2.2.2.2.2.2.2.2⟩⟩
theorem sx_q_s_openedb_0 {γ : Nat → Int} {A : Nat → Nat → Int} {j : Nat} {y : Int} (hG : sx_G0 γ A) (c6 : sx_g5 (γ 18454) (sx_au A 77 j y 77)) : ∃ a ∈ sx_r_s_openedb.2, ∃ w : Nat → Int, (∀ (i : Nat) p, a.1[i]? = some p → p.2.1 ≤ w i ∧ w i ≤ p.2.2) ∧ (∀ f ∈ a.2.1, 0 ≤ sx_d (sx_th γ (j : Int) y w) f) ∧ (∀ e, a.2.2.2.head? = some e → sx_d (sx_th γ (j : Int) y w) e = y) ∧ sx_G0 (sx_gu γ (sx_th γ (j : Int) y w) a.2.2.1) (if true = true then sx_au A 77 j y else A) := ⟨([], [], [], []), List.Mem.head _, (fun _ => 0), fun i p hi => (by
    match i, hi with
    | n + 0, hi => simp at hi), fun f hf => (by cases hf), fun e he => (by cases he), ⟨hG.1, hG.2.1, hG.2.2.1, hG.2.2.2.1, hG.2.2.2.2.1, hG.2.2.2.2.2.1, c6, hG.2.2.2.2.2.2.2.1, hG.2.2.2.2.2.2.2.2.1, hG.2.2.2.2.2.2.2.2.2.1, hG.2.2.2.2.2.2.2.2.2.2.1, hG.2.2.2.2.2.2.2.2.2.2.2.1, hG.2.2.2.2.2.2.2.2.2.2.2.2.1, hG.2.2.2.2.2.2.2.2.2.2.2.2.2.1, hG.2.2.2.2.2.2.2.2.2.2.2.2.2.2.1, hG.2.2.2.2.2.2.2.2.2.2.2.2.2.2.2.1, hG.2.2.2.2.2.2.2.2.2.2.2.2.2.2.2.2.1, hG.2.2.2.2.2.2.2.2.2.2.2.2.2.2.2.2.2.1, hG.2.2.2.2.2.2.2.2.2.2.2.2.2.2.2.2.2.2.1, hG.2.2.2.2.2.2.2.2.2.2.2.2.2.2.2.2.2.2.2.1, hG.2.2.2.2.2.2.2.2.2.2.2.2.2.2.2.2.2.2.2.2.1, hG.2.2.2.2.2.2.2.2.2.2.2.2.2.2.2.2.2.2.2.2.2.1, hG.2.2.2.2.2.2.2.2.2.2.2.2.2.2.2.2.2.2.2.2.2.2.1, hG.2.2.2.2.2.2.2.2.2.2.2.2.2.2.2.2.2.2.2.2.2.2.2.1, hG.2.2.2.2.2.2.2.2.2.2.2.2.2.2.2.2.2.2.2.2.2.2.2.2⟩⟩
theorem sx_q_s_openedc_0 {γ : Nat → Int} {A : Nat → Nat → Int} {j : Nat} {y : Int} (hG : sx_G0 γ A) (c6 : sx_g5 (0 + (1 * (j : Int) + 0)) (sx_au A 77 j y 77)) : ∃ a ∈ sx_r_s_openedc.2, ∃ w : Nat → Int, (∀ (i : Nat) p, a.1[i]? = some p → p.2.1 ≤ w i ∧ w i ≤ p.2.2) ∧ (∀ f ∈ a.2.1, 0 ≤ sx_d (sx_th γ (j : Int) y w) f) ∧ (∀ e, a.2.2.2.head? = some e → sx_d (sx_th γ (j : Int) y w) e = y) ∧ sx_G0 (sx_gu γ (sx_th γ (j : Int) y w) a.2.2.1) (if true = true then sx_au A 77 j y else A) := ⟨([], [], [(18454, (0, [(19000, 1)]))], []), List.Mem.head _, (fun _ => 0), fun i p hi => (by
    match i, hi with
    | n + 0, hi => simp at hi), fun f hf => (by cases hf), fun e he => (by cases he), ⟨hG.1, hG.2.1, hG.2.2.1, hG.2.2.2.1, hG.2.2.2.2.1, hG.2.2.2.2.2.1, c6, hG.2.2.2.2.2.2.2.1, hG.2.2.2.2.2.2.2.2.1, hG.2.2.2.2.2.2.2.2.2.1, hG.2.2.2.2.2.2.2.2.2.2.1, hG.2.2.2.2.2.2.2.2.2.2.2.1, hG.2.2.2.2.2.2.2.2.2.2.2.2.1, hG.2.2.2.2.2.2.2.2.2.2.2.2.2.1, hG.2.2.2.2.2.2.2.2.2.2.2.2.2.2.1, hG.2.2.2.2.2.2.2.2.2.2.2.2.2.2.2.1, hG.2.2.2.2.2.2.2.2.2.2.2.2.2.2.2.2.1, hG.2.2.2.2.2.2.2.2.2.2.2.2.2.2.2.2.2.1, hG.2.2.2.2.2.2.2.2.2.2.2.2.2.2.2.2.2.2.1, hG.2.2.2.2.2.2.2.2.2.2.2.2.2.2.2.2.2.2.2.1, hG.2.2.2.2.2.2.2.2.2.2.2.2.2.2.2.2.2.2.2.2.1, hG.2.2.2.2.2.2.2.2.2.2.2.2.2.2.2.2.2.2.2.2.2.1, hG.2.2.2.2.2.2.2.2.2.2.2.2.2.2.2.2.2.2.2.2.2.2.1, hG.2.2.2.2.2.2.2.2.2.2.2.2.2.2.2.2.2.2.2.2.2.2.2.1, hG.2.2.2.2.2.2.2.2.2.2.2.2.2.2.2.2.2.2.2.2.2.2.2.2⟩⟩
theorem sx_q_s_openedd_0 {γ : Nat → Int} {A : Nat → Nat → Int} {j : Nat} {y : Int} (hG : sx_G0 γ A) (c6 : sx_g5 (0 + 0) (sx_au A 77 j y 77)) : ∃ a ∈ sx_r_s_openedd.2, ∃ w : Nat → Int, (∀ (i : Nat) p, a.1[i]? = some p → p.2.1 ≤ w i ∧ w i ≤ p.2.2) ∧ (∀ f ∈ a.2.1, 0 ≤ sx_d (sx_th γ (j : Int) y w) f) ∧ (∀ e, a.2.2.2.head? = some e → sx_d (sx_th γ (j : Int) y w) e = y) ∧ sx_G0 (sx_gu γ (sx_th γ (j : Int) y w) a.2.2.1) (if true = true then sx_au A 77 j y else A) := ⟨([], [], [(18454, (0, []))], []), List.Mem.head _, (fun _ => 0), fun i p hi => (by
    match i, hi with
    | n + 0, hi => simp at hi), fun f hf => (by cases hf), fun e he => (by cases he), ⟨hG.1, hG.2.1, hG.2.2.1, hG.2.2.2.1, hG.2.2.2.2.1, hG.2.2.2.2.2.1, c6, hG.2.2.2.2.2.2.2.1, hG.2.2.2.2.2.2.2.2.1, hG.2.2.2.2.2.2.2.2.2.1, hG.2.2.2.2.2.2.2.2.2.2.1, hG.2.2.2.2.2.2.2.2.2.2.2.1, hG.2.2.2.2.2.2.2.2.2.2.2.2.1, hG.2.2.2.2.2.2.2.2.2.2.2.2.2.1, hG.2.2.2.2.2.2.2.2.2.2.2.2.2.2.1, hG.2.2.2.2.2.2.2.2.2.2.2.2.2.2.2.1, hG.2.2.2.2.2.2.2.2.2.2.2.2.2.2.2.2.1, hG.2.2.2.2.2.2.2.2.2.2.2.2.2.2.2.2.2.1, hG.2.2.2.2.2.2.2.2.2.2.2.2.2.2.2.2.2.2.1, hG.2.2.2.2.2.2.2.2.2.2.2.2.2.2.2.2.2.2.2.1, hG.2.2.2.2.2.2.2.2.2.2.2.2.2.2.2.2.2.2.2.2.1, hG.2.2.2.2.2.2.2.2.2.2.2.2.2.2.2.2.2.2.2.2.2.1, hG.2.2.2.2.2.2.2.2.2.2.2.2.2.2.2.2.2.2.2.2.2.2.1, hG.2.2.2.2.2.2.2.2.2.2.2.2.2.2.2.2.2.2.2.2.2.2.2.1, hG.2.2.2.2.2.2.2.2.2.2.2.2.2.2.2.2.2.2.2.2.2.2.2.2⟩⟩
theorem sx_q_s_sort_0 {γ : Nat → Int} {A : Nat → Nat → Int} {j : Nat} {y : Int} (hG : sx_G0 γ A) (f0 : 0 ≤ 0 + (1 * (j : Int) + 0)) (f1 : 0 ≤ 0 + ((-1) * (j : Int) + 0)) (c16 : sx_g9 (0 + (1 * y + 0)) (γ 18502) (γ 18503) (γ 18504) (sx_au A 101 j y 101)) : ∃ a ∈ sx_r_s_sort.2, ∃ w : Nat → Int, (∀ (i : Nat) p, a.1[i]? = some p → p.2.1 ≤ w i ∧ w i ≤ p.2.2) ∧ (∀ f ∈ a.2.1, 0 ≤ sx_d (sx_th γ (j : Int) y w) f) ∧ (∀ e, a.2.2.2.head? = some e → sx_d (sx_th γ (j : Int) y w) e = y) ∧ sx_G0 (sx_gu γ (sx_th γ (j : Int) y w) a.2.2.1) (if true = true then sx_au A 101 j y else A) := ⟨([], [(0, [(19000, 1)]), (0, [(19000, (-1))])], [(18501, (0, [(19001, 1)]))], []), List.Mem.head _, (fun _ => 0), fun i p hi => (by
    match i, hi with
    | n + 0, hi => simp at hi), fun f hf => (by
    simp only [List.mem_cons, List.not_mem_nil, or_false] at hf
    rcases hf with rfl | rfl
    · exact f0
    · exact f1
    ), fun e he => (by cases he), ⟨hG.1, hG.2.1, hG.2.2.1, hG.2.2.2.1, hG.2.2.2.2.1, hG.2.2.2.2.2.1, hG.2.2.2.2.2.2.1, hG.2.2.2.2.2.2.2.1, hG.2.2.2.2.2.2.2.2.1, hG.2.2.2.2.2.2.2.2.2.1, hG.2.2.2.2.2.2.2.2.2.2.1, hG.2.2.2.2.2.2.2.2.2.2.2.1, hG.2.2.2.2.2.2.2.2.2.2.2.2.1, hG.2.2.2.2.2.2.2.2.2.2.2.2.2.1, hG.2.2.2.2.2.2.2.2.2.2.2.2.2.2.1, hG.2.2.2.2.2.2.2.2.2.2.2.2.2.2.2.1, c16, hG.2.2.2.2.2.2.2.2.2.2.2.2.2.2.2.2.2.1, hG.2.2.2.2.2.2.2.2.2.2.2.2.2.2.2.2.2.2.1, hG.2.2.2.2.2.2.2.2.2.2.2.2.2.2.2.2.2.2.2.1, hG.2.2.2.2.2.2.2.2.2.2.2.2.2.2.2.2.2.2.2.2.1, hG.2.2.2.2.2.2.2.2.2.2.2.2.2.2.2.2.2.2.2.2.2.1, hG.2.2.2.2.2.2.2.2.2.2.2.2.2.2.2.2.2.2.2.2.2.2.1, hG.2.2.2.2.2.2.2.2.2.2.2.2.2.2.2.2.2.2.2.2.2.2.2.1, hG.2.2.2.2.2.2.2.2.2.2.2.2.2.2.2.2.2.2.2.2.2.2.2.2⟩⟩
theorem sx_q_s_sort_1 {γ : Nat → Int} {A : Nat → Nat → Int} {j : Nat} {y : Int} (hG : sx_G0 γ A) (f0 : 0 ≤ (-1) + (1 * (j : Int) + 0)) (f1 : 0 ≤ 1 + ((-1) * (j : Int) + 0)) (c16 : sx_g9 (γ 18501) (0 + (1 * y + 0)) (γ 18503) (γ 18504) (sx_au A 101 j y 101)) : ∃ a ∈ sx_r_s_sort.2, ∃ w : Nat → Int, (∀ (i : Nat) p, a.1[i]? = some p → p.2.1 ≤ w i ∧ w i ≤ p.2.2) ∧ (∀ f ∈ a.2.1, 0 ≤ sx_d (sx_th γ (j : Int) y w) f) ∧ (∀ e, a.2.2.2.head? = some e → sx_d (sx_th γ (j : Int) y w) e = y) ∧ sx_G0 (sx_gu γ (sx_th γ (j : Int) y w) a.2.2.1) (if true = true then sx_au A 101 j y else A) := ⟨([], [((-1), [(19000, 1)]), (1, [(19000, (-1))])], [(18502, (0, [(19001, 1)]))], []), List.Mem.tail _ (List.Mem.head _), (fun _ => 0), fun i p hi => (by
    match i, hi with
    | n + 0, hi => simp at hi), fun f hf => (by
    simp only [List.mem_cons, List.not_mem_nil, or_false] at hf
    rcases hf with rfl | rfl
    · exact f0
    · exact f1
    ), fun e he => (by cases he), ⟨hG.1, hG.2.1, hG.2.2.1, hG.2.2.2.1, hG.2.2.2.2.1, hG.2.2.2.2.2.1, hG.2.2.2.2.2.2.1, hG.2.2.2.2.2.2.2.1, hG.2.2.2.2.2.2.2.2.1, hG.2.2.2.2.2.2.2.2.2.1, hG.2.2.2.2.2.2.2.2.2.2.1, hG.2.2.2.2.2.2.2.2.2.2.2.1, hG.2.2.2.2.2.2.2.2.2.2.2.2.1, hG.2.2.2.2.2.2.2.2.2.2.2.2.2.1, hG.2.2.2.2.2.2.2.2.2.2.2.2.2.2.1, hG.2.2.2.2.2.2.2.2.2.2.2.2.2.2.2.1, c16, hG.2.2.2.2.2.2.2.2.2.2.2.2.2.2.2.2.2.1, hG.2.2.2.2.2.2.2.2.2.2.2.2.2.2.2.2.2.2.1, hG.2.2.2.2.2.2.2.2.2.2.2.2.2.2.2.2.2.2.2.1, hG.2.2.2.2.2.2.2.2.2.2.2.2.2.2.2.2.2.2.2.2.1, hG.2.2.2.2.2.2.2.2.2.2.2.2.2.2.2.2.2.2.2.2.2.1, hG.2.2.2.2.2.2.2.2.2.2.2.2.2.2.2.2.2.2.2.2.2.2.1, hG.2.2.2.2.2.2.2.2.2.2.2.2.2.2.2.2.2.2.2.2.2.2.2.1, hG.2.2.2.2.2.2.2.2.2.2.2.2.2.2.2.2.2.2.2.2.2.2.2.2⟩⟩
theorem sx_q_s_sort_2 {γ : Nat → Int} {A : Nat → Nat → Int} {j : Nat} {y : Int} (hG : sx_G0 γ A) (f0 : 0 ≤ (-2) + (1 * (j : Int) + 0)) (f1 : 0 ≤ 2 + ((-1) * (j : Int) + 0)) (c16 : sx_g9 (γ 18501) (γ 18502) (0 + (1 * y + 0)) (γ 18504) (sx_au A 101 j y 101)) : ∃ a ∈ sx_r_s_sort.2, ∃ w : Nat → Int, (∀ (i : Nat) p, a.1[i]? = some p → p.2.1 ≤ w i ∧ w i ≤ p.2.2) ∧ (∀ f ∈ a.2.1, 0 ≤ sx_d (sx_th γ (j : Int) y w) f) ∧ (∀ e, a.2.2.2.head? = some e → sx_d (sx_th γ (j : Int) y w) e = y) ∧ sx_G0 (sx_gu γ (sx_th γ (j : Int) y w) a.2.2.1) (if true = true then sx_au A 101 j y else A) := ⟨([], [((-2), [(19000, 1)]), (2, [(19000, (-1))])], [(18503, (0, [(19001, 1)]))], []), List.Mem.tail _ (List.Mem.tail _ (List.Mem.head _)), (fun _ => 0), fun i p hi => (by
    match i, hi with
    | n + 0, hi => simp at hi), fun f hf => (by
    simp only [List.mem_cons, List.not_mem_nil, or_false] at hf
    rcases hf with rfl | rfl
    · exact f0
    · exact f1
    ), fun e he => (by cases he), ⟨hG.1, hG.2.1, hG.2.2.1, hG.2.2.2.1, hG.2.2.2.2.1, hG.2.2.2.2.2.1, hG.2.2.2.2.2.2.1, hG.2.2.2.2.2.2.2.1, hG.2.2.2.2.2.2.2.2.1, hG.2.2.2.2.2.2.2.2.2.1, hG.2.2.2.2.2.2.2.2.2.2.1, hG.2.2.2.2.2.2.2.2.2.2.2.1, hG.2.2.2.2.2.2.2.2.2.2.2.2.1, hG.2.2.2.2.2.2.2.2.2.2.2.2.2.1, hG.2.2.2.2.2.2.2.2.2.2.2.2.2.2.1, hG.2.2.2.2.2.2.2.2.2.2.2.2.2.2.2.1, c16, hG.2.2.2.2.2.2.2.2.2.2.2.2.2.2.2.2.2.1, hG.2.2.2.2.2.2.2.2.2.2.2.2.2.2.2.2.2.2.1, hG.2.2.2.2.2.2.2.2.2.2.2.2.2.2.2.2.2.2.2.1, hG.2.2.2.2.2.2.2.2.2.2.2.2.2.2.2.2.2.2.2.2.1, hG.2.2.2.2.2.2.2.2.2.2.2.2.2.2.2.2.2.2.2.2.2.1, hG.2.2.2.2.2.2.2.2.2.2.2.2.2.2.2.2.2.2.2.2.2.2.1, hG.2.2.2.2.2.2.2.2.2.2.2.2.2.2.2.2.2.2.2.2.2.2.2.1, hG.2.2.2.2.2.2.2.2.2.2.2.2.2.2.2.2.2.2.2.2.2.2.2.2⟩⟩
theorem sx_q_s_sort_3 {γ : Nat → Int} {A : Nat → Nat → Int} {j : Nat} {y : Int} (hG : sx_G0 γ A) (f0 : 0 ≤ (-3) + (1 * (j : Int) + 0)) (f1 : 0 ≤ 3 + ((-1) * (j : Int) + 0)) (c16 : sx_g9 (γ 18501) (γ 18502) (γ 18503) (0 + (1 * y + 0)) (sx_au A 101 j y 101)) : ∃ a ∈ sx_r_s_sort.2, ∃ w : Nat → Int, (∀ (i : Nat) p, a.1[i]? = some p → p.2.1 ≤ w i ∧ w i ≤ p.2.2) ∧ (∀ f ∈ a.2.1, 0 ≤ sx_d (sx_th γ (j : Int) y w) f) ∧ (∀ e, a.2.2.2.head? = some e → sx_d (sx_th γ (j : Int) y w) e = y) ∧ sx_G0 (sx_gu γ (sx_th γ (j : Int) y w) a.2.2.1) (if true = true then sx_au A 101 j y else A) := ⟨([], [((-3), [(19000, 1)]), (3, [(19000, (-1))])], [(18504, (0, [(19001, 1)]))], []), List.Mem.tail _ (List.Mem.tail _ (List.Mem.tail _ (List.Mem.head _))), (fun _ => 0), fun i p hi => (by
    match i, hi with
    | n + 0, hi => simp at hi), fun f hf => (by
    simp only [List.mem_cons, List.not_mem_nil, or_false] at hf
    rcases hf with rfl | rfl
    · exact f0
    · exact f1
    ), fun e he => (by cases he), ⟨hG.1, hG.2.1, hG.2.2.1, hG.2.2.2.1, hG.2.2.2.2.1, hG.2.2.2.2.2.1, hG.2.2.2.2.2.2.1, hG.2.2.2.2.2.2.2.1, hG.2.2.2.2.2.2.2.2.1, hG.2.2.2.2.2.2.2.2.2.1, hG.2.2.2.2.2.2.2.2.2.2.1, hG.2.2.2.2.2.2.2.2.2.2.2.1, hG.2.2.2.2.2.2.2.2.2.2.2.2.1, hG.2.2.2.2.2.2.2.2.2.2.2.2.2.1, hG.2.2.2.2.2.2.2.2.2.2.2.2.2.2.1, hG.2.2.2.2.2.2.2.2.2.2.2.2.2.2.2.1, c16, hG.2.2.2.2.2.2.2.2.2.2.2.2.2.2.2.2.2.1, hG.2.2.2.2.2.2.2.2.2.2.2.2.2.2.2.2.2.2.1, hG.2.2.2.2.2.2.2.2.2.2.2.2.2.2.2.2.2.2.2.1, hG.2.2.2.2.2.2.2.2.2.2.2.2.2.2.2.2.2.2.2.2.1, hG.2.2.2.2.2.2.2.2.2.2.2.2.2.2.2.2.2.2.2.2.2.1, hG.2.2.2.2.2.2.2.2.2.2.2.2.2.2.2.2.2.2.2.2.2.2.1, hG.2.2.2.2.2.2.2.2.2.2.2.2.2.2.2.2.2.2.2.2.2.2.2.1, hG.2.2.2.2.2.2.2.2.2.2.2.2.2.2.2.2.2.2.2.2.2.2.2.2⟩⟩
theorem sx_q_s_trayMany_0 {γ : Nat → Int} {A : Nat → Nat → Int} {j : Nat} {y : Int} (hG : sx_G0 γ A) (f0 : 0 ≤ 0 + (1 * (j : Int) + 0)) (f1 : 0 ≤ 0 + ((-1) * (j : Int) + 0)) (c17 : sx_g9 (0 + (1 * y + 0)) (γ 18506) (γ 18507) (γ 18508) (sx_au A 102 j y 102)) : ∃ a ∈ sx_r_s_trayMany.2, ∃ w : Nat → Int, (∀ (i : Nat) p, a.1[i]? = some p → p.2.1 ≤ w i ∧ w i ≤ p.2.2) ∧ (∀ f ∈ a.2.1, 0 ≤ sx_d (sx_th γ (j : Int) y w) f) ∧ (∀ e, a.2.2.2.head? = some e → sx_d (sx_th γ (j : Int) y w) e = y) ∧ sx_G0 (sx_gu γ (sx_th γ (j : Int) y w) a.2.2.1) (if true = true then sx_au A 102 j y else A) := ⟨([], [(0, [(19000, 1)]), (0, [(19000, (-1))])], [(18505, (0, [(19001, 1)]))], []), List.Mem.head _, (fun _ => 0), fun i p hi => (by
    match i, hi with
    | n + 0, hi => simp at hi), fun f hf => (by
    simp only [List.mem_cons, List.not_mem_nil, or_false] at hf
    rcases hf with rfl | rfl
    · exact f0
    · exact f1
    ), fun e he => (by cases he), ⟨hG.1, hG.2.1, hG.2.2.1, hG.2.2.2.1, hG.2.2.2.2.1, hG.2.2.2.2.2.1, hG.2.2.2.2.2.2.1, hG.2.2.2.2.2.2.2.1, hG.2.2.2.2.2.2.2.2.1, hG.2.2.2.2.2.2.2.2.2.1, hG.2.2.2.2.2.2.2.2.2.2.1, hG.2.2.2.2.2.2.2.2.2.2.2.1, hG.2.2.2.2.2.2.2.2.2.2.2.2.1, hG.2.2.2.2.2.2.2.2.2.2.2.2.2.1, hG.2.2.2.2.2.2.2.2.2.2.2.2.2.2.1, hG.2.2.2.2.2.2.2.2.2.2.2.2.2.2.2.1, hG.2.2.2.2.2.2.2.2.2.2.2.2.2.2.2.2.1, c17, hG.2.2.2.2.2.2.2.2.2.2.2.2.2.2.2.2.2.2.1, hG.2.2.2.2.2.2.2.2.2.2.2.2.2.2.2.2.2.2.2.1, hG.2.2.2.2.2.2.2.2.2.2.2.2.2.2.2.2.2.2.2.2.1, hG.2.2.2.2.2.2.2.2.2.2.2.2.2.2.2.2.2.2.2.2.2.1, hG.2.2.2.2.2.2.2.2.2.2.2.2.2.2.2.2.2.2.2.2.2.2.1, hG.2.2.2.2.2.2.2.2.2.2.2.2.2.2.2.2.2.2.2.2.2.2.2.1, hG.2.2.2.2.2.2.2.2.2.2.2.2.2.2.2.2.2.2.2.2.2.2.2.2⟩⟩
theorem sx_q_s_trayMany_1 {γ : Nat → Int} {A : Nat → Nat → Int} {j : Nat} {y : Int} (hG : sx_G0 γ A) (f0 : 0 ≤ (-1) + (1 * (j : Int) + 0)) (f1 : 0 ≤ 1 + ((-1) * (j : Int) + 0)) (c17 : sx_g9 (γ 18505) (0 + (1 * y + 0)) (γ 18507) (γ 18508) (sx_au A 102 j y 102)) : ∃ a ∈ sx_r_s_trayMany.2, ∃ w : Nat → Int, (∀ (i : Nat) p, a.1[i]? = some p → p.2.1 ≤ w i ∧ w i ≤ p.2.2) ∧ (∀ f ∈ a.2.1, 0 ≤ sx_d (sx_th γ (j : Int) y w) f) ∧ (∀ e, a.2.2.2.head? = some e → sx_d (sx_th γ (j : Int) y w) e = y) ∧ sx_G0 (sx_gu γ (sx_th γ (j : Int) y w) a.2.2.1) (if true = true then sx_au A 102 j y else A) := ⟨([], [((-1), [(19000, 1)]), (1, [(19000, (-1))])], [(18506, (0, [(19001, 1)]))], []), List.Mem.tail _ (List.Mem.head _), (fun _ => 0), fun i p hi => (by
    match i, hi with
    | n + 0, hi => simp at hi), fun f hf => (by
    simp only [List.mem_cons, List.not_mem_nil, or_false] at hf
    rcases hf with rfl | rfl
    · exact f0
    · exact f1
    ), fun e he => (by cases he), ⟨hG.1, hG.2.1, hG.2.2.1, hG.2.2.2.1, hG.2.2.2.2.1, hG.2.2.2.2.2.1, hG.2.2.2.2.2.2.1, hG.2.2.2.2.2.2.2.1, hG.2.2.2.2.2.2.2.2.1, hG.2.2.2.2.2.2.2.2.2.1, hG.2.2.2.2.2.2.2.2.2.2.1, hG.2.2.2.2.2.2.2.2.2.2.2.1, hG.2.2.2.2.2.2.2.2.2.2.2.2.1, hG.2.2.2.2.2.2.2.2.2.2.2.2.2.1, hG.2.2.2.2.2.2.2.2.2.2.2.2.2.2.1, hG.2.2.2.2.2.2.2.2.2.2.2.2.2.2.2.1, hG.2.2.2.2.2.2.2.2.2.2.2.2.2.2.2.2.1, c17, hG.2.2.2.2.2.2.2.2.2.2.2.2.2.2.2.2.2.2.1, hG.2.2.2.2.2.2.2.2.2.2.2.2.2.2.2.2.2.2.2.1, hG.2.2.2.2.2.2.2.2.2.2.2.2.2.2.2.2.2.2.2.2.1, hG.2.2.2.2.2.2.2.2.2.2.2.2.2.2.2.2.2.2.2.2.2.1, hG.2.2.2.2.2.2.2.2.2.2.2.2.2.2.2.2.2.2.2.2.2.2.1, hG.2.2.2.2.2.2.2.2.2.2.2.2.2.2.2.2.2.2.2.2.2.2.2.1, hG.2.2.2.2.2.2.2.2.2.2.2.2.2.2.2.2.2.2.2.2.2.2.2.2⟩⟩
theorem sx_q_s_trayMany_2 {γ : Nat → Int} {A : Nat → Nat → Int} {j : Nat} {y : Int} (hG : sx_G0 γ A) (f0 : 0 ≤ (-2) + (1 * (j : Int) + 0)) (f1 : 0 ≤ 2 + ((-1) * (j : Int) + 0)) (c17 : sx_g9 (γ 18505) (γ 18506) (0 + (1 * y + 0)) (γ 18508) (sx_au A 102 j y 102)) : ∃ a ∈ sx_r_s_trayMany.2, ∃ w : Nat → Int, (∀ (i : Nat) p, a.1[i]? = some p → p.2.1 ≤ w i ∧ w i ≤ p.2.2) ∧ (∀ f ∈ a.2.1, 0 ≤ sx_d (sx_th γ (j : Int) y w) f) ∧ (∀ e, a.2.2.2.head? = some e → sx_d (sx_th γ (j : Int) y w) e = y) ∧ sx_G0 (sx_gu γ (sx_th γ (j : Int) y w) a.2.2.1) (if true = true then sx_au A 102 j y else A) := ⟨([], [((-2), [(19000, 1)]), (2, [(19000, (-1))])], [(18507, (0, [(19001, 1)]))], []), List.Mem.tail _ (List.Mem.tail _ (List.Mem.head _)), (fun _ => 0), fun i p hi => (by
    match i, hi with
    | n + 0, hi => simp at hi), fun f hf => (by
    simp only [List.mem_cons, List.not_mem_nil, or_false] at hf
    rcases hf with rfl | rfl
    · exact f0
    · exact f1
    ), fun e he => (by cases he), ⟨hG.1, hG.2.1, hG.2.2.1, hG.2.2.2.1, hG.2.2.2.2.1, hG.2.2.2.2.2.1, hG.2.2.2.2.2.2.1, hG.2.2.2.2.2.2.2.1, hG.2.2.2.2.2.2.2.2.1, hG.2.2.2.2.2.2.2.2.2.1, hG.2.2.2.2.2.2.2.2.2.2.1, hG.2.2.2.2.2.2.2.2.2.2.2.1, hG.2.2.2.2.2.2.2.2.2.2.2.2.1, hG.2.2.2.2.2.2.2.2.2.2.2.2.2.1, hG.2.2.2.2.2.2.2.2.2.2.2.2.2.2.1, hG.2.2.2.2.2.2.2.2.2.2.2.2.2.2.2.1, hG.2.2.2.2.2.2.2.2.2.2.2.2.2.2.2.2.1, c17, hG.2.2.2.2.2.2.2.2.2.2.2.2.2.2.2.2.2.2.1, hG.2.2.2.2.2.2.2.2.2.2.2.2.2.2.2.2.2.2.2.1, hG.2.2.2.2.2.2.2.2.2.2.2.2.2.2.2.2.2.2.2.2.1, hG.2.2.2.2.2.2.2.2.2.2.2.2.2.2.2.2.2.2.2.2.2.1, hG.2.2.2.2.2.2.2.2.2.2.2.2.2.2.2.2.2.2.2.2.2.2.1, hG.2.2.2.2.2.2.2.2.2.2.2.2.2.2.2.2.2.2.2.2.2.2.2.1, hG.2.2.2.2.2.2.2.2.2.2.2.2.2.2.2.2.2.2.2.2.2.2.2.2⟩⟩
theorem sx_q_s_trayMany_3 {γ : Nat → Int} {A : Nat → Nat → Int} {j : Nat} {y : Int} (hG : sx_G0 γ A) (f0 : 0 ≤ (-3) + (1 * (j : Int) + 0)) (f1 : 0 ≤ 3 + ((-1) * (j : Int) + 0)) (c17 : sx_g9 (γ 18505) (γ 18506) (γ 18507) (0 + (1 * y + 0)) (sx_au A 102 j y 102)) : ∃ a ∈ sx_r_s_trayMany.2, ∃ w : Nat → Int, (∀ (i : Nat) p, a.1[i]? = some p → p.2.1 ≤ w i ∧ w i ≤ p.2.2) ∧ (∀ f ∈ a.2.1, 0 ≤ sx_d (sx_th γ (j : Int) y w) f) ∧ (∀ e, a.2.2.2.head? = some e → sx_d (sx_th γ (j : Int) y w) e = y) ∧ sx_G0 (sx_gu γ (sx_th γ (j : Int) y w) a.2.2.1) (if true = true then sx_au A 102 j y else A) := ⟨([], [((-3), [(19000, 1)]), (3, [(19000, (-1))])], [(18508, (0, [(19001, 1)]))], []), List.Mem.tail _ (List.Mem.tail _ (List.Mem.tail _ (List.Mem.head _))), (fun _ => 0), fun i p hi => (by
    match i, hi with
    | n + 0, hi => simp at hi), fun f hf => (by
    simp only [List.mem_cons, List.not_mem_nil, or_false] at hf
    rcases hf with rfl | rfl
    · exact f0
    · exact f1
    ), fun e he => (by cases he), ⟨hG.1, hG.2.1, hG.2.2.1, hG.2.2.2.1, hG.2.2.2.2.1, hG.2.2.2.2.2.1, hG.2.2.2.2.2.2.1, hG.2.2.2.2.2.2.2.1, hG.2.2.2.2.2.2.2.2.1, hG.2.2.2.2.2.2.2.2.2.1, hG.2.2.2.2.2.2.2.2.2.2.1, hG.2.2.2.2.2.2.2.2.2.2.2.1, hG.2.2.2.2.2.2.2.2.2.2.2.2.1, hG.2.2.2.2.2.2.2.2.2.2.2.2.2.1, hG.2.2.2.2.2.2.2.2.2.2.2.2.2.2.1, hG.2.2.2.2.2.2.2.2.2.2.2.2.2.2.2.1, hG.2.2.2.2.2.2.2.2.2.2.2.2.2.2.2.2.1, c17, hG.2.2.2.2.2.2.2.2.2.2.2.2.2.2.2.2.2.2.1, hG.2.2.2.2.2.2.2.2.2.2.2.2.2.2.2.2.2.2.2.1, hG.2.2.2.2.2.2.2.2.2.2.2.2.2.2.2.2.2.2.2.2.1, hG.2.2.2.2.2.2.2.2.2.2.2.2.2.2.2.2.2.2.2.2.2.1, hG.2.2.2.2.2.2.2.2.2.2.2.2.2.2.2.2.2.2.2.2.2.2.1, hG.2.2.2.2.2.2.2.2.2.2.2.2.2.2.2.2.2.2.2.2.2.2.2.1, hG.2.2.2.2.2.2.2.2.2.2.2.2.2.2.2.2.2.2.2.2.2.2.2.2⟩⟩
theorem sx_q_s_gndA_0 {γ : Nat → Int} {A : Nat → Nat → Int} {j : Nat} {y : Int} (hG : sx_G0 γ A) (f0 : 0 ≤ 0 + (1 * (j : Int) + 0)) (f1 : 0 ≤ 0 + ((-1) * (j : Int) + 0)) (c22 : sx_gfn (γ 18517) (γ 18518) (γ 18519) (sx_au A 104 j y 104)) (c24 : sx_gn (0 + (1 * y + 0)) (γ 18529) (γ 18530) (γ 18531) (γ 18532) (γ 18533) (γ 18534) (γ 18535) (sx_au A 104 j y 104)) : ∃ a ∈ sx_r_s_gndA.2, ∃ w : Nat → Int, (∀ (i : Nat) p, a.1[i]? = some p → p.2.1 ≤ w i ∧ w i ≤ p.2.2) ∧ (∀ f ∈ a.2.1, 0 ≤ sx_d (sx_th γ (j : Int) y w) f) ∧ (∀ e, a.2.2.2.head? = some e → sx_d (sx_th γ (j : Int) y w) e = y) ∧ sx_G0 (sx_gu γ (sx_th γ (j : Int) y w) a.2.2.1) (if true = true then sx_au A 104 j y else A) := ⟨([], [(0, [(19000, 1)]), (0, [(19000, (-1))])], [(18528, (0, [(19001, 1)]))], []), List.Mem.head _, (fun _ => 0), fun i p hi => (by
    match i, hi with
    | n + 0, hi => simp at hi), fun f hf => (by
    simp only [List.mem_cons, List.not_mem_nil, or_false] at hf
    rcases hf with rfl | rfl
    · exact f0
    · exact f1
    ), fun e he => (by cases he), ⟨hG.1, hG.2.1, hG.2.2.1, hG.2.2.2.1, hG.2.2.2.2.1, hG.2.2.2.2.2.1, hG.2.2.2.2.2.2.1, hG.2.2.2.2.2.2.2.1, hG.2.2.2.2.2.2.2.2.1, hG.2.2.2.2.2.2.2.2.2.1, hG.2.2.2.2.2.2.2.2.2.2.1, hG.2.2.2.2.2.2.2.2.2.2.2.1, hG.2.2.2.2.2.2.2.2.2.2.2.2.1, hG.2.2.2.2.2.2.2.2.2.2.2.2.2.1, hG.2.2.2.2.2.2.2.2.2.2.2.2.2.2.1, hG.2.2.2.2.2.2.2.2.2.2.2.2.2.2.2.1, hG.2.2.2.2.2.2.2.2.2.2.2.2.2.2.2.2.1, hG.2.2.2.2.2.2.2.2.2.2.2.2.2.2.2.2.2.1, hG.2.2.2.2.2.2.2.2.2.2.2.2.2.2.2.2.2.2.1, hG.2.2.2.2.2.2.2.2.2.2.2.2.2.2.2.2.2.2.2.1, hG.2.2.2.2.2.2.2.2.2.2.2.2.2.2.2.2.2.2.2.2.1, hG.2.2.2.2.2.2.2.2.2.2.2.2.2.2.2.2.2.2.2.2.2.1, c22, hG.2.2.2.2.2.2.2.2.2.2.2.2.2.2.2.2.2.2.2.2.2.2.2.1, c24⟩⟩
theorem sx_q_s_gndA_1 {γ : Nat → Int} {A : Nat → Nat → Int} {j : Nat} {y : Int} (hG : sx_G0 γ A) (f0 : 0 ≤ (-1) + (1 * (j : Int) + 0)) (f1 : 0 ≤ 1 + ((-1) * (j : Int) + 0)) (c22 : sx_gfn (γ 18517) (γ 18518) (γ 18519) (sx_au A 104 j y 104)) (c24 : sx_gn (γ 18528) (0 + (1 * y + 0)) (γ 18530) (γ 18531) (γ 18532) (γ 18533) (γ 18534) (γ 18535) (sx_au A 104 j y 104)) : ∃ a ∈ sx_r_s_gndA.2, ∃ w : Nat → Int, (∀ (i : Nat) p, a.1[i]? = some p → p.2.1 ≤ w i ∧ w i ≤ p.2.2) ∧ (∀ f ∈ a.2.1, 0 ≤ sx_d (sx_th γ (j : Int) y w) f) ∧ (∀ e, a.2.2.2.head? = some e → sx_d (sx_th γ (j : Int) y w) e = y) ∧ sx_G0 (sx_gu γ (sx_th γ (j : Int) y w) a.2.2.1) (if true = true then sx_au A 104 j y else A) := ⟨([], [((-1), [(19000, 1)]), (1, [(19000, (-1))])], [(18529, (0, [(19001, 1)]))], []), List.Mem.tail _ (List.Mem.head _), (fun _ => 0), fun i p hi => (by
    match i, hi with
    | n + 0, hi => simp at hi), fun f hf => (by
    simp only [List.mem_cons, List.not_mem_nil, or_false] at hf
    rcases hf with rfl | rfl
    · exact f0
    · exact f1
    ), fun e he => (by cases he), ⟨hG.1, hG.2.1, hG.2.2.1, hG.2.2.2.1, hG.2.2.2.2.1, hG.2.2.2.2.2.1, hG.2.2.2.2.2.2.1, hG.2.2.2.2.2.2.2.1, hG.2.2.2.2.2.2.2.2.1, hG.2.2.2.2.2.2.2.2.2.1, hG.2.2.2.2.2.2.2.2.2.2.1, hG.2.2.2.2.2.2.2.2.2.2.2.1, hG.2.2.2.2.2.2.2.2.2.2.2.2.1, hG.2.2.2.2.2.2.2.2.2.2.2.2.2.1, hG.2.2.2.2.2.2.2.2.2.2.2.2.2.2.1, hG.2.2.2.2.2.2.2.2.2.2.2.2.2.2.2.1, hG.2.2.2.2.2.2.2.2.2.2.2.2.2.2.2.2.1, hG.2.2.2.2.2.2.2.2.2.2.2.2.2.2.2.2.2.1, hG.2.2.2.2.2.2.2.2.2.2.2.2.2.2.2.2.2.2.1, hG.2.2.2.2.2.2.2.2.2.2.2.2.2.2.2.2.2.2.2.1, hG.2.2.2.2.2.2.2.2.2.2.2.2.2.2.2.2.2.2.2.2.1, hG.2.2.2.2.2.2.2.2.2.2.2.2.2.2.2.2.2.2.2.2.2.1, c22, hG.2.2.2.2.2.2.2.2.2.2.2.2.2.2.2.2.2.2.2.2.2.2.2.1, c24⟩⟩
theorem sx_q_s_gndA_2 {γ : Nat → Int} {A : Nat → Nat → Int} {j : Nat} {y : Int} (hG : sx_G0 γ A) (f0 : 0 ≤ (-2) + (1 * (j : Int) + 0)) (f1 : 0 ≤ 2 + ((-1) * (j : Int) + 0)) (c22 : sx_gfn (γ 18517) (γ 18518) (γ 18519) (sx_au A 104 j y 104)) (c24 : sx_gn (γ 18528) (γ 18529) (0 + (1 * y + 0)) (γ 18531) (γ 18532) (γ 18533) (γ 18534) (γ 18535) (sx_au A 104 j y 104)) : ∃ a ∈ sx_r_s_gndA.2, ∃ w : Nat → Int, (∀ (i : Nat) p, a.1[i]? = some p → p.2.1 ≤ w i ∧ w i ≤ p.2.2) ∧ (∀ f ∈ a.2.1, 0 ≤ sx_d (sx_th γ (j : Int) y w) f) ∧ (∀ e, a.2.2.2.head? = some e → sx_d (sx_th γ (j : Int) y w) e = y) ∧ sx_G0 (sx_gu γ (sx_th γ (j : Int) y w) a.2.2.1) (if true = true then sx_au A 104 j y else A) := ⟨([], [((-2), [(19000, 1)]), (2, [(19000, (-1))])], [(18530, (0, [(19001, 1)]))], []), List.Mem.tail _ (List.Mem.tail _ (List.Mem.head _)), (fun _ => 0), fun i p hi => (by
    match i, hi with
    | n + 0, hi => simp at hi), fun f hf => (by
    simp only [List.mem_cons, List.not_mem_nil, or_false] at hf
    rcases hf with rfl | rfl
    · exact f0
    · exact f1
    ), fun e he => (by cases he), ⟨hG.1, hG.2.1, hG.2.2.1, hG.2.2.2.1, hG.2.2.2.2.1, hG.2.2.2.2.2.1, hG.2.2.2.2.2.2.1, hG.2.2.2.2.2.2.2.1, hG.2.2.2.2.2.2.2.2.1, hG.2.2.2.2.2.2.2.2.2.1, hG.2.2.2.2.2.2.2.2.2.2.1, hG.2.2.2.2.2.2.2.2.2.2.2.1, hG.2.2.2.2.2.2.2.2.2.2.2.2.1, hG.2.2.2.2.2.2.2.2.2.2.2.2.2.1, hG.2.2.2.2.2.2.2.2.2.2.2.2.2.2.1, hG.2.2.2.2.2.2.2.2.2.2.2.2.2.2.2.1, hG.2.2.2.2.2.2.2.2.2.2.2.2.2.2.2.2.1, hG.2.2.2.2.2.2.2.2.2.2.2.2.2.2.2.2.2.1, hG.2.2.2.2.2.2.2.2.2.2.2.2.2.2.2.2.2.2.1, hG.2.2.2.2.2.2.2.2.2.2.2.2.2.2.2.2.2.2.2.1, hG.2.2.2.2.2.2.2.2.2.2.2.2.2.2.2.2.2.2.2.2.1, hG.2.2.2.2.2.2.2.2.2.2.2.2.2.2.2.2.2.2.2.2.2.1, c22, hG.2.2.2.2.2.2.2.2.2.2.2.2.2.2.2.2.2.2.2.2.2.2.2.1, c24⟩⟩
theorem sx_q_s_gndA_3 {γ : Nat → Int} {A : Nat → Nat → Int} {j : Nat} {y : Int} (hG : sx_G0 γ A) (f0 : 0 ≤ (-3) + (1 * (j : Int) + 0)) (f1 : 0 ≤ 3 + ((-1) * (j : Int) + 0)) (c22 : sx_gfn (γ 18517) (γ 18518) (γ 18519) (sx_au A 104 j y 104)) (c24 : sx_gn (γ 18528) (γ 18529) (γ 18530) (0 + (1 * y + 0)) (γ 18532) (γ 18533) (γ 18534) (γ 18535) (sx_au A 104 j y 104)) : ∃ a ∈ sx_r_s_gndA.2, ∃ w : Nat → Int, (∀ (i : Nat) p, a.1[i]? = some p → p.2.1 ≤ w i ∧ w i ≤ p.2.2) ∧ (∀ f ∈ a.2.1, 0 ≤ sx_d (sx_th γ (j : Int) y w) f) ∧ (∀ e, a.2.2.2.head? = some e → sx_d (sx_th γ (j : Int) y w) e = y) ∧ sx_G0 (sx_gu γ (sx_th γ (j : Int) y w) a.2.2.1) (if true = true then sx_au A 104 j y else A) := ⟨([], [((-3), [(19000, 1)]), (3, [(19000, (-1))])], [(18531, (0, [(19001, 1)]))], []), List.Mem.tail _ (List.Mem.tail _ (List.Mem.tail _ (List.Mem.head _))), (fun _ => 0), fun i p hi => (by
    match i, hi with
    | n + 0, hi => simp at hi), fun f hf => (by
    simp only [List.mem_cons, List.not_mem_nil, or_false] at hf
    rcases hf with rfl | rfl
    · exact f0
    · exact f1
    ), fun e he => (by cases he), ⟨hG.1, hG.2.1, hG.2.2.1, hG.2.2.2.1, hG.2.2.2.2.1, hG.2.2.2.2.2.1, hG.2.2.2.2.2.2.1, hG.2.2.2.2.2.2.2.1, hG.2.2.2.2.2.2.2.2.1, hG.2.2.2.2.2.2.2.2.2.1, hG.2.2.2.2.2.2.2.2.2.2.1, hG.2.2.2.2.2.2.2.2.2.2.2.1, hG.2.2.2.2.2.2.2.2.2.2.2.2.1, hG.2.2.2.2.2.2.2.2.2.2.2.2.2.1, hG.2.2.2.2.2.2.2.2.2.2.2.2.2.2.1, hG.2.2.2.2.2.2.2.2.2.2.2.2.2.2.2.1, hG.2.2.2.2.2.2.2.2.2.2.2.2.2.2.2.2.1, hG.2.2.2.2.2.2.2.2.2.2.2.2.2.2.2.2.2.1, hG.2.2.2.2.2.2.2.2.2.2.2.2.2.2.2.2.2.2.1, hG.2.2.2.2.2.2.2.2.2.2.2.2.2.2.2.2.2.2.2.1, hG.2.2.2.2.2.2.2.2.2.2.2.2.2.2.2.2.2.2.2.2.1, hG.2.2.2.2.2.2.2.2.2.2.2.2.2.2.2.2.2.2.2.2.2.1, c22, hG.2.2.2.2.2.2.2.2.2.2.2.2.2.2.2.2.2.2.2.2.2.2.2.1, c24⟩⟩
theorem sx_q_s_gndA_4 {γ : Nat → Int} {A : Nat → Nat → Int} {j : Nat} {y : Int} (hG : sx_G0 γ A) (f0 : 0 ≤ (-4) + (1 * (j : Int) + 0)) (f1 : 0 ≤ 4 + ((-1) * (j : Int) + 0)) (c22 : sx_gfn (γ 18517) (γ 18518) (γ 18519) (sx_au A 104 j y 104)) (c24 : sx_gn (γ 18528) (γ 18529) (γ 18530) (γ 18531) (0 + (1 * y + 0)) (γ 18533) (γ 18534) (γ 18535) (sx_au A 104 j y 104)) : ∃ a ∈ sx_r_s_gndA.2, ∃ w : Nat → Int, (∀ (i : Nat) p, a.1[i]? = some p → p.2.1 ≤ w i ∧ w i ≤ p.2.2) ∧ (∀ f ∈ a.2.1, 0 ≤ sx_d (sx_th γ (j : Int) y w) f) ∧ (∀ e, a.2.2.2.head? = some e → sx_d (sx_th γ (j : Int) y w) e = y) ∧ sx_G0 (sx_gu γ (sx_th γ (j : Int) y w) a.2.2.1) (if true = true then sx_au A 104 j y else A) := ⟨([], [((-4), [(19000, 1)]), (4, [(19000, (-1))])], [(18532, (0, [(19001, 1)]))], []), List.Mem.tail _ (List.Mem.tail _ (List.Mem.tail _ (List.Mem.tail _ (List.Mem.head _)))), (fun _ => 0), fun i p hi => (by
    match i, hi with
    | n + 0, hi => simp at hi), fun f hf => (by
    simp only [List.mem_cons, List.not_mem_nil, or_false] at hf
    rcases hf with rfl | rfl
    · exact f0
    · exact f1
    ), fun e he => (by cases he), ⟨hG.1, hG.2.1, hG.2.2.1, hG.2.2.2.1, hG.2.2.2.2.1, hG.2.2.2.2.2.1, hG.2.2.2.2.2.2.1, hG.2.2.2.2.2.2.2.1, hG.2.2.2.2.2.2.2.2.1, hG.2.2.2.2.2.2.2.2.2.1, hG.2.2.2.2.2.2.2.2.2.2.1, hG.2.2.2.2.2.2.2.2.2.2.2.1, hG.2.2.2.2.2.2.2.2.2.2.2.2.1, hG.2.2.2.2.2.2.2.2.2.2.2.2.2.1, hG.2.2.2.2.2.2.2.2.2.2.2.2.2.2.1, hG.2.2.2.2.2.2.2.2.2.2.2.2.2.2.2.1, hG.2.2.2.2.2.2.2.2.2.2.2.2.2.2.2.2.1, hG.2.2.2.2.2.2.2.2.2.2.2.2.2.2.2.2.2.1, hG.2.2.2.2.2.2.2.2.2.2.2.2.2.2.2.2.2.2.1, hG.2.2.2.2.2.2.2.2.2.2.2.2.2.2.2.2.2.2.2.1, hG.2.2.2.2.2.2.2.2.2.2.2.2.2.2.2.2.2.2.2.2.1, hG.2.2.2.2.2.2.2.2.2.2.2.2.2.2.2.2.2.2.2.2.2.1, c22, hG.2.2.2.2.2.2.2.2.2.2.2.2.2.2.2.2.2.2.2.2.2.2.2.1, c24⟩⟩
theorem sx_q_s_gndA_5 {γ : Nat → Int} {A : Nat → Nat → Int} {j : Nat} {y : Int} (hG : sx_G0 γ A) (f0 : 0 ≤ (-5) + (1 * (j : Int) + 0)) (f1 : 0 ≤ 5 + ((-1) * (j : Int) + 0)) (c22 : sx_gfn (γ 18517) (γ 18518) (γ 18519) (sx_au A 104 j y 104)) (c24 : sx_gn (γ 18528) (γ 18529) (γ 18530) (γ 18531) (γ 18532) (0 + (1 * y + 0)) (γ 18534) (γ 18535) (sx_au A 104 j y 104)) : ∃ a ∈ sx_r_s_gndA.2, ∃ w : Nat → Int, (∀ (i : Nat) p, a.1[i]? = some p → p.2.1 ≤ w i ∧ w i ≤ p.2.2) ∧ (∀ f ∈ a.2.1, 0 ≤ sx_d (sx_th γ (j : Int) y w) f) ∧ (∀ e, a.2.2.2.head? = some e → sx_d (sx_th γ (j : Int) y w) e = y) ∧ sx_G0 (sx_gu γ (sx_th γ (j : Int) y w) a.2.2.1) (if true = true then sx_au A 104 j y else A) := ⟨([], [((-5), [(19000, 1)]), (5, [(19000, (-1))])], [(18533, (0, [(19001, 1)]))], []), List.Mem.tail _ (List.Mem.tail _ (List.Mem.tail _ (List.Mem.tail _ (List.Mem.tail _ (List.Mem.head _))))), (fun _ => 0), fun i p hi => (by
    match i, hi with
    | n + 0, hi => simp at hi), fun f hf => (by
    simp only [List.mem_cons, List.not_mem_nil, or_false] at hf
    rcases hf with rfl | rfl
    · exact f0
    · exact f1
    ), fun e he => (by cases he), ⟨hG.1, hG.2.1, hG.2.2.1, hG.2.2.2.1, hG.2.2.2.2.1, hG.2.2.2.2.2.1, hG.2.2.2.2.2.2.1, hG.2.2.2.2.2.2.2.1, hG.2.2.2.2.2.2.2.2.1, hG.2.2.2.2.2.2.2.2.2.1, hG.2.2.2.2.2.2.2.2.2.2.1, hG.2.2.2.2.2.2.2.2.2.2.2.1, hG.2.2.2.2.2.2.2.2.2.2.2.2.1, hG.2.2.2.2.2.2.2.2.2.2.2.2.2.1, hG.2.2.2.2.2.2.2.2.2.2.2.2.2.2.1, hG.2.2.2.2.2.2.2.2.2.2.2.2.2.2.2.1, hG.2.2.2.2.2.2.2.2.2.2.2.2.2.2.2.2.1, hG.2.2.2.2.2.2.2.2.2.2.2.2.2.2.2.2.2.1, hG.2.2.2.2.2.2.2.2.2.2.2.2.2.2.2.2.2.2.1, hG.2.2.2.2.2.2.2.2.2.2.2.2.2.2.2.2.2.2.2.1, hG.2.2.2.2.2.2.2.2.2.2.2.2.2.2.2.2.2.2.2.2.1, hG.2.2.2.2.2.2.2.2.2.2.2.2.2.2.2.2.2.2.2.2.2.1, c22, hG.2.2.2.2.2.2.2.2.2.2.2.2.2.2.2.2.2.2.2.2.2.2.2.1, c24⟩⟩
theorem sx_q_s_gndA_6 {γ : Nat → Int} {A : Nat → Nat → Int} {j : Nat} {y : Int} (hG : sx_G0 γ A) (f0 : 0 ≤ (-6) + (1 * (j : Int) + 0)) (f1 : 0 ≤ 6 + ((-1) * (j : Int) + 0)) (c22 : sx_gfn (γ 18517) (γ 18518) (γ 18519) (sx_au A 104 j y 104)) (c24 : sx_gn (γ 18528) (γ 18529) (γ 18530) (γ 18531) (γ 18532) (γ 18533) (0 + (1 * y + 0)) (γ 18535) (sx_au A 104 j y 104)) : ∃ a ∈ sx_r_s_gndA.2, ∃ w : Nat → Int, (∀ (i : Nat) p, a.1[i]? = some p → p.2.1 ≤ w i ∧ w i ≤ p.2.2) ∧ (∀ f ∈ a.2.1, 0 ≤ sx_d (sx_th γ (j : Int) y w) f) ∧ (∀ e, a.2.2.2.head? = some e → sx_d (sx_th γ (j : Int) y w) e = y) ∧ sx_G0 (sx_gu γ (sx_th γ (j : Int) y w) a.2.2.1) (if true = true then sx_au A 104 j y else A) := ⟨([], [((-6), [(19000, 1)]), (6, [(19000, (-1))])], [(18534, (0, [(19001, 1)]))], []), List.Mem.tail _ (List.Mem.tail _ (List.Mem.tail _ (List.Mem.tail _ (List.Mem.tail _ (List.Mem.tail _ (List.Mem.head _)))))), (fun _ => 0), fun i p hi => (by
    match i, hi with
    | n + 0, hi => simp at hi), fun f hf => (by
    simp only [List.mem_cons, List.not_mem_nil, or_false] at hf
    rcases hf with rfl | rfl
    · exact f0
    · exact f1
    ), fun e he => (by cases he), ⟨hG.1, hG.2.1, hG.2.2.1, hG.2.2.2.1, hG.2.2.2.2.1, hG.2.2.2.2.2.1, hG.2.2.2.2.2.2.1, hG.2.2.2.2.2.2.2.1, hG.2.2.2.2.2.2.2.2.1, hG.2.2.2.2.2.2.2.2.2.1, hG.2.2.2.2.2.2.2.2.2.2.1, hG.2.2.2.2.2.2.2.2.2.2.2.1, hG.2.2.2.2.2.2.2.2.2.2.2.2.1, hG.2.2.2.2.2.2.2.2.2.2.2.2.2.1, hG.2.2.2.2.2.2.2.2.2.2.2.2.2.2.1, hG.2.2.2.2.2.2.2.2.2.2.2.2.2.2.2.1, hG.2.2.2.2.2.2.2.2.2.2.2.2.2.2.2.2.1, hG.2.2.2.2.2.2.2.2.2.2.2.2.2.2.2.2.2.1, hG.2.2.2.2.2.2.2.2.2.2.2.2.2.2.2.2.2.2.1, hG.2.2.2.2.2.2.2.2.2.2.2.2.2.2.2.2.2.2.2.1, hG.2.2.2.2.2.2.2.2.2.2.2.2.2.2.2.2.2.2.2.2.1, hG.2.2.2.2.2.2.2.2.2.2.2.2.2.2.2.2.2.2.2.2.2.1, c22, hG.2.2.2.2.2.2.2.2.2.2.2.2.2.2.2.2.2.2.2.2.2.2.2.1, c24⟩⟩
theorem sx_q_s_gndA_7 {γ : Nat → Int} {A : Nat → Nat → Int} {j : Nat} {y : Int} (hG : sx_G0 γ A) (f0 : 0 ≤ (-7) + (1 * (j : Int) + 0)) (f1 : 0 ≤ 7 + ((-1) * (j : Int) + 0)) (c22 : sx_gfn (γ 18517) (γ 18518) (γ 18519) (sx_au A 104 j y 104)) (c24 : sx_gn (γ 18528) (γ 18529) (γ 18530) (γ 18531) (γ 18532) (γ 18533) (γ 18534) (0 + (1 * y + 0)) (sx_au A 104 j y 104)) : ∃ a ∈ sx_r_s_gndA.2, ∃ w : Nat → Int, (∀ (i : Nat) p, a.1[i]? = some p → p.2.1 ≤ w i ∧ w i ≤ p.2.2) ∧ (∀ f ∈ a.2.1, 0 ≤ sx_d (sx_th γ (j : Int) y w) f) ∧ (∀ e, a.2.2.2.head? = some e → sx_d (sx_th γ (j : Int) y w) e = y) ∧ sx_G0 (sx_gu γ (sx_th γ (j : Int) y w) a.2.2.1) (if true = true then sx_au A 104 j y else A) := ⟨([], [((-7), [(19000, 1)]), (7, [(19000, (-1))])], [(18535, (0, [(19001, 1)]))], []), List.Mem.tail _ (List.Mem.tail _ (List.Mem.tail _ (List.Mem.tail _ (List.Mem.tail _ (List.Mem.tail _ (List.Mem.tail _ (List.Mem.head _))))))), (fun _ => 0), fun i p hi => (by
    match i, hi with
    | n + 0, hi => simp at hi), fun f hf => (by
    simp only [List.mem_cons, List.not_mem_nil, or_false] at hf
    rcases hf with rfl | rfl
    · exact f0
    · exact f1
    ), fun e he => (by cases he), ⟨hG.1, hG.2.1, hG.2.2.1, hG.2.2.2.1, hG.2.2.2.2.1, hG.2.2.2.2.2.1, hG.2.2.2.2.2.2.1, hG.2.2.2.2.2.2.2.1, hG.2.2.2.2.2.2.2.2.1, hG.2.2.2.2.2.2.2.2.2.1, hG.2.2.2.2.2.2.2.2.2.2.1, hG.2.2.2.2.2.2.2.2.2.2.2.1, hG.2.2.2.2.2.2.2.2.2.2.2.2.1, hG.2.2.2.2.2.2.2.2.2.2.2.2.2.1, hG.2.2.2.2.2.2.2.2.2.2.2.2.2.2.1, hG.2.2.2.2.2.2.2.2.2.2.2.2.2.2.2.1, hG.2.2.2.2.2.2.2.2.2.2.2.2.2.2.2.2.1, hG.2.2.2.2.2.2.2.2.2.2.2.2.2.2.2.2.2.1, hG.2.2.2.2.2.2.2.2.2.2.2.2.2.2.2.2.2.2.1, hG.2.2.2.2.2.2.2.2.2.2.2.2.2.2.2.2.2.2.2.1, hG.2.2.2.2.2.2.2.2.2.2.2.2.2.2.2.2.2.2.2.2.1, hG.2.2.2.2.2.2.2.2.2.2.2.2.2.2.2.2.2.2.2.2.2.1, c22, hG.2.2.2.2.2.2.2.2.2.2.2.2.2.2.2.2.2.2.2.2.2.2.2.1, c24⟩⟩
theorem sx_q_s_gndB_0 {γ : Nat → Int} {A : Nat → Nat → Int} {j : Nat} {y : Int} (hG : sx_G0 γ A) (f0 : 0 ≤ 0 + (1 * (j : Int) + 0)) (f1 : 0 ≤ 0 + ((-1) * (j : Int) + 0)) (c22 : sx_gfn (γ 18517) (0 + 0) ((-1) + 0) (sx_au A 104 j y 104)) (c24 : sx_gn (0 + (1 * y + 0)) (γ 18529) (γ 18530) (γ 18531) (γ 18532) (γ 18533) (γ 18534) (γ 18535) (sx_au A 104 j y 104)) : ∃ a ∈ sx_r_s_gndB.2, ∃ w : Nat → Int, (∀ (i : Nat) p, a.1[i]? = some p → p.2.1 ≤ w i ∧ w i ≤ p.2.2) ∧ (∀ f ∈ a.2.1, 0 ≤ sx_d (sx_th γ (j : Int) y w) f) ∧ (∀ e, a.2.2.2.head? = some e → sx_d (sx_th γ (j : Int) y w) e = y) ∧ sx_G0 (sx_gu γ (sx_th γ (j : Int) y w) a.2.2.1) (if true = true then sx_au A 104 j y else A) := ⟨([], [(0, [(19000, 1)]), (0, [(19000, (-1))])], [(18528, (0, [(19001, 1)])), (18518, (0, [])), (18519, ((-1), []))], []), List.Mem.head _, (fun _ => 0), fun i p hi => (by
    match i, hi with
    | n + 0, hi => simp at hi), fun f hf => (by
    simp only [List.mem_cons, List.not_mem_nil, or_false] at hf
    rcases hf with rfl | rfl
    · exact f0
    · exact f1
    ), fun e he => (by cases he), ⟨hG.1, hG.2.1, hG.2.2.1, hG.2.2.2.1, hG.2.2.2.2.1, hG.2.2.2.2.2.1, hG.2.2.2.2.2.2.1, hG.2.2.2.2.2.2.2.1, hG.2.2.2.2.2.2.2.2.1, hG.2.2.2.2.2.2.2.2.2.1, hG.2.2.2.2.2.2.2.2.2.2.1, hG.2.2.2.2.2.2.2.2.2.2.2.1, hG.2.2.2.2.2.2.2.2.2.2.2.2.1, hG.2.2.2.2.2.2.2.2.2.2.2.2.2.1, hG.2.2.2.2.2.2.2.2.2.2.2.2.2.2.1, hG.2.2.2.2.2.2.2.2.2.2.2.2.2.2.2.1, hG.2.2.2.2.2.2.2.2.2.2.2.2.2.2.2.2.1, hG.2.2.2.2.2.2.2.2.2.2.2.2.2.2.2.2.2.1, hG.2.2.2.2.2.2.2.2.2.2.2.2.2.2.2.2.2.2.1, hG.2.2.2.2.2.2.2.2.2.2.2.2.2.2.2.2.2.2.2.1, hG.2.2.2.2.2.2.2.2.2.2.2.2.2.2.2.2.2.2.2.2.1, hG.2.2.2.2.2.2.2.2.2.2.2.2.2.2.2.2.2.2.2.2.2.1, c22, hG.2.2.2.2.2.2.2.2.2.2.2.2.2.2.2.2.2.2.2.2.2.2.2.1, c24⟩⟩
theorem sx_q_s_gndB_1 {γ : Nat → Int} {A : Nat → Nat → Int} {j : Nat} {y : Int} (hG : sx_G0 γ A) (f0 : 0 ≤ (-1) + (1 * (j : Int) + 0)) (f1 : 0 ≤ 1 + ((-1) * (j : Int) + 0)) (c22 : sx_gfn (γ 18517) (0 + 0) ((-1) + 0) (sx_au A 104 j y 104)) (c24 : sx_gn (γ 18528) (0 + (1 * y + 0)) (γ 18530) (γ 18531) (γ 18532) (γ 18533) (γ 18534) (γ 18535) (sx_au A 104 j y 104)) : ∃ a ∈ sx_r_s_gndB.2, ∃ w : Nat → Int, (∀ (i : Nat) p, a.1[i]? = some p → p.2.1 ≤ w i ∧ w i ≤ p.2.2) ∧ (∀ f ∈ a.2.1, 0 ≤ sx_d (sx_th γ (j : Int) y w) f) ∧ (∀ e, a.2.2.2.head? = some e → sx_d (sx_th γ (j : Int) y w) e = y) ∧ sx_G0 (sx_gu γ (sx_th γ (j : Int) y w) a.2.2.1) (if true = true then sx_au A 104 j y else A) := ⟨([], [((-1), [(19000, 1)]), (1, [(19000, (-1))])], [(18529, (0, [(19001, 1)])), (18518, (0, [])), (18519, ((-1), []))], []), List.Mem.tail _ (List.Mem.head _), (fun _ => 0), fun i p hi => (by
    match i, hi with
    | n + 0, hi => simp at hi), fun f hf => (by
    simp only [List.mem_cons, List.not_mem_nil, or_false] at hf
    rcases hf with rfl | rfl
    · exact f0
    · exact f1
    ), fun e he => (by cases he), ⟨hG.1, hG.2.1, hG.2.2.1, hG.2.2.2.1, hG.2.2.2.2.1, hG.2.2.2.2.2.1, hG.2.2.2.2.2.2.1, hG.2.2.2.2.2.2.2.1, hG.2.2.2.2.2.2.2.2.1, hG.2.2.2.2.2.2.2.2.2.1, hG.2.2.2.2.2.2.2.2.2.2.1, hG.2.2.2.2.2.2.2.2.2.2.2.1, hG.2.2.2.2.2.2.2.2.2.2.2.2.1, hG.2.2.2.2.2.2.2.2.2.2.2.2.2.1, hG.2.2.2.2.2.2.2.2.2.2.2.2.2.2.1, hG.2.2.2.2.2.2.2.2.2.2.2.2.2.2.2.1, hG.2.2.2.2.2.2.2.2.2.2.2.2.2.2.2.2.1, hG.2.2.2.2.2.2.2.2.2.2.2.2.2.2.2.2.2.1, hG.2.2.2.2.2.2.2.2.2.2.2.2.2.2.2.2.2.2.1, hG.2.2.2.2.2.2.2.2.2.2.2.2.2.2.2.2.2.2.2.1, hG.2.2.2.2.2.2.2.2.2.2.2.2.2.2.2.2.2.2.2.2.1, hG.2.2.2.2.2.2.2.2.2.2.2.2.2.2.2.2.2.2.2.2.2.1, c22, hG.2.2.2.2.2.2.2.2.2.2.2.2.2.2.2.2.2.2.2.2.2.2.2.1, c24⟩⟩
theorem sx_q_s_gndB_2 {γ : Nat → Int} {A : Nat → Nat → Int} {j : Nat} {y : Int} (hG : sx_G0 γ A) (f0 : 0 ≤ (-2) + (1 * (j : Int) + 0)) (f1 : 0 ≤ 2 + ((-1) * (j : Int) + 0)) (c22 : sx_gfn (γ 18517) (0 + 0) ((-1) + 0) (sx_au A 104 j y 104)) (c24 : sx_gn (γ 18528) (γ 18529) (0 + (1 * y + 0)) (γ 18531) (γ 18532) (γ 18533) (γ 18534) (γ 18535) (sx_au A 104 j y 104)) : ∃ a ∈ sx_r_s_gndB.2, ∃ w : Nat → Int, (∀ (i : Nat) p, a.1[i]? = some p → p.2.1 ≤ w i ∧ w i ≤ p.2.2) ∧ (∀ f ∈ a.2.1, 0 ≤ sx_d (sx_th γ (j : Int) y w) f) ∧ (∀ e, a.2.2.2.head? = some e → sx_d (sx_th γ (j : Int) y w) e = y) ∧ sx_G0 (sx_gu γ (sx_th γ (j : Int) y w) a.2.2.1) (if true = true then sx_au A 104 j y else A) := ⟨([], [((-2), [(19000, 1)]), (2, [(19000, (-1))])], [(18530, (0, [(19001, 1)])), (18518, (0, [])), (18519, ((-1), []))], []), List.Mem.tail _ (List.Mem.tail _ (List.Mem.head _)), (fun _ => 0), fun i p hi => (by
    match i, hi with
    | n + 0, hi => simp at hi), fun f hf => (by
    simp only [List.mem_cons, List.not_mem_nil, or_false] at hf
    rcases hf with rfl | rfl
    · exact f0
    · exact f1
    ), fun e he => (by cases he), ⟨hG.1, hG.2.1, hG.2.2.1, hG.2.2.2.1, hG.2.2.2.2.1, hG.2.2.2.2.2.1, hG.2.2.2.2.2.2.1, hG.2.2.2.2.2.2.2.1, hG.2.2.2.2.2.2.2.2.1, hG.2.2.2.2.2.2.2.2.2.1, hG.2.2.2.2.2.2.2.2.2.2.1, hG.2.2.2.2.2.2.2.2.2.2.2.1, hG.2.2.2.2.2.2.2.2.2.2.2.2.1, hG.2.2.2.2.2.2.2.2.2.2.2.2.2.1, hG.2.2.2.2.2.2.2.2.2.2.2.2.2.2.1, hG.2.2.2.2.2.2.2.2.2.2.2.2.2.2.2.1, hG.2.2.2.2.2.2.2.2.2.2.2.2.2.2.2.2.1, hG.2.2.2.2.2.2.2.2.2.2.2.2.2.2.2.2.2.1, hG.2.2.2.2.2.2.2.2.2.2.2.2.2.2.2.2.2.2.1, hG.2.2.2.2.2.2.2.2.2.2.2.2.2.2.2.2.2.2.2.1, hG.2.2.2.2.2.2.2.2.2.2.2.2.2.2.2.2.2.2.2.2.1, hG.2.2.2.2.2.2.2.2.2.2.2.2.2.2.2.2.2.2.2.2.2.1, c22, hG.2.2.2.2.2.2.2.2.2.2.2.2.2.2.2.2.2.2.2.2.2.2.2.1, c24⟩⟩
theorem sx_q_s_gndB_3 {γ : Nat → Int} {A : Nat → Nat → Int} {j : Nat} {y : Int} (hG : sx_G0 γ A) (f0 : 0 ≤ (-3) + (1 * (j : Int) + 0)) (f1 : 0 ≤ 3 + ((-1) * (j : Int) + 0)) (c22 : sx_gfn (γ 18517) (0 + 0) ((-1) + 0) (sx_au A 104 j y 104)) (c24 : sx_gn (γ 18528) (γ 18529) (γ 18530) (0 + (1 * y + 0)) (γ 18532) (γ 18533) (γ 18534) (γ 18535) (sx_au A 104 j y 104)) : ∃ a ∈ sx_r_s_gndB.2, ∃ w : Nat → Int, (∀ (i : Nat) p, a.1[i]? = some p → p.2.1 ≤ w i ∧ w i ≤ p.2.2) ∧ (∀ f ∈ a.2.1, 0 ≤ sx_d (sx_th γ (j : Int) y w) f) ∧ (∀ e, a.2.2.2.head? = some e → sx_d (sx_th γ (j : Int) y w) e = y) ∧ sx_G0 (sx_gu γ (sx_th γ (j : Int) y w) a.2.2.1) (if true = true then sx_au A 104 j y else A) := ⟨([], [((-3), [(19000, 1)]), (3, [(19000, (-1))])], [(18531, (0, [(19001, 1)])), (18518, (0, [])), (18519, ((-1), []))], []), List.Mem.tail _ (List.Mem.tail _ (List.Mem.tail _ (List.Mem.head _))), (fun _ => 0), fun i p hi => (by
    match i, hi with
    | n + 0, hi => simp at hi), fun f hf => (by
    simp only [List.mem_cons, List.not_mem_nil, or_false] at hf
    rcases hf with rfl | rfl
    · exact f0
    · exact f1
    ), fun e he => (by cases he), ⟨hG.1, hG.2.1, hG.2.2.1, hG.2.2.2.1, hG.2.2.2.2.1, hG.2.2.2.2.2.1, hG.2.2.2.2.2.2.1, hG.2.2.2.2.2.2.2.1, hG.2.2.2.2.2.2.2.2.1, hG.2.2.2.2.2.2.2.2.2.1, hG.2.2.2.2.2.2.2.2.2.2.1, hG.2.2.2.2.2.2.2.2.2.2.2.1, hG.2.2.2.2.2.2.2.2.2.2.2.2.1, hG.2.2.2.2.2.2.2.2.2.2.2.2.2.1, hG.2.2.2.2.2.2.2.2.2.2.2.2.2.2.1, hG.2.2.2.2.2.2.2.2.2.2.2.2.2.2.2.1, hG.2.2.2.2.2.2.2.2.2.2.2.2.2.2.2.2.1, hG.2.2.2.2.2.2.2.2.2.2.2.2.2.2.2.2.2.1, hG.2.2.2.2.2.2.2.2.2.2.2.2.2.2.2.2.2.2.1, hG.2.2.2.2.2.2.2.2.2.2.2.2.2.2.2.2.2.2.2.1, hG.2.2.2.2.2.2.2.2.2.2.2.2.2.2.2.2.2.2.2.2.1, hG.2.2.2.2.2.2.2.2.2.2.2.2.2.2.2.2.2.2.2.2.2.1, c22, hG.2.2.2.2.2.2.2.2.2.2.2.2.2.2.2.2.2.2.2.2.2.2.2.1, c24⟩⟩
theorem sx_q_s_gndB_4 {γ : Nat → Int} {A : Nat → Nat → Int} {j : Nat} {y : Int} (hG : sx_G0 γ A) (f0 : 0 ≤ (-4) + (1 * (j : Int) + 0)) (f1 : 0 ≤ 4 + ((-1) * (j : Int) + 0)) (c22 : sx_gfn (γ 18517) (0 + 0) ((-1) + 0) (sx_au A 104 j y 104)) (c24 : sx_gn (γ 18528) (γ 18529) (γ 18530) (γ 18531) (0 + (1 * y + 0)) (γ 18533) (γ 18534) (γ 18535) (sx_au A 104 j y 104)) : ∃ a ∈ sx_r_s_gndB.2, ∃ w : Nat → Int, (∀ (i : Nat) p, a.1[i]? = some p → p.2.1 ≤ w i ∧ w i ≤ p.2.2) ∧ (∀ f ∈ a.2.1, 0 ≤ sx_d (sx_th γ (j : Int) y w) f) ∧ (∀ e, a.2.2.2.head? = some e → sx_d (sx_th γ (j : Int) y w) e = y) ∧ sx_G0 (sx_gu γ (sx_th γ (j : Int) y w) a.2.2.1) (if true = true then sx_au A 104 j y else A) := ⟨([], [((-4), [(19000, 1)]), (4, [(19000, (-1))])], [(18532, (0, [(19001, 1)])), (18518, (0, [])), (18519, ((-1), []))], []), List.Mem.tail _ (List.Mem.tail _ (List.Mem.tail _ (List.Mem.tail _ (List.Mem.head _)))), (fun _ => 0), fun i p hi => (by
    match i, hi with
    | n + 0, hi => simp at hi), fun f hf => (by
    simp only [List.mem_cons, List.not_mem_nil, or_false] at hf
    rcases hf with rfl | rfl
    · exact f0
    · exact f1
    ), fun e he => (by cases he), ⟨hG.1, hG.2.1, hG.2.2.1, hG.2.2.2.1, hG.2.2.2.2.1, hG.2.2.2.2.2.1, hG.2.2.2.2.2.2.1, hG.2.2.2.2.2.2.2.1, hG.2.2.2.2.2.2.2.2.1, hG.2.2.2.2.2.2.2.2.2.1, hG.2.2.2.2.2.2.2.2.2.2.1, hG.2.2.2.2.2.2.2.2.2.2.2.1, hG.2.2.2.2.2.2.2.2.2.2.2.2.1, hG.2.2.2.2.2.2.2.2.2.2.2.2.2.1, hG.2.2.2.2.2.2.2.2.2.2.2.2.2.2.1, hG.2.2.2.2.2.2.2.2.2.2.2.2.2.2.2.1, hG.2.2.2.2.2.2.2.2.2.2.2.2.2.2.2.2.1, hG.2.2.2.2.2.2.2.2.2.2.2.2.2.2.2.2.2.1, hG.2.2.2.2.2.2.2.2.2.2.2.2.2.2.2.2.2.2.1, hG.2.2.2.2.2.2.2.2.2.2.2.2.2.2.2.2.2.2.2.1, hG.2.2.2.2.2.2.2.2.2.2.2.2.2.2.2.2.2.2.2.2.1, hG.2.2.2.2.2.2.2.2.2.2.2.2.2.2.2.2.2.2.2.2.2.1, c22, hG.2.2.2.2.2.2.2.2.2.2.2.2.2.2.2.2.2.2.2.2.2.2.2.1, c24⟩⟩
theorem sx_q_s_gndB_5 {γ : Nat → Int} {A : Nat → Nat → Int} {j : Nat} {y : Int} (hG : sx_G0 γ A) (f0 : 0 ≤ (-5) + (1 * (j : Int) + 0)) (f1 : 0 ≤ 5 + ((-1) * (j : Int) + 0)) (c22 : sx_gfn (γ 18517) (0 + 0) ((-1) + 0) (sx_au A 104 j y 104)) (c24 : sx_gn (γ 18528) (γ 18529) (γ 18530) (γ 18531) (γ 18532) (0 + (1 * y + 0)) (γ 18534) (γ 18535) (sx_au A 104 j y 104)) : ∃ a ∈ sx_r_s_gndB.2, ∃ w : Nat → Int, (∀ (i : Nat) p, a.1[i]? = some p → p.2.1 ≤ w i ∧ w i ≤ p.2.2) ∧ (∀ f ∈ a.2.1, 0 ≤ sx_d (sx_th γ (j : Int) y w) f) ∧ (∀ e, a.2.2.2.head? = some e → sx_d (sx_th γ (j : Int) y w) e = y) ∧ sx_G0 (sx_gu γ (sx_th γ (j : Int) y w) a.2.2.1) (if true = true then sx_au A 104 j y else A) := ⟨([], [((-5), [(19000, 1)]), (5, [(19000, (-1))])], [(18533, (0, [(19001, 1)])), (18518, (0, [])), (18519, ((-1), []))], []), List.Mem.tail _ (List.Mem.tail _ (List.Mem.tail _ (List.Mem.tail _ (List.Mem.tail _ (List.Mem.head _))))), (fun _ => 0), fun i p hi => (by
    match i, hi with
    | n + 0, hi => simp at hi), fun f hf => (by
    simp only [List.mem_cons, List.not_mem_nil, or_false] at hf
    rcases hf with rfl | rfl
    · exact f0
    · exact f1
    ), fun e he => (by cases he), ⟨hG.1, hG.2.1, hG.2.2.1, hG.2.2.2.1, hG.2.2.2.2.1, hG.2.2.2.2.2.1, hG.2.2.2.2.2.2.1, hG.2.2.2.2.2.2.2.1, hG.2.2.2.2.2.2.2.2.1, hG.2.2.2.2.2.2.2.2.2.1, hG.2.2.2.2.2.2.2.2.2.2.1, hG.2.2.2.2.2.2.2.2.2.2.2.1, hG.2.2.2.2.2.2.2.2.2.2.2.2.1, hG.2.2.2.2.2.2.2.2.2.2.2.2.2.1, hG.2.2.2.2.2.2.2.2.2.2.2.2.2.2.1, hG.2.2.2.2.2.2.2.2.2.2.2.2.2.2.2.1, hG.2.2.2.2.2.2.2.2.2.2.2.2.2.2.2.2.1, hG.2.2.2.2.2.2.2.2.2.2.2.2.2.2.2.2.2.1, hG.2.2.2.2.2.2.2.2.2.2.2.2.2.2.2.2.2.2.1, hG.2.2.2.2.2.2.2.2.2.2.2.2.2.2.2.2.2.2.2.1, hG.2.2.2.2.2.2.2.2.2.2.2.2.2.2.2.2.2.2.2.2.1, hG.2.2.2.2.2.2.2.2.2.2.2.2.2.2.2.2.2.2.2.2.2.1, c22, hG.2.2.2.2.2.2.2.2.2.2.2.2.2.2.2.2.2.2.2.2.2.2.2.1, c24⟩⟩
theorem sx_q_s_gndB_6 {γ : Nat → Int} {A : Nat → Nat → Int} {j : Nat} {y : Int} (hG : sx_G0 γ A) (f0 : 0 ≤ (-6) + (1 * (j : Int) + 0)) (f1 : 0 ≤ 6 + ((-1) * (j : Int) + 0)) (c22 : sx_gfn (γ 18517) (0 + 0) ((-1) + 0) (sx_au A 104 j y 104)) (c24 : sx_gn (γ 18528) (γ 18529) (γ 18530) (γ 18531) (γ 18532) (γ 18533) (0 + (1 * y + 0)) (γ 18535) (sx_au A 104 j y 104)) : ∃ a ∈ sx_r_s_gndB.2, ∃ w : Nat → Int, (∀ (i : Nat) p, a.1[i]? = some p → p.2.1 ≤ w i ∧ w i ≤ p.2.2) ∧ (∀ f ∈ a.2.1, 0 ≤ sx_d (sx_th γ (j : Int) y w) f) ∧ (∀ e, a.2.2.2.head? = some e → sx_d (sx_th γ (j : Int) y w) e = y) ∧ sx_G0 (sx_gu γ (sx_th γ (j : Int) y w) a.2.2.1) (if true = true then sx_au A 104 j y else A) := ⟨([], [((-6), [(19000, 1)]), (6, [(19000, (-1))])], [(18534, (0, [(19001, 1)])), (18518, (0, [])), (18519, ((-1), []))], []), List.Mem.tail _ (List.Mem.tail _ (List.Mem.tail _ (List.Mem.tail _ (List.Mem.tail _ (List.Mem.tail _ (List.Mem.head _)))))), (fun _ => 0), fun i p hi => (by
    match i, hi with
    | n + 0, hi => simp at hi), fun f hf => (by
    simp only [List.mem_cons, List.not_mem_nil, or_false] at hf
    rcases hf with rfl | rfl
    · exact f0
    · exact f1
    ), fun e he => (by cases he), ⟨hG.1, hG.2.1, hG.2.2.1, hG.2.2.2.1, hG.2.2.2.2.1, hG.2.2.2.2.2.1, hG.2.2.2.2.2.2.1, hG.2.2.2.2.2.2.2.1, hG.2.2.2.2.2.2.2.2.1, hG.2.2.2.2.2.2.2.2.2.1, hG.2.2.2.2.2.2.2.2.2.2.1, hG.2.2.2.2.2.2.2.2.2.2.2.1, hG.2.2.2.2.2.2.2.2.2.2.2.2.1, hG.2.2.2.2.2.2.2.2.2.2.2.2.2.1, hG.2.2.2.2.2.2.2.2.2.2.2.2.2.2.1, hG.2.2.2.2.2.2.2.2.2.2.2.2.2.2.2.1, hG.2.2.2.2.2.2.2.2.2.2.2.2.2.2.2.2.1, hG.2.2.2.2.2.2.2.2.2.2.2.2.2.2.2.2.2.1, hG.2.2.2.2.2.2.2.2.2.2.2.2.2.2.2.2.2.2.1, hG.2.2.2.2.2.2.2.2.2.2.2.2.2.2.2.2.2.2.2.1, hG.2.2.2.2.2.2.2.2.2.2.2.2.2.2.2.2.2.2.2.2.1, hG.2.2.2.2.2.2.2.2.2.2.2.2.2.2.2.2.2.2.2.2.2.1, c22, hG.2.2.2.2.2.2.2.2.2.2.2.2.2.2.2.2.2.2.2.2.2.2.2.1, c24⟩⟩
theorem sx_q_s_gndB_7 {γ : Nat → Int} {A : Nat → Nat → Int} {j : Nat} {y : Int} (hG : sx_G0 γ A) (f0 : 0 ≤ (-7) + (1 * (j : Int) + 0)) (f1 : 0 ≤ 7 + ((-1) * (j : Int) + 0)) (c22 : sx_gfn (γ 18517) (0 + 0) ((-1) + 0) (sx_au A 104 j y 104)) (c24 : sx_gn (γ 18528) (γ 18529) (γ 18530) (γ 18531) (γ 18532) (γ 18533) (γ 18534) (0 + (1 * y + 0)) (sx_au A 104 j y 104)) : ∃ a ∈ sx_r_s_gndB.2, ∃ w : Nat → Int, (∀ (i : Nat) p, a.1[i]? = some p → p.2.1 ≤ w i ∧ w i ≤ p.2.2) ∧ (∀ f ∈ a.2.1, 0 ≤ sx_d (sx_th γ (j : Int) y w) f) ∧ (∀ e, a.2.2.2.head? = some e → sx_d (sx_th γ (j : Int) y w) e = y) ∧ sx_G0 (sx_gu γ (sx_th γ (j : Int) y w) a.2.2.1) (if true = true then sx_au A 104 j y else A) := ⟨([], [((-7), [(19000, 1)]), (7, [(19000, (-1))])], [(18535, (0, [(19001, 1)])), (18518, (0, [])), (18519, ((-1), []))], []), List.Mem.tail _ (List.Mem.tail _ (List.Mem.tail _ (List.Mem.tail _ (List.Mem.tail _ (List.Mem.tail _ (List.Mem.tail _ (List.Mem.head _))))))), (fun _ => 0), fun i p hi => (by
    match i, hi with
    | n + 0, hi => simp at hi), fun f hf => (by
    simp only [List.mem_cons, List.not_mem_nil, or_false] at hf
    rcases hf with rfl | rfl
    · exact f0
    · exact f1
    ), fun e he => (by cases he), ⟨hG.1, hG.2.1, hG.2.2.1, hG.2.2.2.1, hG.2.2.2.2.1, hG.2.2.2.2.2.1, hG.2.2.2.2.2.2.1, hG.2.2.2.2.2.2.2.1, hG.2.2.2.2.2.2.2.2.1, hG.2.2.2.2.2.2.2.2.2.1, hG.2.2.2.2.2.2.2.2.2.2.1, hG.2.2.2.2.2.2.2.2.2.2.2.1, hG.2.2.2.2.2.2.2.2.2.2.2.2.1, hG.2.2.2.2.2.2.2.2.2.2.2.2.2.1, hG.2.2.2.2.2.2.2.2.2.2.2.2.2.2.1, hG.2.2.2.2.2.2.2.2.2.2.2.2.2.2.2.1, hG.2.2.2.2.2.2.2.2.2.2.2.2.2.2.2.2.1, hG.2.2.2.2.2.2.2.2.2.2.2.2.2.2.2.2.2.1, hG.2.2.2.2.2.2.2.2.2.2.2.2.2.2.2.2.2.2.1, hG.2.2.2.2.2.2.2.2.2.2.2.2.2.2.2.2.2.2.2.1, hG.2.2.2.2.2.2.2.2.2.2.2.2.2.2.2.2.2.2.2.2.1, hG.2.2.2.2.2.2.2.2.2.2.2.2.2.2.2.2.2.2.2.2.2.1, c22, hG.2.2.2.2.2.2.2.2.2.2.2.2.2.2.2.2.2.2.2.2.2.2.2.1, c24⟩⟩
theorem sx_q_s_tx_0 {γ : Nat → Int} {A : Nat → Nat → Int} {j : Nat} {y : Int} (hG : sx_G0 γ A) (c8 : sx_g7 ((-1) + 0) (0 + 0) (sx_au A 110 j y 110)) : ∃ a ∈ sx_r_s_tx.2, ∃ w : Nat → Int, (∀ (i : Nat) p, a.1[i]? = some p → p.2.1 ≤ w i ∧ w i ≤ p.2.2) ∧ (∀ f ∈ a.2.1, 0 ≤ sx_d (sx_th γ (j : Int) y w) f) ∧ (∀ e, a.2.2.2.head? = some e → sx_d (sx_th γ (j : Int) y w) e = y) ∧ sx_G0 (sx_gu γ (sx_th γ (j : Int) y w) a.2.2.1) (if true = true then sx_au A 110 j y else A) := ⟨([], [], [(18496, ((-1), [])), (18497, (0, []))], []), List.Mem.head _, (fun _ => 0), fun i p hi => (by
    match i, hi with
    | n + 0, hi => simp at hi), fun f hf => (by cases hf), fun e he => (by cases he), ⟨hG.1, hG.2.1, hG.2.2.1, hG.2.2.2.1, hG.2.2.2.2.1, hG.2.2.2.2.2.1, hG.2.2.2.2.2.2.1, hG.2.2.2.2.2.2.2.1, c8, hG.2.2.2.2.2.2.2.2.2.1, hG.2.2.2.2.2.2.2.2.2.2.1, hG.2.2.2.2.2.2.2.2.2.2.2.1, hG.2.2.2.2.2.2.2.2.2.2.2.2.1, hG.2.2.2.2.2.2.2.2.2.2.2.2.2.1, hG.2.2.2.2.2.2.2.2.2.2.2.2.2.2.1, hG.2.2.2.2.2.2.2.2.2.2.2.2.2.2.2.1, hG.2.2.2.2.2.2.2.2.2.2.2.2.2.2.2.2.1, hG.2.2.2.2.2.2.2.2.2.2.2.2.2.2.2.2.2.1, hG.2.2.2.2.2.2.2.2.2.2.2.2.2.2.2.2.2.2.1, hG.2.2.2.2.2.2.2.2.2.2.2.2.2.2.2.2.2.2.2.1, hG.2.2.2.2.2.2.2.2.2.2.2.2.2.2.2.2.2.2.2.2.1, hG.2.2.2.2.2.2.2.2.2.2.2.2.2.2.2.2.2.2.2.2.2.1, hG.2.2.2.2.2.2.2.2.2.2.2.2.2.2.2.2.2.2.2.2.2.2.1, hG.2.2.2.2.2.2.2.2.2.2.2.2.2.2.2.2.2.2.2.2.2.2.2.1, hG.2.2.2.2.2.2.2.2.2.2.2.2.2.2.2.2.2.2.2.2.2.2.2.2⟩⟩
theorem sx_q_s_sayA_0 {γ : Nat → Int} {A : Nat → Nat → Int} {j : Nat} {y : Int} (hG : sx_G0 γ A) (c11 : sx_x1 (γ 18461) (A 117) (A 119) (A 120) (A 121) (A 115) (A 116) (A 113) (A 114) (sx_au A 111 j y 111)) (c12 : sx_x2 (γ 18461) (0 + 0) (0 + 0) (0 + 0) ((-1) + 0) (0 + 0) (0 + 0) (0 + 0) ((-1) + 0) ((-1) + 0) ((-1) + 0) (0 + 0) (0 + 0) (A 117) (A 119) (A 120) (A 121) (A 116) (A 114) (sx_au A 111 j y 111)) : ∃ a ∈ sx_r_s_sayA.2, ∃ w : Nat → Int, (∀ (i : Nat) p, a.1[i]? = some p → p.2.1 ≤ w i ∧ w i ≤ p.2.2) ∧ (∀ f ∈ a.2.1, 0 ≤ sx_d (sx_th γ (j : Int) y w) f) ∧ (∀ e, a.2.2.2.head? = some e → sx_d (sx_th γ (j : Int) y w) e = y) ∧ sx_G0 (sx_gu γ (sx_th γ (j : Int) y w) a.2.2.1) (if true = true then sx_au A 111 j y else A) := ⟨([], [], [(18462, (0, [])), (18463, (0, [])), (18464, (0, [])), (18465, ((-1), [])), (18466, (0, [])), (18467, (0, [])), (18468, (0, [])), (18469, ((-1), [])), (18470, ((-1), [])), (18471, ((-1), [])), (18472, (0, [])), (18473, (0, []))], []), List.Mem.head _, (fun _ => 0), fun i p hi => (by
    match i, hi with
    | n + 0, hi => simp at hi), fun f hf => (by cases hf), fun e he => (by cases he), ⟨hG.1, hG.2.1, hG.2.2.1, hG.2.2.2.1, hG.2.2.2.2.1, hG.2.2.2.2.2.1, hG.2.2.2.2.2.2.1, hG.2.2.2.2.2.2.2.1, hG.2.2.2.2.2.2.2.2.1, hG.2.2.2.2.2.2.2.2.2.1, hG.2.2.2.2.2.2.2.2.2.2.1, c11, c12, hG.2.2.2.2.2.2.2.2.2.2.2.2.2.1, hG.2.2.2.2.2.2.2.2.2.2.2.2.2.2.1, hG.2.2.2.2.2.2.2.2.2.2.2.2.2.2.2.1, hG.2.2.2.2.2.2.2.2.2.2.2.2.2.2.2.2.1, hG.2.2.2.2.2.2.2.2.2.2.2.2.2.2.2.2.2.1, hG.2.2.2.2.2.2.2.2.2.2.2.2.2.2.2.2.2.2.1, hG.2.2.2.2.2.2.2.2.2.2.2.2.2.2.2.2.2.2.2.1, hG.2.2.2.2.2.2.2.2.2.2.2.2.2.2.2.2.2.2.2.2.1, hG.2.2.2.2.2.2.2.2.2.2.2.2.2.2.2.2.2.2.2.2.2.1, hG.2.2.2.2.2.2.2.2.2.2.2.2.2.2.2.2.2.2.2.2.2.2.1, hG.2.2.2.2.2.2.2.2.2.2.2.2.2.2.2.2.2.2.2.2.2.2.2.1, hG.2.2.2.2.2.2.2.2.2.2.2.2.2.2.2.2.2.2.2.2.2.2.2.2⟩⟩
theorem sx_q_s_sayB_0 {γ : Nat → Int} {A : Nat → Nat → Int} {j : Nat} {y : Int} (hG : sx_G0 γ A) (c11 : sx_x1 ((-1) + 0) (A 117) (A 119) (A 120) (A 121) (A 115) (A 116) (A 113) (A 114) (sx_au A 111 j y 111)) (c12 : sx_x2 ((-1) + 0) (0 + 0) (0 + 0) (0 + 0) ((-1) + 0) (0 + 0) (0 + 0) (0 + 0) ((-1) + 0) ((-1) + 0) ((-1) + 0) (0 + 0) (0 + 0) (A 117) (A 119) (A 120) (A 121) (A 116) (A 114) (sx_au A 111 j y 111)) (c14 : sx_x4 ((-1) + 0) (γ 18485) (γ 18486) (γ 18487) (γ 18488) (γ 18489) (A 117) (A 119) (A 120) (A 121) (A 115) (A 116) (A 113) (A 114)) (c15 : sx_x5 (0 + 0) (γ 18499) (γ 18500) (A 117) (A 119) (A 120) (A 121) (A 115) (A 116) (A 113) (A 114)) : ∃ a ∈ sx_r_s_sayB.2, ∃ w : Nat → Int, (∀ (i : Nat) p, a.1[i]? = some p → p.2.1 ≤ w i ∧ w i ≤ p.2.2) ∧ (∀ f ∈ a.2.1, 0 ≤ sx_d (sx_th γ (j : Int) y w) f) ∧ (∀ e, a.2.2.2.head? = some e → sx_d (sx_th γ (j : Int) y w) e = y) ∧ sx_G0 (sx_gu γ (sx_th γ (j : Int) y w) a.2.2.1) (if true = true then sx_au A 111 j y else A) := ⟨([], [], [(18462, (0, [])), (18463, (0, [])), (18464, (0, [])), (18465, ((-1), [])), (18466, (0, [])), (18467, (0, [])), (18468, (0, [])), (18469, ((-1), [])), (18470, ((-1), [])), (18471, ((-1), [])), (18472, (0, [])), (18473, (0, [])), (18498, (0, [])), (18461, ((-1), []))], []), List.Mem.head _, (fun _ => 0), fun i p hi => (by
    match i, hi with
    | n + 0, hi => simp at hi), fun f hf => (by cases hf), fun e he => (by cases he), ⟨hG.1, hG.2.1, hG.2.2.1, hG.2.2.2.1, hG.2.2.2.2.1, hG.2.2.2.2.2.1, hG.2.2.2.2.2.2.1, hG.2.2.2.2.2.2.2.1, hG.2.2.2.2.2.2.2.2.1, hG.2.2.2.2.2.2.2.2.2.1, hG.2.2.2.2.2.2.2.2.2.2.1, c11, c12, hG.2.2.2.2.2.2.2.2.2.2.2.2.2.1, c14, c15, hG.2.2.2.2.2.2.2.2.2.2.2.2.2.2.2.2.1, hG.2.2.2.2.2.2.2.2.2.2.2.2.2.2.2.2.2.1, hG.2.2.2.2.2.2.2.2.2.2.2.2.2.2.2.2.2.2.1, hG.2.2.2.2.2.2.2.2.2.2.2.2.2.2.2.2.2.2.2.1, hG.2.2.2.2.2.2.2.2.2.2.2.2.2.2.2.2.2.2.2.2.1, hG.2.2.2.2.2.2.2.2.2.2.2.2.2.2.2.2.2.2.2.2.2.1, hG.2.2.2.2.2.2.2.2.2.2.2.2.2.2.2.2.2.2.2.2.2.2.1, hG.2.2.2.2.2.2.2.2.2.2.2.2.2.2.2.2.2.2.2.2.2.2.2.1, hG.2.2.2.2.2.2.2.2.2.2.2.2.2.2.2.2.2.2.2.2.2.2.2.2⟩⟩
theorem sx_q_s_sfA_0 {γ : Nat → Int} {A : Nat → Nat → Int} {j : Nat} {y : Int} (hG : sx_G0 γ A) (c11 : sx_x1 (γ 18461) (A 117) (A 119) (A 120) (A 121) (A 115) (A 116) (sx_au A 113 j y 113) (A 114) (A 111)) (c12 : sx_x2 (γ 18461) (0 + 0) (0 + 0) (0 + 0) ((-1) + 0) (0 + 0) (0 + 0) (0 + 0) ((-1) + 0) ((-1) + 0) ((-1) + 0) (0 + 0) (0 + 0) (A 117) (A 119) (A 120) (A 121) (A 116) (A 114) (A 111)) (c13 : sx_x3 (0 + (1 * y + 0)) (0 + (1 * y + 0)) (0 + 0) (0 + 0) (γ 18478) (γ 18479) (1 + 0) (0 + (1 * y + 0)) (γ 18482) (γ 18483) (γ 18484) (A 117) (A 119) (A 120) (A 121) (A 115) (A 116) (sx_au A 113 j y 113) (A 114)) (c14 : sx_x4 (γ 18461) (γ 18485) (γ 18486) (γ 18487) (γ 18488) (γ 18489) (A 117) (A 119) (A 120) (A 121) (A 115) (A 116) (sx_au A 113 j y 113) (A 114)) (c15 : sx_x5 (0 + 0) (γ 18499) (γ 18500) (A 117) (A 119) (A 120) (A 121) (A 115) (A 116) (sx_au A 113 j y 113) (A 114)) : ∃ a ∈ sx_r_s_sfA.2, ∃ w : Nat → Int, (∀ (i : Nat) p, a.1[i]? = some p → p.2.1 ≤ w i ∧ w i ≤ p.2.2) ∧ (∀ f ∈ a.2.1, 0 ≤ sx_d (sx_th γ (j : Int) y w) f) ∧ (∀ e, a.2.2.2.head? = some e → sx_d (sx_th γ (j : Int) y w) e = y) ∧ sx_G0 (sx_gu γ (sx_th γ (j : Int) y w) a.2.2.1) (if true = true then sx_au A 113 j y else A) := ⟨([], [], [(18462, (0, [])), (18463, (0, [])), (18464, (0, [])), (18465, ((-1), [])), (18466, (0, [])), (18467, (0, [])), (18468, (0, [])), (18469, ((-1), [])), (18470, ((-1), [])), (18471, ((-1), [])), (18472, (0, [])), (18473, (0, [])), (18498, (0, [])), (18480, (1, [])), (18481, (0, [(19001, 1)])), (18474, (0, [(19001, 1)])), (18475, (0, [(19001, 1)])), (18476, (0, [])), (18477, (0, []))], []), List.Mem.head _, (fun _ => 0), fun i p hi => (by
    match i, hi with
    | n + 0, hi => simp at hi), fun f hf => (by cases hf), fun e he => (by cases he), ⟨hG.1, hG.2.1, hG.2.2.1, hG.2.2.2.1, hG.2.2.2.2.1, hG.2.2.2.2.2.1, hG.2.2.2.2.2.2.1, hG.2.2.2.2.2.2.2.1, hG.2.2.2.2.2.2.2.2.1, hG.2.2.2.2.2.2.2.2.2.1, hG.2.2.2.2.2.2.2.2.2.2.1, c11, c12, c13, c14, c15, hG.2.2.2.2.2.2.2.2.2.2.2.2.2.2.2.2.1, hG.2.2.2.2.2.2.2.2.2.2.2.2.2.2.2.2.2.1, hG.2.2.2.2.2.2.2.2.2.2.2.2.2.2.2.2.2.2.1, hG.2.2.2.2.2.2.2.2.2.2.2.2.2.2.2.2.2.2.2.1, hG.2.2.2.2.2.2.2.2.2.2.2.2.2.2.2.2.2.2.2.2.1, hG.2.2.2.2.2.2.2.2.2.2.2.2.2.2.2.2.2.2.2.2.2.1, hG.2.2.2.2.2.2.2.2.2.2.2.2.2.2.2.2.2.2.2.2.2.2.1, hG.2.2.2.2.2.2.2.2.2.2.2.2.2.2.2.2.2.2.2.2.2.2.2.1, hG.2.2.2.2.2.2.2.2.2.2.2.2.2.2.2.2.2.2.2.2.2.2.2.2⟩⟩
theorem sx_q_s_sfC_0 {γ : Nat → Int} {A : Nat → Nat → Int} {j : Nat} {y : Int} (hG : sx_G0 γ A) (c11 : sx_x1 (γ 18461) (A 117) (A 119) (A 120) (A 121) (A 115) (A 116) (sx_au A 113 j y 113) (A 114) (A 111)) (c12 : sx_x2 (γ 18461) (0 + 0) (0 + 0) (0 + 0) ((-1) + 0) (0 + 0) (0 + 0) (0 + 0) ((-1) + 0) ((-1) + 0) ((-1) + 0) (0 + 0) (0 + 0) (A 117) (A 119) (A 120) (A 121) (A 116) (A 114) (A 111)) (c13 : sx_x3 (γ 18474) (γ 18475) (γ 18476) (γ 18477) (γ 18478) (γ 18479) (γ 18480) (γ 18481) (γ 18482) (γ 18483) (γ 18484) (A 117) (A 119) (A 120) (A 121) (A 115) (A 116) (sx_au A 113 j y 113) (A 114)) (c14 : sx_x4 (γ 18461) (γ 18485) (γ 18486) (γ 18487) (γ 18488) (1 + 0) (A 117) (A 119) (A 120) (A 121) (A 115) (A 116) (sx_au A 113 j y 113) (A 114)) (c15 : sx_x5 (0 + 0) (γ 18499) (γ 18500) (A 117) (A 119) (A 120) (A 121) (A 115) (A 116) (sx_au A 113 j y 113) (A 114)) : ∃ a ∈ sx_r_s_sfC.2, ∃ w : Nat → Int, (∀ (i : Nat) p, a.1[i]? = some p → p.2.1 ≤ w i ∧ w i ≤ p.2.2) ∧ (∀ f ∈ a.2.1, 0 ≤ sx_d (sx_th γ (j : Int) y w) f) ∧ (∀ e, a.2.2.2.head? = some e → sx_d (sx_th γ (j : Int) y w) e = y) ∧ sx_G0 (sx_gu γ (sx_th γ (j : Int) y w) a.2.2.1) (if true = true then sx_au A 113 j y else A) := ⟨([], [], [(18462, (0, [])), (18463, (0, [])), (18464, (0, [])), (18465, ((-1), [])), (18466, (0, [])), (18467, (0, [])), (18468, (0, [])), (18469, ((-1), [])), (18470, ((-1), [])), (18471, ((-1), [])), (18472, (0, [])), (18473, (0, [])), (18498, (0, [])), (18489, (1, []))], []), List.Mem.head _, (fun _ => 0), fun i p hi => (by
    match i, hi with
    | n + 0, hi => simp at hi), fun f hf => (by cases hf), fun e he => (by cases he), ⟨hG.1, hG.2.1, hG.2.2.1, hG.2.2.2.1, hG.2.2.2.2.1, hG.2.2.2.2.2.1, hG.2.2.2.2.2.2.1, hG.2.2.2.2.2.2.2.1, hG.2.2.2.2.2.2.2.2.1, hG.2.2.2.2.2.2.2.2.2.1, hG.2.2.2.2.2.2.2.2.2.2.1, c11, c12, c13, c14, c15, hG.2.2.2.2.2.2.2.2.2.2.2.2.2.2.2.2.1, hG.2.2.2.2.2.2.2.2.2.2.2.2.2.2.2.2.2.1, hG.2.2.2.2.2.2.2.2.2.2.2.2.2.2.2.2.2.2.1, hG.2.2.2.2.2.2.2.2.2.2.2.2.2.2.2.2.2.2.2.1, hG.2.2.2.2.2.2.2.2.2.2.2.2.2.2.2.2.2.2.2.2.1, hG.2.2.2.2.2.2.2.2.2.2.2.2.2.2.2.2.2.2.2.2.2.1, hG.2.2.2.2.2.2.2.2.2.2.2.2.2.2.2.2.2.2.2.2.2.2.1, hG.2.2.2.2.2.2.2.2.2.2.2.2.2.2.2.2.2.2.2.2.2.2.2.1, hG.2.2.2.2.2.2.2.2.2.2.2.2.2.2.2.2.2.2.2.2.2.2.2.2⟩⟩
theorem sx_q_s_stA_0 {γ : Nat → Int} {A : Nat → Nat → Int} {j : Nat} {y : Int} (hG : sx_G0 γ A) (c11 : sx_x1 (γ 18461) (A 117) (A 119) (A 120) (A 121) (A 115) (A 116) (A 113) (sx_au A 114 j y 114) (A 111)) (c12 : sx_x2 (γ 18461) (0 + 0) (0 + 0) (0 + 0) ((-1) + 0) (0 + 0) (0 + 0) (0 + 0) ((-1) + 0) ((-1) + 0) ((-1) + 0) (0 + 0) (0 + 0) (A 117) (A 119) (A 120) (A 121) (A 116) (sx_au A 114 j y 114) (A 111)) (c13 : sx_x3 (γ 18474) (γ 18475) (γ 18476) (γ 18477) (γ 18478) (γ 18479) (2 + 0) (γ 18481) (0 + (1 * y + 0)) (γ 18483) (γ 18484) (A 117) (A 119) (A 120) (A 121) (A 115) (A 116) (A 113) (sx_au A 114 j y 114)) (c14 : sx_x4 (γ 18461) (γ 18485) (γ 18486) (γ 18487) (γ 18488) (γ 18489) (A 117) (A 119) (A 120) (A 121) (A 115) (A 116) (A 113) (sx_au A 114 j y 114)) (c15 : sx_x5 (0 + 0) (γ 18499) (γ 18500) (A 117) (A 119) (A 120) (A 121) (A 115) (A 116) (A 113) (sx_au A 114 j y 114)) : ∃ a ∈ sx_r_s_stA.2, ∃ w : Nat → Int, (∀ (i : Nat) p, a.1[i]? = some p → p.2.1 ≤ w i ∧ w i ≤ p.2.2) ∧ (∀ f ∈ a.2.1, 0 ≤ sx_d (sx_th γ (j : Int) y w) f) ∧ (∀ e, a.2.2.2.head? = some e → sx_d (sx_th γ (j : Int) y w) e = y) ∧ sx_G0 (sx_gu γ (sx_th γ (j : Int) y w) a.2.2.1) (if true = true then sx_au A 114 j y else A) := ⟨([], [], [(18462, (0, [])), (18463, (0, [])), (18464, (0, [])), (18465, ((-1), [])), (18466, (0, [])), (18467, (0, [])), (18468, (0, [])), (18469, ((-1), [])), (18470, ((-1), [])), (18471, ((-1), [])), (18472, (0, [])), (18473, (0, [])), (18498, (0, [])), (18480, (2, [])), (18482, (0, [(19001, 1)]))], []), List.Mem.head _, (fun _ => 0), fun i p hi => (by
    match i, hi with
    | n + 0, hi => simp at hi), fun f hf => (by cases hf), fun e he => (by cases he), ⟨hG.1, hG.2.1, hG.2.2.1, hG.2.2.2.1, hG.2.2.2.2.1, hG.2.2.2.2.2.1, hG.2.2.2.2.2.2.1, hG.2.2.2.2.2.2.2.1, hG.2.2.2.2.2.2.2.2.1, hG.2.2.2.2.2.2.2.2.2.1, hG.2.2.2.2.2.2.2.2.2.2.1, c11, c12, c13, c14, c15, hG.2.2.2.2.2.2.2.2.2.2.2.2.2.2.2.2.1, hG.2.2.2.2.2.2.2.2.2.2.2.2.2.2.2.2.2.1, hG.2.2.2.2.2.2.2.2.2.2.2.2.2.2.2.2.2.2.1, hG.2.2.2.2.2.2.2.2.2.2.2.2.2.2.2.2.2.2.2.1, hG.2.2.2.2.2.2.2.2.2.2.2.2.2.2.2.2.2.2.2.2.1, hG.2.2.2.2.2.2.2.2.2.2.2.2.2.2.2.2.2.2.2.2.2.1, hG.2.2.2.2.2.2.2.2.2.2.2.2.2.2.2.2.2.2.2.2.2.2.1, hG.2.2.2.2.2.2.2.2.2.2.2.2.2.2.2.2.2.2.2.2.2.2.2.1, hG.2.2.2.2.2.2.2.2.2.2.2.2.2.2.2.2.2.2.2.2.2.2.2.2⟩⟩
theorem sx_q_s_stC_0 {γ : Nat → Int} {A : Nat → Nat → Int} {j : Nat} {y : Int} (hG : sx_G0 γ A) (c11 : sx_x1 (γ 18461) (A 117) (A 119) (A 120) (A 121) (A 115) (A 116) (A 113) (sx_au A 114 j y 114) (A 111)) (c12 : sx_x2 (γ 18461) (0 + 0) (0 + 0) (0 + 0) ((-1) + 0) (0 + 0) (0 + 0) (0 + 0) ((-1) + 0) ((-1) + 0) ((-1) + 0) (0 + 0) (0 + 0) (A 117) (A 119) (A 120) (A 121) (A 116) (sx_au A 114 j y 114) (A 111)) (c13 : sx_x3 (γ 18474) (γ 18475) (γ 18476) (γ 18477) (γ 18478) (γ 18479) (γ 18480) (γ 18481) (γ 18482) (γ 18483) (γ 18484) (A 117) (A 119) (A 120) (A 121) (A 115) (A 116) (A 113) (sx_au A 114 j y 114)) (c14 : sx_x4 (γ 18461) (γ 18485) (γ 18486) (γ 18487) (γ 18488) (2 + 0) (A 117) (A 119) (A 120) (A 121) (A 115) (A 116) (A 113) (sx_au A 114 j y 114)) (c15 : sx_x5 (0 + 0) (γ 18499) (γ 18500) (A 117) (A 119) (A 120) (A 121) (A 115) (A 116) (A 113) (sx_au A 114 j y 114)) : ∃ a ∈ sx_r_s_stC.2, ∃ w : Nat → Int, (∀ (i : Nat) p, a.1[i]? = some p → p.2.1 ≤ w i ∧ w i ≤ p.2.2) ∧ (∀ f ∈ a.2.1, 0 ≤ sx_d (sx_th γ (j : Int) y w) f) ∧ (∀ e, a.2.2.2.head? = some e → sx_d (sx_th γ (j : Int) y w) e = y) ∧ sx_G0 (sx_gu γ (sx_th γ (j : Int) y w) a.2.2.1) (if true = true then sx_au A 114 j y else A) := ⟨([], [], [(18462, (0, [])), (18463, (0, [])), (18464, (0, [])), (18465, ((-1), [])), (18466, (0, [])), (18467, (0, [])), (18468, (0, [])), (18469, ((-1), [])), (18470, ((-1), [])), (18471, ((-1), [])), (18472, (0, [])), (18473, (0, [])), (18498, (0, [])), (18489, (2, []))], []), List.Mem.head _, (fun _ => 0), fun i p hi => (by
    match i, hi with
    | n + 0, hi => simp at hi), fun f hf => (by cases hf), fun e he => (by cases he), ⟨hG.1, hG.2.1, hG.2.2.1, hG.2.2.2.1, hG.2.2.2.2.1, hG.2.2.2.2.2.1, hG.2.2.2.2.2.2.1, hG.2.2.2.2.2.2.2.1, hG.2.2.2.2.2.2.2.2.1, hG.2.2.2.2.2.2.2.2.2.1, hG.2.2.2.2.2.2.2.2.2.2.1, c11, c12, c13, c14, c15, hG.2.2.2.2.2.2.2.2.2.2.2.2.2.2.2.2.1, hG.2.2.2.2.2.2.2.2.2.2.2.2.2.2.2.2.2.1, hG.2.2.2.2.2.2.2.2.2.2.2.2.2.2.2.2.2.2.1, hG.2.2.2.2.2.2.2.2.2.2.2.2.2.2.2.2.2.2.2.1, hG.2.2.2.2.2.2.2.2.2.2.2.2.2.2.2.2.2.2.2.2.1, hG.2.2.2.2.2.2.2.2.2.2.2.2.2.2.2.2.2.2.2.2.2.1, hG.2.2.2.2.2.2.2.2.2.2.2.2.2.2.2.2.2.2.2.2.2.2.1, hG.2.2.2.2.2.2.2.2.2.2.2.2.2.2.2.2.2.2.2.2.2.2.2.1, hG.2.2.2.2.2.2.2.2.2.2.2.2.2.2.2.2.2.2.2.2.2.2.2.2⟩⟩
theorem sx_q_s_tfA_0 {γ : Nat → Int} {A : Nat → Nat → Int} {j : Nat} {y : Int} (hG : sx_G0 γ A) (c11 : sx_x1 (γ 18461) (A 117) (A 119) (A 120) (A 121) (sx_au A 115 j y 115) (A 116) (A 113) (A 114) (A 111)) (c12 : sx_x2 (γ 18461) (0 + 0) (0 + 0) (0 + 0) ((-1) + 0) (0 + 0) (0 + 0) (0 + 0) ((-1) + 0) ((-1) + 0) ((-1) + 0) (0 + 0) (0 + 0) (A 117) (A 119) (A 120) (A 121) (A 116) (A 114) (A 111)) (c13 : sx_x3 (γ 18474) (γ 18475) (γ 18476) (γ 18477) (γ 18478) (γ 18479) (3 + 0) (γ 18481) (γ 18482) (0 + (1 * y + 0)) (γ 18484) (A 117) (A 119) (A 120) (A 121) (sx_au A 115 j y 115) (A 116) (A 113) (A 114)) (c14 : sx_x4 (γ 18461) (γ 18485) (γ 18486) (γ 18487) (γ 18488) (γ 18489) (A 117) (A 119) (A 120) (A 121) (sx_au A 115 j y 115) (A 116) (A 113) (A 114)) (c15 : sx_x5 (0 + 0) (γ 18499) (γ 18500) (A 117) (A 119) (A 120) (A 121) (sx_au A 115 j y 115) (A 116) (A 113) (A 114)) : ∃ a ∈ sx_r_s_tfA.2, ∃ w : Nat → Int, (∀ (i : Nat) p, a.1[i]? = some p → p.2.1 ≤ w i ∧ w i ≤ p.2.2) ∧ (∀ f ∈ a.2.1, 0 ≤ sx_d (sx_th γ (j : Int) y w) f) ∧ (∀ e, a.2.2.2.head? = some e → sx_d (sx_th γ (j : Int) y w) e = y) ∧ sx_G0 (sx_gu γ (sx_th γ (j : Int) y w) a.2.2.1) (if true = true then sx_au A 115 j y else A) := ⟨([], [], [(18462, (0, [])), (18463, (0, [])), (18464, (0, [])), (18465, ((-1), [])), (18466, (0, [])), (18467, (0, [])), (18468, (0, [])), (18469, ((-1), [])), (18470, ((-1), [])), (18471, ((-1), [])), (18472, (0, [])), (18473, (0, [])), (18498, (0, [])), (18480, (3, [])), (18483, (0, [(19001, 1)]))], []), List.Mem.head _, (fun _ => 0), fun i p hi => (by
    match i, hi with
    | n + 0, hi => simp at hi), fun f hf => (by cases hf), fun e he => (by cases he), ⟨hG.1, hG.2.1, hG.2.2.1, hG.2.2.2.1, hG.2.2.2.2.1, hG.2.2.2.2.2.1, hG.2.2.2.2.2.2.1, hG.2.2.2.2.2.2.2.1, hG.2.2.2.2.2.2.2.2.1, hG.2.2.2.2.2.2.2.2.2.1, hG.2.2.2.2.2.2.2.2.2.2.1, c11, c12, c13, c14, c15, hG.2.2.2.2.2.2.2.2.2.2.2.2.2.2.2.2.1, hG.2.2.2.2.2.2.2.2.2.2.2.2.2.2.2.2.2.1, hG.2.2.2.2.2.2.2.2.2.2.2.2.2.2.2.2.2.2.1, hG.2.2.2.2.2.2.2.2.2.2.2.2.2.2.2.2.2.2.2.1, hG.2.2.2.2.2.2.2.2.2.2.2.2.2.2.2.2.2.2.2.2.1, hG.2.2.2.2.2.2.2.2.2.2.2.2.2.2.2.2.2.2.2.2.2.1, hG.2.2.2.2.2.2.2.2.2.2.2.2.2.2.2.2.2.2.2.2.2.2.1, hG.2.2.2.2.2.2.2.2.2.2.2.2.2.2.2.2.2.2.2.2.2.2.2.1, hG.2.2.2.2.2.2.2.2.2.2.2.2.2.2.2.2.2.2.2.2.2.2.2.2⟩⟩
theorem sx_q_s_tfC_0 {γ : Nat → Int} {A : Nat → Nat → Int} {j : Nat} {y : Int} (hG : sx_G0 γ A) (c11 : sx_x1 (γ 18461) (A 117) (A 119) (A 120) (A 121) (sx_au A 115 j y 115) (A 116) (A 113) (A 114) (A 111)) (c12 : sx_x2 (γ 18461) (0 + 0) (0 + 0) (0 + 0) ((-1) + 0) (0 + 0) (0 + 0) (0 + 0) ((-1) + 0) ((-1) + 0) ((-1) + 0) (0 + 0) (0 + 0) (A 117) (A 119) (A 120) (A 121) (A 116) (A 114) (A 111)) (c13 : sx_x3 (γ 18474) (γ 18475) (γ 18476) (γ 18477) (γ 18478) (γ 18479) (γ 18480) (γ 18481) (γ 18482) (γ 18483) (γ 18484) (A 117) (A 119) (A 120) (A 121) (sx_au A 115 j y 115) (A 116) (A 113) (A 114)) (c14 : sx_x4 (γ 18461) (γ 18485) (γ 18486) (γ 18487) (γ 18488) (3 + 0) (A 117) (A 119) (A 120) (A 121) (sx_au A 115 j y 115) (A 116) (A 113) (A 114)) (c15 : sx_x5 (0 + 0) (γ 18499) (γ 18500) (A 117) (A 119) (A 120) (A 121) (sx_au A 115 j y 115) (A 116) (A 113) (A 114)) : ∃ a ∈ sx_r_s_tfC.2, ∃ w : Nat → Int, (∀ (i : Nat) p, a.1[i]? = some p → p.2.1 ≤ w i ∧ w i ≤ p.2.2) ∧ (∀ f ∈ a.2.1, 0 ≤ sx_d (sx_th γ (j : Int) y w) f) ∧ (∀ e, a.2.2.2.head? = some e → sx_d (sx_th γ (j : Int) y w) e = y) ∧ sx_G0 (sx_gu γ (sx_th γ (j : Int) y w) a.2.2.1) (if true = true then sx_au A 115 j y else A) := ⟨([], [], [(18462, (0, [])), (18463, (0, [])), (18464, (0, [])), (18465, ((-1), [])), (18466, (0, [])), (18467, (0, [])), (18468, (0, [])), (18469, ((-1), [])), (18470, ((-1), [])), (18471, ((-1), [])), (18472, (0, [])), (18473, (0, [])), (18498, (0, [])), (18489, (3, []))], []), List.Mem.head _, (fun _ => 0), fun i p hi => (by
    match i, hi with
    | n + 0, hi => simp at hi), fun f hf => (by cases hf), fun e he => (by cases he), ⟨hG.1, hG.2.1, hG.2.2.1, hG.2.2.2.1, hG.2.2.2.2.1, hG.2.2.2.2.2.1, hG.2.2.2.2.2.2.1, hG.2.2.2.2.2.2.2.1, hG.2.2.2.2.2.2.2.2.1, hG.2.2.2.2.2.2.2.2.2.1, hG.2.2.2.2.2.2.2.2.2.2.1, c11, c12, c13, c14, c15, hG.2.2.2.2.2.2.2.2.2.2.2.2.2.2.2.2.1, hG.2.2.2.2.2.2.2.2.2.2.2.2.2.2.2.2.2.1, hG.2.2.2.2.2.2.2.2.2.2.2.2.2.2.2.2.2.2.1, hG.2.2.2.2.2.2.2.2.2.2.2.2.2.2.2.2.2.2.2.1, hG.2.2.2.2.2.2.2.2.2.2.2.2.2.2.2.2.2.2.2.2.1, hG.2.2.2.2.2.2.2.2.2.2.2.2.2.2.2.2.2.2.2.2.2.1, hG.2.2.2.2.2.2.2.2.2.2.2.2.2.2.2.2.2.2.2.2.2.2.1, hG.2.2.2.2.2.2.2.2.2.2.2.2.2.2.2.2.2.2.2.2.2.2.2.1, hG.2.2.2.2.2.2.2.2.2.2.2.2.2.2.2.2.2.2.2.2.2.2.2.2⟩⟩
theorem sx_q_s_ttA_0 {γ : Nat → Int} {A : Nat → Nat → Int} {j : Nat} {y : Int} (hG : sx_G0 γ A) (c11 : sx_x1 (γ 18461) (A 117) (A 119) (A 120) (A 121) (A 115) (sx_au A 116 j y 116) (A 113) (A 114) (A 111)) (c12 : sx_x2 (γ 18461) (0 + 0) (0 + 0) (0 + 0) ((-1) + 0) (0 + 0) (0 + 0) (0 + 0) ((-1) + 0) ((-1) + 0) ((-1) + 0) (0 + 0) (0 + 0) (A 117) (A 119) (A 120) (A 121) (sx_au A 116 j y 116) (A 114) (A 111)) (c13 : sx_x3 (γ 18474) (γ 18475) (γ 18476) (γ 18477) (γ 18478) (γ 18479) (0 + 0) (γ 18481) (γ 18482) (γ 18483) (1 + (1 * γ 18484 + 0)) (A 117) (A 119) (A 120) (A 121) (A 115) (sx_au A 116 j y 116) (A 113) (A 114)) (c14 : sx_x4 (γ 18461) (γ 18485) (γ 18486) (γ 18487) (γ 18488) (γ 18489) (A 117) (A 119) (A 120) (A 121) (A 115) (sx_au A 116 j y 116) (A 113) (A 114)) (c15 : sx_x5 (0 + 0) (γ 18499) (γ 18500) (A 117) (A 119) (A 120) (A 121) (A 115) (sx_au A 116 j y 116) (A 113) (A 114)) : ∃ a ∈ sx_r_s_ttA.2, ∃ w : Nat → Int, (∀ (i : Nat) p, a.1[i]? = some p → p.2.1 ≤ w i ∧ w i ≤ p.2.2) ∧ (∀ f ∈ a.2.1, 0 ≤ sx_d (sx_th γ (j : Int) y w) f) ∧ (∀ e, a.2.2.2.head? = some e → sx_d (sx_th γ (j : Int) y w) e = y) ∧ sx_G0 (sx_gu γ (sx_th γ (j : Int) y w) a.2.2.1) (if true = true then sx_au A 116 j y else A) := ⟨([], [], [(18462, (0, [])), (18463, (0, [])), (18464, (0, [])), (18465, ((-1), [])), (18466, (0, [])), (18467, (0, [])), (18468, (0, [])), (18469, ((-1), [])), (18470, ((-1), [])), (18471, ((-1), [])), (18472, (0, [])), (18473, (0, [])), (18498, (0, [])), (18480, (0, [])), (18484, (1, [(18484, 1)]))], []), List.Mem.head _, (fun _ => 0), fun i p hi => (by
    match i, hi with
    | n + 0, hi => simp at hi), fun f hf => (by cases hf), fun e he => (by cases he), ⟨hG.1, hG.2.1, hG.2.2.1, hG.2.2.2.1, hG.2.2.2.2.1, hG.2.2.2.2.2.1, hG.2.2.2.2.2.2.1, hG.2.2.2.2.2.2.2.1, hG.2.2.2.2.2.2.2.2.1, hG.2.2.2.2.2.2.2.2.2.1, hG.2.2.2.2.2.2.2.2.2.2.1, c11, c12, c13, c14, c15, hG.2.2.2.2.2.2.2.2.2.2.2.2.2.2.2.2.1, hG.2.2.2.2.2.2.2.2.2.2.2.2.2.2.2.2.2.1, hG.2.2.2.2.2.2.2.2.2.2.2.2.2.2.2.2.2.2.1, hG.2.2.2.2.2.2.2.2.2.2.2.2.2.2.2.2.2.2.2.1, hG.2.2.2.2.2.2.2.2.2.2.2.2.2.2.2.2.2.2.2.2.1, hG.2.2.2.2.2.2.2.2.2.2.2.2.2.2.2.2.2.2.2.2.2.1, hG.2.2.2.2.2.2.2.2.2.2.2.2.2.2.2.2.2.2.2.2.2.2.1, hG.2.2.2.2.2.2.2.2.2.2.2.2.2.2.2.2.2.2.2.2.2.2.2.1, hG.2.2.2.2.2.2.2.2.2.2.2.2.2.2.2.2.2.2.2.2.2.2.2.2⟩⟩
theorem sx_q_s_ttC_0 {γ : Nat → Int} {A : Nat → Nat → Int} {j : Nat} {y : Int} (hG : sx_G0 γ A) (c11 : sx_x1 (γ 18461) (A 117) (A 119) (A 120) (A 121) (A 115) (sx_au A 116 j y 116) (A 113) (A 114) (A 111)) (c12 : sx_x2 (γ 18461) (0 + 0) (0 + 0) (0 + 0) ((-1) + 0) (0 + 0) (0 + 0) (0 + 0) ((-1) + 0) ((-1) + 0) ((-1) + 0) (0 + 0) (0 + 0) (A 117) (A 119) (A 120) (A 121) (sx_au A 116 j y 116) (A 114) (A 111)) (c13 : sx_x3 (γ 18474) (γ 18475) (γ 18476) (γ 18477) (γ 18478) (γ 18479) (γ 18480) (γ 18481) (γ 18482) (γ 18483) (γ 18484) (A 117) (A 119) (A 120) (A 121) (A 115) (sx_au A 116 j y 116) (A 113) (A 114)) (c14 : sx_x4 (γ 18461) (γ 18485) (γ 18486) (γ 18487) (1 + (1 * γ 18488 + 0)) (0 + 0) (A 117) (A 119) (A 120) (A 121) (A 115) (sx_au A 116 j y 116) (A 113) (A 114)) (c15 : sx_x5 (0 + 0) (γ 18499) (γ 18500) (A 117) (A 119) (A 120) (A 121) (A 115) (sx_au A 116 j y 116) (A 113) (A 114)) : ∃ a ∈ sx_r_s_ttC.2, ∃ w : Nat → Int, (∀ (i : Nat) p, a.1[i]? = some p → p.2.1 ≤ w i ∧ w i ≤ p.2.2) ∧ (∀ f ∈ a.2.1, 0 ≤ sx_d (sx_th γ (j : Int) y w) f) ∧ (∀ e, a.2.2.2.head? = some e → sx_d (sx_th γ (j : Int) y w) e = y) ∧ sx_G0 (sx_gu γ (sx_th γ (j : Int) y w) a.2.2.1) (if true = true then sx_au A 116 j y else A) := ⟨([], [], [(18462, (0, [])), (18463, (0, [])), (18464, (0, [])), (18465, ((-1), [])), (18466, (0, [])), (18467, (0, [])), (18468, (0, [])), (18469, ((-1), [])), (18470, ((-1), [])), (18471, ((-1), [])), (18472, (0, [])), (18473, (0, [])), (18498, (0, [])), (18489, (0, [])), (18488, (1, [(18488, 1)]))], []), List.Mem.head _, (fun _ => 0), fun i p hi => (by
    match i, hi with
    | n + 0, hi => simp at hi), fun f hf => (by cases hf), fun e he => (by cases he), ⟨hG.1, hG.2.1, hG.2.2.1, hG.2.2.2.1, hG.2.2.2.2.1, hG.2.2.2.2.2.1, hG.2.2.2.2.2.2.1, hG.2.2.2.2.2.2.2.1, hG.2.2.2.2.2.2.2.2.1, hG.2.2.2.2.2.2.2.2.2.1, hG.2.2.2.2.2.2.2.2.2.2.1, c11, c12, c13, c14, c15, hG.2.2.2.2.2.2.2.2.2.2.2.2.2.2.2.2.1, hG.2.2.2.2.2.2.2.2.2.2.2.2.2.2.2.2.2.1, hG.2.2.2.2.2.2.2.2.2.2.2.2.2.2.2.2.2.2.1, hG.2.2.2.2.2.2.2.2.2.2.2.2.2.2.2.2.2.2.2.1, hG.2.2.2.2.2.2.2.2.2.2.2.2.2.2.2.2.2.2.2.2.1, hG.2.2.2.2.2.2.2.2.2.2.2.2.2.2.2.2.2.2.2.2.2.1, hG.2.2.2.2.2.2.2.2.2.2.2.2.2.2.2.2.2.2.2.2.2.2.1, hG.2.2.2.2.2.2.2.2.2.2.2.2.2.2.2.2.2.2.2.2.2.2.2.1, hG.2.2.2.2.2.2.2.2.2.2.2.2.2.2.2.2.2.2.2.2.2.2.2.2⟩⟩
theorem sx_q_s_sgA_0 {γ : Nat → Int} {A : Nat → Nat → Int} {j : Nat} {y : Int} (hG : sx_G0 γ A) (c11 : sx_x1 (γ 18461) (sx_au A 117 j y 117) (A 119) (A 120) (A 121) (A 115) (A 116) (A 113) (A 114) (A 111)) (c12 : sx_x2 (γ 18461) (0 + 0) (0 + 0) (0 + 0) ((-1) + 0) (0 + 0) (0 + 0) (0 + 0) ((-1) + 0) ((-1) + 0) ((-1) + 0) (0 + 0) (0 + 0) (sx_au A 117 j y 117) (A 119) (A 120) (A 121) (A 116) (A 114) (A 111)) (c13 : sx_x3 (γ 18474) (1 + (1 * γ 18475 + 0)) (1 + (1 * γ 18476 + 0)) (γ 18477) (γ 18478) (γ 18479) (γ 18480) (γ 18481) (γ 18482) (γ 18483) (γ 18484) (sx_au A 117 j y 117) (A 119) (A 120) (A 121) (A 115) (A 116) (A 113) (A 114)) (c14 : sx_x4 (γ 18461) (γ 18485) (γ 18486) (γ 18487) (γ 18488) (γ 18489) (sx_au A 117 j y 117) (A 119) (A 120) (A 121) (A 115) (A 116) (A 113) (A 114)) (c15 : sx_x5 (0 + 0) (γ 18499) (γ 18500) (sx_au A 117 j y 117) (A 119) (A 120) (A 121) (A 115) (A 116) (A 113) (A 114)) : ∃ a ∈ sx_r_s_sgA.2, ∃ w : Nat → Int, (∀ (i : Nat) p, a.1[i]? = some p → p.2.1 ≤ w i ∧ w i ≤ p.2.2) ∧ (∀ f ∈ a.2.1, 0 ≤ sx_d (sx_th γ (j : Int) y w) f) ∧ (∀ e, a.2.2.2.head? = some e → sx_d (sx_th γ (j : Int) y w) e = y) ∧ sx_G0 (sx_gu γ (sx_th γ (j : Int) y w) a.2.2.1) (if true = true then sx_au A 117 j y else A) := ⟨([], [], [(18462, (0, [])), (18463, (0, [])), (18464, (0, [])), (18465, ((-1), [])), (18466, (0, [])), (18467, (0, [])), (18468, (0, [])), (18469, ((-1), [])), (18470, ((-1), [])), (18471, ((-1), [])), (18472, (0, [])), (18473, (0, [])), (18498, (0, [])), (18475, (1, [(18475, 1)])), (18476, (1, [(18476, 1)]))], []), List.Mem.head _, (fun _ => 0), fun i p hi => (by
    match i, hi with
    | n + 0, hi => simp at hi), fun f hf => (by cases hf), fun e he => (by cases he), ⟨hG.1, hG.2.1, hG.2.2.1, hG.2.2.2.1, hG.2.2.2.2.1, hG.2.2.2.2.2.1, hG.2.2.2.2.2.2.1, hG.2.2.2.2.2.2.2.1, hG.2.2.2.2.2.2.2.2.1, hG.2.2.2.2.2.2.2.2.2.1, hG.2.2.2.2.2.2.2.2.2.2.1, c11, c12, c13, c14, c15, hG.2.2.2.2.2.2.2.2.2.2.2.2.2.2.2.2.1, hG.2.2.2.2.2.2.2.2.2.2.2.2.2.2.2.2.2.1, hG.2.2.2.2.2.2.2.2.2.2.2.2.2.2.2.2.2.2.1, hG.2.2.2.2.2.2.2.2.2.2.2.2.2.2.2.2.2.2.2.1, hG.2.2.2.2.2.2.2.2.2.2.2.2.2.2.2.2.2.2.2.2.1, hG.2.2.2.2.2.2.2.2.2.2.2.2.2.2.2.2.2.2.2.2.2.1, hG.2.2.2.2.2.2.2.2.2.2.2.2.2.2.2.2.2.2.2.2.2.2.1, hG.2.2.2.2.2.2.2.2.2.2.2.2.2.2.2.2.2.2.2.2.2.2.2.1, hG.2.2.2.2.2.2.2.2.2.2.2.2.2.2.2.2.2.2.2.2.2.2.2.2⟩⟩
theorem sx_q_s_sgB_0 {γ : Nat → Int} {A : Nat → Nat → Int} {j : Nat} {y : Int} (hG : sx_G0 γ A) (c11 : sx_x1 (γ 18461) (sx_au A 117 j y 117) (A 119) (A 120) (A 121) (A 115) (A 116) (A 113) (A 114) (A 111)) (c12 : sx_x2 (γ 18461) (0 + 0) (0 + 0) (0 + 0) ((-1) + 0) (0 + 0) (0 + 0) (0 + 0) ((-1) + 0) ((-1) + 0) ((-1) + 0) (0 + 0) (0 + 0) (sx_au A 117 j y 117) (A 119) (A 120) (A 121) (A 116) (A 114) (A 111)) (c13 : sx_x3 (γ 18474) (1 + (1 * γ 18475 + 0)) ((-1) + (1 * γ 18476 + 0)) (γ 18477) (γ 18478) (γ 18479) (γ 18480) (γ 18481) (γ 18482) (γ 18483) (γ 18484) (sx_au A 117 j y 117) (A 119) (A 120) (A 121) (A 115) (A 116) (A 113) (A 114)) (c14 : sx_x4 (γ 18461) (γ 18485) (γ 18486) (γ 18487) (γ 18488) (γ 18489) (sx_au A 117 j y 117) (A 119) (A 120) (A 121) (A 115) (A 116) (A 113) (A 114)) (c15 : sx_x5 (0 + 0) (γ 18499) (γ 18500) (sx_au A 117 j y 117) (A 119) (A 120) (A 121) (A 115) (A 116) (A 113) (A 114)) : ∃ a ∈ sx_r_s_sgB.2, ∃ w : Nat → Int, (∀ (i : Nat) p, a.1[i]? = some p → p.2.1 ≤ w i ∧ w i ≤ p.2.2) ∧ (∀ f ∈ a.2.1, 0 ≤ sx_d (sx_th γ (j : Int) y w) f) ∧ (∀ e, a.2.2.2.head? = some e → sx_d (sx_th γ (j : Int) y w) e = y) ∧ sx_G0 (sx_gu γ (sx_th γ (j : Int) y w) a.2.2.1) (if true = true then sx_au A 117 j y else A) := ⟨([], [], [(18462, (0, [])), (18463, (0, [])), (18464, (0, [])), (18465, ((-1), [])), (18466, (0, [])), (18467, (0, [])), (18468, (0, [])), (18469, ((-1), [])), (18470, ((-1), [])), (18471, ((-1), [])), (18472, (0, [])), (18473, (0, [])), (18498, (0, [])), (18475, (1, [(18475, 1)])), (18476, ((-1), [(18476, 1)]))], []), List.Mem.head _, (fun _ => 0), fun i p hi => (by
    match i, hi with
    | n + 0, hi => simp at hi), fun f hf => (by cases hf), fun e he => (by cases he), ⟨hG.1, hG.2.1, hG.2.2.1, hG.2.2.2.1, hG.2.2.2.2.1, hG.2.2.2.2.2.1, hG.2.2.2.2.2.2.1, hG.2.2.2.2.2.2.2.1, hG.2.2.2.2.2.2.2.2.1, hG.2.2.2.2.2.2.2.2.2.1, hG.2.2.2.2.2.2.2.2.2.2.1, c11, c12, c13, c14, c15, hG.2.2.2.2.2.2.2.2.2.2.2.2.2.2.2.2.1, hG.2.2.2.2.2.2.2.2.2.2.2.2.2.2.2.2.2.1, hG.2.2.2.2.2.2.2.2.2.2.2.2.2.2.2.2.2.2.1, hG.2.2.2.2.2.2.2.2.2.2.2.2.2.2.2.2.2.2.2.1, hG.2.2.2.2.2.2.2.2.2.2.2.2.2.2.2.2.2.2.2.2.1, hG.2.2.2.2.2.2.2.2.2.2.2.2.2.2.2.2.2.2.2.2.2.1, hG.2.2.2.2.2.2.2.2.2.2.2.2.2.2.2.2.2.2.2.2.2.2.1, hG.2.2.2.2.2.2.2.2.2.2.2.2.2.2.2.2.2.2.2.2.2.2.2.1, hG.2.2.2.2.2.2.2.2.2.2.2.2.2.2.2.2.2.2.2.2.2.2.2.2⟩⟩
theorem sx_q_s_sgC_0 {γ : Nat → Int} {A : Nat → Nat → Int} {j : Nat} {y : Int} (hG : sx_G0 γ A) (c11 : sx_x1 (γ 18461) (sx_au A 117 j y 117) (A 119) (A 120) (A 121) (A 115) (A 116) (A 113) (A 114) (A 111)) (c12 : sx_x2 (γ 18461) (0 + 0) (0 + 0) (0 + 0) ((-1) + 0) (0 + 0) (0 + 0) (0 + 0) ((-1) + 0) ((-1) + 0) ((-1) + 0) (0 + 0) (0 + 0) (sx_au A 117 j y 117) (A 119) (A 120) (A 121) (A 116) (A 114) (A 111)) (c13 : sx_x3 (γ 18474) (γ 18475) (γ 18476) (γ 18477) (γ 18478) (γ 18479) (γ 18480) (γ 18481) (γ 18482) (γ 18483) (γ 18484) (sx_au A 117 j y 117) (A 119) (A 120) (A 121) (A 115) (A 116) (A 113) (A 114)) (c14 : sx_x4 (γ 18461) (1 + (1 * γ 18485 + 0)) (γ 18486) (γ 18487) (γ 18488) (γ 18489) (sx_au A 117 j y 117) (A 119) (A 120) (A 121) (A 115) (A 116) (A 113) (A 114)) (c15 : sx_x5 (0 + 0) (γ 18499) (γ 18500) (sx_au A 117 j y 117) (A 119) (A 120) (A 121) (A 115) (A 116) (A 113) (A 114)) : ∃ a ∈ sx_r_s_sgC.2, ∃ w : Nat → Int, (∀ (i : Nat) p, a.1[i]? = some p → p.2.1 ≤ w i ∧ w i ≤ p.2.2) ∧ (∀ f ∈ a.2.1, 0 ≤ sx_d (sx_th γ (j : Int) y w) f) ∧ (∀ e, a.2.2.2.head? = some e → sx_d (sx_th γ (j : Int) y w) e = y) ∧ sx_G0 (sx_gu γ (sx_th γ (j : Int) y w) a.2.2.1) (if true = true then sx_au A 117 j y else A) := ⟨([], [], [(18462, (0, [])), (18463, (0, [])), (18464, (0, [])), (18465, ((-1), [])), (18466, (0, [])), (18467, (0, [])), (18468, (0, [])), (18469, ((-1), [])), (18470, ((-1), [])), (18471, ((-1), [])), (18472, (0, [])), (18473, (0, [])), (18498, (0, [])), (18485, (1, [(18485, 1)]))], []), List.Mem.head _, (fun _ => 0), fun i p hi => (by
    match i, hi with
    | n + 0, hi => simp at hi), fun f hf => (by cases hf), fun e he => (by cases he), ⟨hG.1, hG.2.1, hG.2.2.1, hG.2.2.2.1, hG.2.2.2.2.1, hG.2.2.2.2.2.1, hG.2.2.2.2.2.2.1, hG.2.2.2.2.2.2.2.1, hG.2.2.2.2.2.2.2.2.1, hG.2.2.2.2.2.2.2.2.2.1, hG.2.2.2.2.2.2.2.2.2.2.1, c11, c12, c13, c14, c15, hG.2.2.2.2.2.2.2.2.2.2.2.2.2.2.2.2.1, hG.2.2.2.2.2.2.2.2.2.2.2.2.2.2.2.2.2.1, hG.2.2.2.2.2.2.2.2.2.2.2.2.2.2.2.2.2.2.1, hG.2.2.2.2.2.2.2.2.2.2.2.2.2.2.2.2.2.2.2.1, hG.2.2.2.2.2.2.2.2.2.2.2.2.2.2.2.2.2.2.2.2.1, hG.2.2.2.2.2.2.2.2.2.2.2.2.2.2.2.2.2.2.2.2.2.1, hG.2.2.2.2.2.2.2.2.2.2.2.2.2.2.2.2.2.2.2.2.2.2.1, hG.2.2.2.2.2.2.2.2.2.2.2.2.2.2.2.2.2.2.2.2.2.2.2.1, hG.2.2.2.2.2.2.2.2.2.2.2.2.2.2.2.2.2.2.2.2.2.2.2.2⟩⟩
theorem sx_q_s_lfA_0 {γ : Nat → Int} {A : Nat → Nat → Int} {j : Nat} {y : Int} (hG : sx_G0 γ A) (c11 : sx_x1 (γ 18461) (A 117) (sx_au A 119 j y 119) (A 120) (A 121) (A 115) (A 116) (A 113) (A 114) (A 111)) (c12 : sx_x2 (γ 18461) (0 + 0) (0 + 0) (0 + 0) ((-1) + 0) (0 + 0) (0 + 0) (0 + 0) ((-1) + 0) ((-1) + 0) ((-1) + 0) (0 + 0) (0 + 0) (A 117) (sx_au A 119 j y 119) (A 120) (A 121) (A 116) (A 114) (A 111)) (c13 : sx_x3 (0 + (1 * y + 0)) (0 + (1 * y + 0)) (0 + 0) (1 + 0) (0 + (1 * y + 0)) (γ 18479) (γ 18480) (γ 18481) (γ 18482) (γ 18483) (γ 18484) (A 117) (sx_au A 119 j y 119) (A 120) (A 121) (A 115) (A 116) (A 113) (A 114)) (c14 : sx_x4 (γ 18461) (γ 18485) (γ 18486) (γ 18487) (γ 18488) (γ 18489) (A 117) (sx_au A 119 j y 119) (A 120) (A 121) (A 115) (A 116) (A 113) (A 114)) (c15 : sx_x5 (0 + 0) (γ 18499) (γ 18500) (A 117) (sx_au A 119 j y 119) (A 120) (A 121) (A 115) (A 116) (A 113) (A 114)) : ∃ a ∈ sx_r_s_lfA.2, ∃ w : Nat → Int, (∀ (i : Nat) p, a.1[i]? = some p → p.2.1 ≤ w i ∧ w i ≤ p.2.2) ∧ (∀ f ∈ a.2.1, 0 ≤ sx_d (sx_th γ (j : Int) y w) f) ∧ (∀ e, a.2.2.2.head? = some e → sx_d (sx_th γ (j : Int) y w) e = y) ∧ sx_G0 (sx_gu γ (sx_th γ (j : Int) y w) a.2.2.1) (if true = true then sx_au A 119 j y else A) := ⟨([], [], [(18462, (0, [])), (18463, (0, [])), (18464, (0, [])), (18465, ((-1), [])), (18466, (0, [])), (18467, (0, [])), (18468, (0, [])), (18469, ((-1), [])), (18470, ((-1), [])), (18471, ((-1), [])), (18472, (0, [])), (18473, (0, [])), (18498, (0, [])), (18477, (1, [])), (18478, (0, [(19001, 1)])), (18474, (0, [(19001, 1)])), (18475, (0, [(19001, 1)])), (18476, (0, []))], []), List.Mem.head _, (fun _ => 0), fun i p hi => (by
    match i, hi with
    | n + 0, hi => simp at hi), fun f hf => (by cases hf), fun e he => (by cases he), ⟨hG.1, hG.2.1, hG.2.2.1, hG.2.2.2.1, hG.2.2.2.2.1, hG.2.2.2.2.2.1, hG.2.2.2.2.2.2.1, hG.2.2.2.2.2.2.2.1, hG.2.2.2.2.2.2.2.2.1, hG.2.2.2.2.2.2.2.2.2.1, hG.2.2.2.2.2.2.2.2.2.2.1, c11, c12, c13, c14, c15, hG.2.2.2.2.2.2.2.2.2.2.2.2.2.2.2.2.1, hG.2.2.2.2.2.2.2.2.2.2.2.2.2.2.2.2.2.1, hG.2.2.2.2.2.2.2.2.2.2.2.2.2.2.2.2.2.2.1, hG.2.2.2.2.2.2.2.2.2.2.2.2.2.2.2.2.2.2.2.1, hG.2.2.2.2.2.2.2.2.2.2.2.2.2.2.2.2.2.2.2.2.1, hG.2.2.2.2.2.2.2.2.2.2.2.2.2.2.2.2.2.2.2.2.2.1, hG.2.2.2.2.2.2.2.2.2.2.2.2.2.2.2.2.2.2.2.2.2.2.1, hG.2.2.2.2.2.2.2.2.2.2.2.2.2.2.2.2.2.2.2.2.2.2.2.1, hG.2.2.2.2.2.2.2.2.2.2.2.2.2.2.2.2.2.2.2.2.2.2.2.2⟩⟩
theorem sx_q_s_lfC_0 {γ : Nat → Int} {A : Nat → Nat → Int} {j : Nat} {y : Int} (hG : sx_G0 γ A) (c11 : sx_x1 (γ 18461) (A 117) (sx_au A 119 j y 119) (A 120) (A 121) (A 115) (A 116) (A 113) (A 114) (A 111)) (c12 : sx_x2 (γ 18461) (0 + 0) (0 + 0) (0 + 0) ((-1) + 0) (0 + 0) (0 + 0) (0 + 0) ((-1) + 0) ((-1) + 0) ((-1) + 0) (0 + 0) (0 + 0) (A 117) (sx_au A 119 j y 119) (A 120) (A 121) (A 116) (A 114) (A 111)) (c13 : sx_x3 (γ 18474) (γ 18475) (γ 18476) (γ 18477) (γ 18478) (γ 18479) (γ 18480) (γ 18481) (γ 18482) (γ 18483) (γ 18484) (A 117) (sx_au A 119 j y 119) (A 120) (A 121) (A 115) (A 116) (A 113) (A 114)) (c14 : sx_x4 (γ 18461) (γ 18485) (γ 18486) (1 + 0) (γ 18488) (γ 18489) (A 117) (sx_au A 119 j y 119) (A 120) (A 121) (A 115) (A 116) (A 113) (A 114)) (c15 : sx_x5 (0 + 0) (γ 18499) (γ 18500) (A 117) (sx_au A 119 j y 119) (A 120) (A 121) (A 115) (A 116) (A 113) (A 114)) : ∃ a ∈ sx_r_s_lfC.2, ∃ w : Nat → Int, (∀ (i : Nat) p, a.1[i]? = some p → p.2.1 ≤ w i ∧ w i ≤ p.2.2) ∧ (∀ f ∈ a.2.1, 0 ≤ sx_d (sx_th γ (j : Int) y w) f) ∧ (∀ e, a.2.2.2.head? = some e → sx_d (sx_th γ (j : Int) y w) e = y) ∧ sx_G0 (sx_gu γ (sx_th γ (j : Int) y w) a.2.2.1) (if true = true then sx_au A 119 j y else A) := ⟨([], [], [(18462, (0, [])), (18463, (0, [])), (18464, (0, [])), (18465, ((-1), [])), (18466, (0, [])), (18467, (0, [])), (18468, (0, [])), (18469, ((-1), [])), (18470, ((-1), [])), (18471, ((-1), [])), (18472, (0, [])), (18473, (0, [])), (18498, (0, [])), (18487, (1, []))], []), List.Mem.head _, (fun _ => 0), fun i p hi => (by
    match i, hi with
    | n + 0, hi => simp at hi), fun f hf => (by cases hf), fun e he => (by cases he), ⟨hG.1, hG.2.1, hG.2.2.1, hG.2.2.2.1, hG.2.2.2.2.1, hG.2.2.2.2.2.1, hG.2.2.2.2.2.2.1, hG.2.2.2.2.2.2.2.1, hG.2.2.2.2.2.2.2.2.1, hG.2.2.2.2.2.2.2.2.2.1, hG.2.2.2.2.2.2.2.2.2.2.1, c11, c12, c13, c14, c15, hG.2.2.2.2.2.2.2.2.2.2.2.2.2.2.2.2.1, hG.2.2.2.2.2.2.2.2.2.2.2.2.2.2.2.2.2.1, hG.2.2.2.2.2.2.2.2.2.2.2.2.2.2.2.2.2.2.1, hG.2.2.2.2.2.2.2.2.2.2.2.2.2.2.2.2.2.2.2.1, hG.2.2.2.2.2.2.2.2.2.2.2.2.2.2.2.2.2.2.2.2.1, hG.2.2.2.2.2.2.2.2.2.2.2.2.2.2.2.2.2.2.2.2.2.1, hG.2.2.2.2.2.2.2.2.2.2.2.2.2.2.2.2.2.2.2.2.2.2.1, hG.2.2.2.2.2.2.2.2.2.2.2.2.2.2.2.2.2.2.2.2.2.2.2.1, hG.2.2.2.2.2.2.2.2.2.2.2.2.2.2.2.2.2.2.2.2.2.2.2.2⟩⟩
theorem sx_q_s_ltA_0 {γ : Nat → Int} {A : Nat → Nat → Int} {j : Nat} {y : Int} (hG : sx_G0 γ A) (c11 : sx_x1 (γ 18461) (A 117) (A 119) (sx_au A 120 j y 120) (A 121) (A 115) (A 116) (A 113) (A 114) (A 111)) (c12 : sx_x2 (γ 18461) (0 + 0) (0 + 0) (0 + 0) ((-1) + 0) (0 + 0) (0 + 0) (0 + 0) ((-1) + 0) ((-1) + 0) ((-1) + 0) (0 + 0) (0 + 0) (A 117) (A 119) (sx_au A 120 j y 120) (A 121) (A 116) (A 114) (A 111)) (c13 : sx_x3 (0 + (1 * y + 0)) (0 + (1 * y + 0)) (0 + 0) (2 + 0) (γ 18478) (γ 18479) (γ 18480) (γ 18481) (γ 18482) (γ 18483) (γ 18484) (A 117) (A 119) (sx_au A 120 j y 120) (A 121) (A 115) (A 116) (A 113) (A 114)) (c14 : sx_x4 (γ 18461) (γ 18485) (γ 18486) (γ 18487) (γ 18488) (γ 18489) (A 117) (A 119) (sx_au A 120 j y 120) (A 121) (A 115) (A 116) (A 113) (A 114)) (c15 : sx_x5 (0 + 0) (γ 18499) (γ 18500) (A 117) (A 119) (sx_au A 120 j y 120) (A 121) (A 115) (A 116) (A 113) (A 114)) : ∃ a ∈ sx_r_s_ltA.2, ∃ w : Nat → Int, (∀ (i : Nat) p, a.1[i]? = some p → p.2.1 ≤ w i ∧ w i ≤ p.2.2) ∧ (∀ f ∈ a.2.1, 0 ≤ sx_d (sx_th γ (j : Int) y w) f) ∧ (∀ e, a.2.2.2.head? = some e → sx_d (sx_th γ (j : Int) y w) e = y) ∧ sx_G0 (sx_gu γ (sx_th γ (j : Int) y w) a.2.2.1) (if true = true then sx_au A 120 j y else A) := ⟨([], [], [(18462, (0, [])), (18463, (0, [])), (18464, (0, [])), (18465, ((-1), [])), (18466, (0, [])), (18467, (0, [])), (18468, (0, [])), (18469, ((-1), [])), (18470, ((-1), [])), (18471, ((-1), [])), (18472, (0, [])), (18473, (0, [])), (18498, (0, [])), (18477, (2, [])), (18474, (0, [(19001, 1)])), (18475, (0, [(19001, 1)])), (18476, (0, []))], []), List.Mem.head _, (fun _ => 0), fun i p hi => (by
    match i, hi with
    | n + 0, hi => simp at hi), fun f hf => (by cases hf), fun e he => (by cases he), ⟨hG.1, hG.2.1, hG.2.2.1, hG.2.2.2.1, hG.2.2.2.2.1, hG.2.2.2.2.2.1, hG.2.2.2.2.2.2.1, hG.2.2.2.2.2.2.2.1, hG.2.2.2.2.2.2.2.2.1, hG.2.2.2.2.2.2.2.2.2.1, hG.2.2.2.2.2.2.2.2.2.2.1, c11, c12, c13, c14, c15, hG.2.2.2.2.2.2.2.2.2.2.2.2.2.2.2.2.1, hG.2.2.2.2.2.2.2.2.2.2.2.2.2.2.2.2.2.1, hG.2.2.2.2.2.2.2.2.2.2.2.2.2.2.2.2.2.2.1, hG.2.2.2.2.2.2.2.2.2.2.2.2.2.2.2.2.2.2.2.1, hG.2.2.2.2.2.2.2.2.2.2.2.2.2.2.2.2.2.2.2.2.1, hG.2.2.2.2.2.2.2.2.2.2.2.2.2.2.2.2.2.2.2.2.2.1, hG.2.2.2.2.2.2.2.2.2.2.2.2.2.2.2.2.2.2.2.2.2.2.1, hG.2.2.2.2.2.2.2.2.2.2.2.2.2.2.2.2.2.2.2.2.2.2.2.1, hG.2.2.2.2.2.2.2.2.2.2.2.2.2.2.2.2.2.2.2.2.2.2.2.2⟩⟩
theorem sx_q_s_ltC_0 {γ : Nat → Int} {A : Nat → Nat → Int} {j : Nat} {y : Int} (hG : sx_G0 γ A) (c11 : sx_x1 (γ 18461) (A 117) (A 119) (sx_au A 120 j y 120) (A 121) (A 115) (A 116) (A 113) (A 114) (A 111)) (c12 : sx_x2 (γ 18461) (0 + 0) (0 + 0) (0 + 0) ((-1) + 0) (0 + 0) (0 + 0) (0 + 0) ((-1) + 0) ((-1) + 0) ((-1) + 0) (0 + 0) (0 + 0) (A 117) (A 119) (sx_au A 120 j y 120) (A 121) (A 116) (A 114) (A 111)) (c13 : sx_x3 (γ 18474) (γ 18475) (γ 18476) (γ 18477) (γ 18478) (γ 18479) (γ 18480) (γ 18481) (γ 18482) (γ 18483) (γ 18484) (A 117) (A 119) (sx_au A 120 j y 120) (A 121) (A 115) (A 116) (A 113) (A 114)) (c14 : sx_x4 (γ 18461) (γ 18485) (γ 18486) (2 + 0) (γ 18488) (γ 18489) (A 117) (A 119) (sx_au A 120 j y 120) (A 121) (A 115) (A 116) (A 113) (A 114)) (c15 : sx_x5 (0 + 0) (γ 18499) (γ 18500) (A 117) (A 119) (sx_au A 120 j y 120) (A 121) (A 115) (A 116) (A 113) (A 114)) : ∃ a ∈ sx_r_s_ltC.2, ∃ w : Nat → Int, (∀ (i : Nat) p, a.1[i]? = some p → p.2.1 ≤ w i ∧ w i ≤ p.2.2) ∧ (∀ f ∈ a.2.1, 0 ≤ sx_d (sx_th γ (j : Int) y w) f) ∧ (∀ e, a.2.2.2.head? = some e → sx_d (sx_th γ (j : Int) y w) e = y) ∧ sx_G0 (sx_gu γ (sx_th γ (j : Int) y w) a.2.2.1) (if true = true then sx_au A 120 j y else A) := ⟨([], [], [(18462, (0, [])), (18463, (0, [])), (18464, (0, [])), (18465, ((-1), [])), (18466, (0, [])), (18467, (0, [])), (18468, (0, [])), (18469, ((-1), [])), (18470, ((-1), [])), (18471, ((-1), [])), (18472, (0, [])), (18473, (0, [])), (18498, (0, [])), (18487, (2, []))], []), List.Mem.head _, (fun _ => 0), fun i p hi => (by
    match i, hi with
    | n + 0, hi => simp at hi), fun f hf => (by cases hf), fun e he => (by cases he), ⟨hG.1, hG.2.1, hG.2.2.1, hG.2.2.2.1, hG.2.2.2.2.1, hG.2.2.2.2.2.1, hG.2.2.2.2.2.2.1, hG.2.2.2.2.2.2.2.1, hG.2.2.2.2.2.2.2.2.1, hG.2.2.2.2.2.2.2.2.2.1, hG.2.2.2.2.2.2.2.2.2.2.1, c11, c12, c13, c14, c15, hG.2.2.2.2.2.2.2.2.2.2.2.2.2.2.2.2.1, hG.2.2.2.2.2.2.2.2.2.2.2.2.2.2.2.2.2.1, hG.2.2.2.2.2.2.2.2.2.2.2.2.2.2.2.2.2.2.1, hG.2.2.2.2.2.2.2.2.2.2.2.2.2.2.2.2.2.2.2.1, hG.2.2.2.2.2.2.2.2.2.2.2.2.2.2.2.2.2.2.2.2.1, hG.2.2.2.2.2.2.2.2.2.2.2.2.2.2.2.2.2.2.2.2.2.1, hG.2.2.2.2.2.2.2.2.2.2.2.2.2.2.2.2.2.2.2.2.2.2.1, hG.2.2.2.2.2.2.2.2.2.2.2.2.2.2.2.2.2.2.2.2.2.2.2.1, hG.2.2.2.2.2.2.2.2.2.2.2.2.2.2.2.2.2.2.2.2.2.2.2.2⟩⟩
theorem sx_q_s_rtA_0 {γ : Nat → Int} {A : Nat → Nat → Int} {j : Nat} {y : Int} (hG : sx_G0 γ A) (c11 : sx_x1 (γ 18461) (A 117) (A 119) (A 120) (sx_au A 121 j y 121) (A 115) (A 116) (A 113) (A 114) (A 111)) (c12 : sx_x2 (γ 18461) (0 + 0) (0 + 0) (0 + 0) ((-1) + 0) (0 + 0) (0 + 0) (0 + 0) ((-1) + 0) ((-1) + 0) ((-1) + 0) (0 + 0) (0 + 0) (A 117) (A 119) (A 120) (sx_au A 121 j y 121) (A 116) (A 114) (A 111)) (c13 : sx_x3 (γ 18474) (γ 18475) (γ 18476) (0 + 0) (γ 18478) (1 + (1 * γ 18479 + 0)) (γ 18480) (γ 18481) (γ 18482) (γ 18483) (γ 18484) (A 117) (A 119) (A 120) (sx_au A 121 j y 121) (A 115) (A 116) (A 113) (A 114)) (c14 : sx_x4 (γ 18461) (γ 18485) (γ 18486) (γ 18487) (γ 18488) (γ 18489) (A 117) (A 119) (A 120) (sx_au A 121 j y 121) (A 115) (A 116) (A 113) (A 114)) (c15 : sx_x5 (0 + 0) (γ 18499) (γ 18500) (A 117) (A 119) (A 120) (sx_au A 121 j y 121) (A 115) (A 116) (A 113) (A 114)) : ∃ a ∈ sx_r_s_rtA.2, ∃ w : Nat → Int, (∀ (i : Nat) p, a.1[i]? = some p → p.2.1 ≤ w i ∧ w i ≤ p.2.2) ∧ (∀ f ∈ a.2.1, 0 ≤ sx_d (sx_th γ (j : Int) y w) f) ∧ (∀ e, a.2.2.2.head? = some e → sx_d (sx_th γ (j : Int) y w) e = y) ∧ sx_G0 (sx_gu γ (sx_th γ (j : Int) y w) a.2.2.1) (if true = true then sx_au A 121 j y else A) := ⟨([], [], [(18462, (0, [])), (18463, (0, [])), (18464, (0, [])), (18465, ((-1), [])), (18466, (0, [])), (18467, (0, [])), (18468, (0, [])), (18469, ((-1), [])), (18470, ((-1), [])), (18471, ((-1), [])), (18472, (0, [])), (18473, (0, [])), (18498, (0, [])), (18477, (0, [])), (18479, (1, [(18479, 1)]))], []), List.Mem.head _, (fun _ => 0), fun i p hi => (by
    match i, hi with
    | n + 0, hi => simp at hi), fun f hf => (by cases hf), fun e he => (by cases he), ⟨hG.1, hG.2.1, hG.2.2.1, hG.2.2.2.1, hG.2.2.2.2.1, hG.2.2.2.2.2.1, hG.2.2.2.2.2.2.1, hG.2.2.2.2.2.2.2.1, hG.2.2.2.2.2.2.2.2.1, hG.2.2.2.2.2.2.2.2.2.1, hG.2.2.2.2.2.2.2.2.2.2.1, c11, c12, c13, c14, c15, hG.2.2.2.2.2.2.2.2.2.2.2.2.2.2.2.2.1, hG.2.2.2.2.2.2.2.2.2.2.2.2.2.2.2.2.2.1, hG.2.2.2.2.2.2.2.2.2.2.2.2.2.2.2.2.2.2.1, hG.2.2.2.2.2.2.2.2.2.2.2.2.2.2.2.2.2.2.2.1, hG.2.2.2.2.2.2.2.2.2.2.2.2.2.2.2.2.2.2.2.2.1, hG.2.2.2.2.2.2.2.2.2.2.2.2.2.2.2.2.2.2.2.2.2.1, hG.2.2.2.2.2.2.2.2.2.2.2.2.2.2.2.2.2.2.2.2.2.2.1, hG.2.2.2.2.2.2.2.2.2.2.2.2.2.2.2.2.2.2.2.2.2.2.2.1, hG.2.2.2.2.2.2.2.2.2.2.2.2.2.2.2.2.2.2.2.2.2.2.2.2⟩⟩
theorem sx_q_s_rtC_0 {γ : Nat → Int} {A : Nat → Nat → Int} {j : Nat} {y : Int} (hG : sx_G0 γ A) (c11 : sx_x1 (γ 18461) (A 117) (A 119) (A 120) (sx_au A 121 j y 121) (A 115) (A 116) (A 113) (A 114) (A 111)) (c12 : sx_x2 (γ 18461) (0 + 0) (0 + 0) (0 + 0) ((-1) + 0) (0 + 0) (0 + 0) (0 + 0) ((-1) + 0) ((-1) + 0) ((-1) + 0) (0 + 0) (0 + 0) (A 117) (A 119) (A 120) (sx_au A 121 j y 121) (A 116) (A 114) (A 111)) (c13 : sx_x3 (γ 18474) (γ 18475) (γ 18476) (γ 18477) (γ 18478) (γ 18479) (γ 18480) (γ 18481) (γ 18482) (γ 18483) (γ 18484) (A 117) (A 119) (A 120) (sx_au A 121 j y 121) (A 115) (A 116) (A 113) (A 114)) (c14 : sx_x4 (γ 18461) (γ 18485) (1 + (1 * γ 18486 + 0)) (0 + 0) (γ 18488) (γ 18489) (A 117) (A 119) (A 120) (sx_au A 121 j y 121) (A 115) (A 116) (A 113) (A 114)) (c15 : sx_x5 (0 + 0) (γ 18499) (γ 18500) (A 117) (A 119) (A 120) (sx_au A 121 j y 121) (A 115) (A 116) (A 113) (A 114)) : ∃ a ∈ sx_r_s_rtC.2, ∃ w : Nat → Int, (∀ (i : Nat) p, a.1[i]? = some p → p.2.1 ≤ w i ∧ w i ≤ p.2.2) ∧ (∀ f ∈ a.2.1, 0 ≤ sx_d (sx_th γ (j : Int) y w) f) ∧ (∀ e, a.2.2.2.head? = some e → sx_d (sx_th γ (j : Int) y w) e = y) ∧ sx_G0 (sx_gu γ (sx_th γ (j : Int) y w) a.2.2.1) (if true = true then sx_au A 121 j y else A) := ⟨([], [], [(18462, (0, [])), (18463, (0, [])), (18464, (0, [])), (18465, ((-1), [])), (18466, (0, [])), (18467, (0, [])), (18468, (0, [])), (18469, ((-1), [])), (18470, ((-1), [])), (18471, ((-1), [])), (18472, (0, [])), (18473, (0, [])), (18498, (0, [])), (18487, (0, [])), (18486, (1, [(18486, 1)]))], []), List.Mem.head _, (fun _ => 0), fun i p hi => (by
    match i, hi with
    | n + 0, hi => simp at hi), fun f hf => (by cases hf), fun e he => (by cases he), ⟨hG.1, hG.2.1, hG.2.2.1, hG.2.2.2.1, hG.2.2.2.2.1, hG.2.2.2.2.2.1, hG.2.2.2.2.2.2.1, hG.2.2.2.2.2.2.2.1, hG.2.2.2.2.2.2.2.2.1, hG.2.2.2.2.2.2.2.2.2.1, hG.2.2.2.2.2.2.2.2.2.2.1, c11, c12, c13, c14, c15, hG.2.2.2.2.2.2.2.2.2.2.2.2.2.2.2.2.1, hG.2.2.2.2.2.2.2.2.2.2.2.2.2.2.2.2.2.1, hG.2.2.2.2.2.2.2.2.2.2.2.2.2.2.2.2.2.2.1, hG.2.2.2.2.2.2.2.2.2.2.2.2.2.2.2.2.2.2.2.1, hG.2.2.2.2.2.2.2.2.2.2.2.2.2.2.2.2.2.2.2.2.1, hG.2.2.2.2.2.2.2.2.2.2.2.2.2.2.2.2.2.2.2.2.2.1, hG.2.2.2.2.2.2.2.2.2.2.2.2.2.2.2.2.2.2.2.2.2.2.1, hG.2.2.2.2.2.2.2.2.2.2.2.2.2.2.2.2.2.2.2.2.2.2.2.1, hG.2.2.2.2.2.2.2.2.2.2.2.2.2.2.2.2.2.2.2.2.2.2.2.2⟩⟩
theorem sx_q_s_zS0a_0 {γ : Nat → Int} {A : Nat → Nat → Int} {j : Nat} {y : Int} (hG : sx_G0 γ A) (c4 : sx_g3 (0 + 0) (γ 18447) (γ 18448) (γ 18449) (γ 18450) (γ 18451) (γ 18452) (sx_au A 123 j y 123)) : ∃ a ∈ sx_r_s_zS0a.2, ∃ w : Nat → Int, (∀ (i : Nat) p, a.1[i]? = some p → p.2.1 ≤ w i ∧ w i ≤ p.2.2) ∧ (∀ f ∈ a.2.1, 0 ≤ sx_d (sx_th γ (j : Int) y w) f) ∧ (∀ e, a.2.2.2.head? = some e → sx_d (sx_th γ (j : Int) y w) e = y) ∧ sx_G0 (sx_gu γ (sx_th γ (j : Int) y w) a.2.2.1) (if true = true then sx_au A 123 j y else A) := ⟨([], [], [(18446, (0, []))], []), List.Mem.head _, (fun _ => 0), fun i p hi => (by
    match i, hi with
    | n + 0, hi => simp at hi), fun f hf => (by cases hf), fun e he => (by cases he), ⟨hG.1, hG.2.1, hG.2.2.1, hG.2.2.2.1, c4, hG.2.2.2.2.2.1, hG.2.2.2.2.2.2.1, hG.2.2.2.2.2.2.2.1, hG.2.2.2.2.2.2.2.2.1, hG.2.2.2.2.2.2.2.2.2.1, hG.2.2.2.2.2.2.2.2.2.2.1, hG.2.2.2.2.2.2.2.2.2.2.2.1, hG.2.2.2.2.2.2.2.2.2.2.2.2.1, hG.2.2.2.2.2.2.2.2.2.2.2.2.2.1, hG.2.2.2.2.2.2.2.2.2.2.2.2.2.2.1, hG.2.2.2.2.2.2.2.2.2.2.2.2.2.2.2.1, hG.2.2.2.2.2.2.2.2.2.2.2.2.2.2.2.2.1, hG.2.2.2.2.2.2.2.2.2.2.2.2.2.2.2.2.2.1, hG.2.2.2.2.2.2.2.2.2.2.2.2.2.2.2.2.2.2.1, hG.2.2.2.2.2.2.2.2.2.2.2.2.2.2.2.2.2.2.2.1, hG.2.2.2.2.2.2.2.2.2.2.2.2.2.2.2.2.2.2.2.2.1, hG.2.2.2.2.2.2.2.2.2.2.2.2.2.2.2.2.2.2.2.2.2.1, hG.2.2.2.2.2.2.2.2.2.2.2.2.2.2.2.2.2.2.2.2.2.2.1, hG.2.2.2.2.2.2.2.2.2.2.2.2.2.2.2.2.2.2.2.2.2.2.2.1, hG.2.2.2.2.2.2.2.2.2.2.2.2.2.2.2.2.2.2.2.2.2.2.2.2⟩⟩
theorem sx_q_s_zS0b_0 {γ : Nat → Int} {A : Nat → Nat → Int} {j : Nat} {y : Int} (hG : sx_G0 γ A) (c4 : sx_g3 (1 + 0) (γ 18447) (γ 18448) (γ 18449) (γ 18450) (γ 18451) (γ 18452) (sx_au A 123 j y 123)) : ∃ a ∈ sx_r_s_zS0b.2, ∃ w : Nat → Int, (∀ (i : Nat) p, a.1[i]? = some p → p.2.1 ≤ w i ∧ w i ≤ p.2.2) ∧ (∀ f ∈ a.2.1, 0 ≤ sx_d (sx_th γ (j : Int) y w) f) ∧ (∀ e, a.2.2.2.head? = some e → sx_d (sx_th γ (j : Int) y w) e = y) ∧ sx_G0 (sx_gu γ (sx_th γ (j : Int) y w) a.2.2.1) (if true = true then sx_au A 123 j y else A) := ⟨([], [], [(18446, (1, []))], []), List.Mem.head _, (fun _ => 0), fun i p hi => (by
    match i, hi with
    | n + 0, hi => simp at hi), fun f hf => (by cases hf), fun e he => (by cases he), ⟨hG.1, hG.2.1, hG.2.2.1, hG.2.2.2.1, c4, hG.2.2.2.2.2.1, hG.2.2.2.2.2.2.1, hG.2.2.2.2.2.2.2.1, hG.2.2.2.2.2.2.2.2.1, hG.2.2.2.2.2.2.2.2.2.1, hG.2.2.2.2.2.2.2.2.2.2.1, hG.2.2.2.2.2.2.2.2.2.2.2.1, hG.2.2.2.2.2.2.2.2.2.2.2.2.1, hG.2.2.2.2.2.2.2.2.2.2.2.2.2.1, hG.2.2.2.2.2.2.2.2.2.2.2.2.2.2.1, hG.2.2.2.2.2.2.2.2.2.2.2.2.2.2.2.1, hG.2.2.2.2.2.2.2.2.2.2.2.2.2.2.2.2.1, hG.2.2.2.2.2.2.2.2.2.2.2.2.2.2.2.2.2.1, hG.2.2.2.2.2.2.2.2.2.2.2.2.2.2.2.2.2.2.1, hG.2.2.2.2.2.2.2.2.2.2.2.2.2.2.2.2.2.2.2.1, hG.2.2.2.2.2.2.2.2.2.2.2.2.2.2.2.2.2.2.2.2.1, hG.2.2.2.2.2.2.2.2.2.2.2.2.2.2.2.2.2.2.2.2.2.1, hG.2.2.2.2.2.2.2.2.2.2.2.2.2.2.2.2.2.2.2.2.2.2.1, hG.2.2.2.2.2.2.2.2.2.2.2.2.2.2.2.2.2.2.2.2.2.2.2.1, hG.2.2.2.2.2.2.2.2.2.2.2.2.2.2.2.2.2.2.2.2.2.2.2.2⟩⟩
theorem sx_q_s_zS1a_0 {γ : Nat → Int} {A : Nat → Nat → Int} {j : Nat} {y : Int} (hG : sx_G0 γ A) (c4 : sx_g3 (γ 18446) (0 + 0) (γ 18448) (γ 18449) (γ 18450) (γ 18451) (γ 18452) (sx_au A 123 j y 123)) : ∃ a ∈ sx_r_s_zS1a.2, ∃ w : Nat → Int, (∀ (i : Nat) p, a.1[i]? = some p → p.2.1 ≤ w i ∧ w i ≤ p.2.2) ∧ (∀ f ∈ a.2.1, 0 ≤ sx_d (sx_th γ (j : Int) y w) f) ∧ (∀ e, a.2.2.2.head? = some e → sx_d (sx_th γ (j : Int) y w) e = y) ∧ sx_G0 (sx_gu γ (sx_th γ (j : Int) y w) a.2.2.1) (if true = true then sx_au A 123 j y else A) := ⟨([], [], [(18447, (0, []))], []), List.Mem.head _, (fun _ => 0), fun i p hi => (by
    match i, hi with
    | n + 0, hi => simp at hi), fun f hf => (by cases hf), fun e he => (by cases he), ⟨hG.1, hG.2.1, hG.2.2.1, hG.2.2.2.1, c4, hG.2.2.2.2.2.1, hG.2.2.2.2.2.2.1, hG.2.2.2.2.2.2.2.1, hG.2.2.2.2.2.2.2.2.1, hG.2.2.2.2.2.2.2.2.2.1, hG.2.2.2.2.2.2.2.2.2.2.1, hG.2.2.2.2.2.2.2.2.2.2.2.1, hG.2.2.2.2.2.2.2.2.2.2.2.2.1, hG.2.2.2.2.2.2.2.2.2.2.2.2.2.1, hG.2.2.2.2.2.2.2.2.2.2.2.2.2.2.1, hG.2.2.2.2.2.2.2.2.2.2.2.2.2.2.2.1, hG.2.2.2.2.2.2.2.2.2.2.2.2.2.2.2.2.1, hG.2.2.2.2.2.2.2.2.2.2.2.2.2.2.2.2.2.1, hG.2.2.2.2.2.2.2.2.2.2.2.2.2.2.2.2.2.2.1, hG.2.2.2.2.2.2.2.2.2.2.2.2.2.2.2.2.2.2.2.1, hG.2.2.2.2.2.2.2.2.2.2.2.2.2.2.2.2.2.2.2.2.1, hG.2.2.2.2.2.2.2.2.2.2.2.2.2.2.2.2.2.2.2.2.2.1, hG.2.2.2.2.2.2.2.2.2.2.2.2.2.2.2.2.2.2.2.2.2.2.1, hG.2.2.2.2.2.2.2.2.2.2.2.2.2.2.2.2.2.2.2.2.2.2.2.1, hG.2.2.2.2.2.2.2.2.2.2.2.2.2.2.2.2.2.2.2.2.2.2.2.2⟩⟩
theorem sx_q_s_zS1b_0 {γ : Nat → Int} {A : Nat → Nat → Int} {j : Nat} {y : Int} (hG : sx_G0 γ A) (c4 : sx_g3 (γ 18446) (1 + 0) (γ 18448) (γ 18449) (γ 18450) (γ 18451) (γ 18452) (sx_au A 123 j y 123)) : ∃ a ∈ sx_r_s_zS1b.2, ∃ w : Nat → Int, (∀ (i : Nat) p, a.1[i]? = some p → p.2.1 ≤ w i ∧ w i ≤ p.2.2) ∧ (∀ f ∈ a.2.1, 0 ≤ sx_d (sx_th γ (j : Int) y w) f) ∧ (∀ e, a.2.2.2.head? = some e → sx_d (sx_th γ (j : Int) y w) e = y) ∧ sx_G0 (sx_gu γ (sx_th γ (j : Int) y w) a.2.2.1) (if true = true then sx_au A 123 j y else A) := ⟨([], [], [(18447, (1, []))], []), List.Mem.head _, (fun _ => 0), fun i p hi => (by
    match i, hi with
    | n + 0, hi => simp at hi), fun f hf => (by cases hf), fun e he => (by cases he), ⟨hG.1, hG.2.1, hG.2.2.1, hG.2.2.2.1, c4, hG.2.2.2.2.2.1, hG.2.2.2.2.2.2.1, hG.2.2.2.2.2.2.2.1, hG.2.2.2.2.2.2.2.2.1, hG.2.2.2.2.2.2.2.2.2.1, hG.2.2.2.2.2.2.2.2.2.2.1, hG.2.2.2.2.2.2.2.2.2.2.2.1, hG.2.2.2.2.2.2.2.2.2.2.2.2.1, hG.2.2.2.2.2.2.2.2.2.2.2.2.2.1, hG.2.2.2.2.2.2.2.2.2.2.2.2.2.2.1, hG.2.2.2.2.2.2.2.2.2.2.2.2.2.2.2.1, hG.2.2.2.2.2.2.2.2.2.2.2.2.2.2.2.2.1, hG.2.2.2.2.2.2.2.2.2.2.2.2.2.2.2.2.2.1, hG.2.2.2.2.2.2.2.2.2.2.2.2.2.2.2.2.2.2.1, hG.2.2.2.2.2.2.2.2.2.2.2.2.2.2.2.2.2.2.2.1, hG.2.2.2.2.2.2.2.2.2.2.2.2.2.2.2.2.2.2.2.2.1, hG.2.2.2.2.2.2.2.2.2.2.2.2.2.2.2.2.2.2.2.2.2.1, hG.2.2.2.2.2.2.2.2.2.2.2.2.2.2.2.2.2.2.2.2.2.2.1, hG.2.2.2.2.2.2.2.2.2.2.2.2.2.2.2.2.2.2.2.2.2.2.2.1, hG.2.2.2.2.2.2.2.2.2.2.2.2.2.2.2.2.2.2.2.2.2.2.2.2⟩⟩
theorem sx_q_s_zS2a_0 {γ : Nat → Int} {A : Nat → Nat → Int} {j : Nat} {y : Int} (hG : sx_G0 γ A) (c4 : sx_g3 (γ 18446) (γ 18447) (0 + 0) (γ 18449) (γ 18450) (γ 18451) (γ 18452) (sx_au A 123 j y 123)) : ∃ a ∈ sx_r_s_zS2a.2, ∃ w : Nat → Int, (∀ (i : Nat) p, a.1[i]? = some p → p.2.1 ≤ w i ∧ w i ≤ p.2.2) ∧ (∀ f ∈ a.2.1, 0 ≤ sx_d (sx_th γ (j : Int) y w) f) ∧ (∀ e, a.2.2.2.head? = some e → sx_d (sx_th γ (j : Int) y w) e = y) ∧ sx_G0 (sx_gu γ (sx_th γ (j : Int) y w) a.2.2.1) (if true = true then sx_au A 123 j y else A) := ⟨([], [], [(18448, (0, []))], []), List.Mem.head _, (fun _ => 0), fun i p hi => (by
    match i, hi with
    | n + 0, hi => simp at hi), fun f hf => (by cases hf), fun e he => (by cases he), ⟨hG.1, hG.2.1, hG.2.2.1, hG.2.2.2.1, c4, hG.2.2.2.2.2.1, hG.2.2.2.2.2.2.1, hG.2.2.2.2.2.2.2.1, hG.2.2.2.2.2.2.2.2.1, hG.2.2.2.2.2.2.2.2.2.1, hG.2.2.2.2.2.2.2.2.2.2.1, hG.2.2.2.2.2.2.2.2.2.2.2.1, hG.2.2.2.2.2.2.2.2.2.2.2.2.1, hG.2.2.2.2.2.2.2.2.2.2.2.2.2.1, hG.2.2.2.2.2.2.2.2.2.2.2.2.2.2.1, hG.2.2.2.2.2.2.2.2.2.2.2.2.2.2.2.1, hG.2.2.2.2.2.2.2.2.2.2.2.2.2.2.2.2.1, hG.2.2.2.2.2.2.2.2.2.2.2.2.2.2.2.2.2.1, hG.2.2.2.2.2.2.2.2.2.2.2.2.2.2.2.2.2.2.1, hG.2.2.2.2.2.2.2.2.2.2.2.2.2.2.2.2.2.2.2.1, hG.2.2.2.2.2.2.2.2.2.2.2.2.2.2.2.2.2.2.2.2.1, hG.2.2.2.2.2.2.2.2.2.2.2.2.2.2.2.2.2.2.2.2.2.1, hG.2.2.2.2.2.2.2.2.2.2.2.2.2.2.2.2.2.2.2.2.2.2.1, hG.2.2.2.2.2.2.2.2.2.2.2.2.2.2.2.2.2.2.2.2.2.2.2.1, hG.2.2.2.2.2.2.2.2.2.2.2.2.2.2.2.2.2.2.2.2.2.2.2.2⟩⟩
theorem sx_q_s_zS2b_0 {γ : Nat → Int} {A : Nat → Nat → Int} {j : Nat} {y : Int} (hG : sx_G0 γ A) (c4 : sx_g3 (γ 18446) (γ 18447) (1 + 0) (γ 18449) (γ 18450) (γ 18451) (γ 18452) (sx_au A 123 j y 123)) : ∃ a ∈ sx_r_s_zS2b.2, ∃ w : Nat → Int, (∀ (i : Nat) p, a.1[i]? = some p → p.2.1 ≤ w i ∧ w i ≤ p.2.2) ∧ (∀ f ∈ a.2.1, 0 ≤ sx_d (sx_th γ (j : Int) y w) f) ∧ (∀ e, a.2.2.2.head? = some e → sx_d (sx_th γ (j : Int) y w) e = y) ∧ sx_G0 (sx_gu γ (sx_th γ (j : Int) y w) a.2.2.1) (if true = true then sx_au A 123 j y else A) := ⟨([], [], [(18448, (1, []))], []), List.Mem.head _, (fun _ => 0), fun i p hi => (by
    match i, hi with
    | n + 0, hi => simp at hi), fun f hf => (by cases hf), fun e he => (by cases he), ⟨hG.1, hG.2.1, hG.2.2.1, hG.2.2.2.1, c4, hG.2.2.2.2.2.1, hG.2.2.2.2.2.2.1, hG.2.2.2.2.2.2.2.1, hG.2.2.2.2.2.2.2.2.1, hG.2.2.2.2.2.2.2.2.2.1, hG.2.2.2.2.2.2.2.2.2.2.1, hG.2.2.2.2.2.2.2.2.2.2.2.1, hG.2.2.2.2.2.2.2.2.2.2.2.2.1, hG.2.2.2.2.2.2.2.2.2.2.2.2.2.1, hG.2.2.2.2.2.2.2.2.2.2.2.2.2.2.1, hG.2.2.2.2.2.2.2.2.2.2.2.2.2.2.2.1, hG.2.2.2.2.2.2.2.2.2.2.2.2.2.2.2.2.1, hG.2.2.2.2.2.2.2.2.2.2.2.2.2.2.2.2.2.1, hG.2.2.2.2.2.2.2.2.2.2.2.2.2.2.2.2.2.2.1, hG.2.2.2.2.2.2.2.2.2.2.2.2.2.2.2.2.2.2.2.1, hG.2.2.2.2.2.2.2.2.2.2.2.2.2.2.2.2.2.2.2.2.1, hG.2.2.2.2.2.2.2.2.2.2.2.2.2.2.2.2.2.2.2.2.2.1, hG.2.2.2.2.2.2.2.2.2.2.2.2.2.2.2.2.2.2.2.2.2.2.1, hG.2.2.2.2.2.2.2.2.2.2.2.2.2.2.2.2.2.2.2.2.2.2.2.1, hG.2.2.2.2.2.2.2.2.2.2.2.2.2.2.2.2.2.2.2.2.2.2.2.2⟩⟩
theorem sx_q_s_zS3a_0 {γ : Nat → Int} {A : Nat → Nat → Int} {j : Nat} {y : Int} (hG : sx_G0 γ A) (c4 : sx_g3 (γ 18446) (γ 18447) (γ 18448) (0 + 0) (γ 18450) (γ 18451) (γ 18452) (sx_au A 123 j y 123)) : ∃ a ∈ sx_r_s_zS3a.2, ∃ w : Nat → Int, (∀ (i : Nat) p, a.1[i]? = some p → p.2.1 ≤ w i ∧ w i ≤ p.2.2) ∧ (∀ f ∈ a.2.1, 0 ≤ sx_d (sx_th γ (j : Int) y w) f) ∧ (∀ e, a.2.2.2.head? = some e → sx_d (sx_th γ (j : Int) y w) e = y) ∧ sx_G0 (sx_gu γ (sx_th γ (j : Int) y w) a.2.2.1) (if true = true then sx_au A 123 j y else A) := ⟨([], [], [(18449, (0, []))], []), List.Mem.head _, (fun _ => 0), fun i p hi => (by
    match i, hi with
    | n + 0, hi => simp at hi), fun f hf => (by cases hf), fun e he => (by cases he), ⟨hG.1, hG.2.1, hG.2.2.1, hG.2.2.2.1, c4, hG.2.2.2.2.2.1, hG.2.2.2.2.2.2.1, hG.2.2.2.2.2.2.2.1, hG.2.2.2.2.2.2.2.2.1, hG.2.2.2.2.2.2.2.2.2.1, hG.2.2.2.2.2.2.2.2.2.2.1, hG.2.2.2.2.2.2.2.2.2.2.2.1, hG.2.2.2.2.2.2.2.2.2.2.2.2.1, hG.2.2.2.2.2.2.2.2.2.2.2.2.2.1, hG.2.2.2.2.2.2.2.2.2.2.2.2.2.2.1, hG.2.2.2.2.2.2.2.2.2.2.2.2.2.2.2.1, hG.2.2.2.2.2.2.2.2.2.2.2.2.2.2.2.2.1, hG.2.2.2.2.2.2.2.2.2.2.2.2.2.2.2.2.2.1, hG.2.2.2.2.2.2.2.2.2.2.2.2.2.2.2.2.2.2.1, hG.2.2.2.2.2.2.2.2.2.2.2.2.2.2.2.2.2.2.2.1, hG.2.2.2.2.2.2.2.2.2.2.2.2.2.2.2.2.2.2.2.2.1, hG.2.2.2.2.2.2.2.2.2.2.2.2.2.2.2.2.2.2.2.2.2.1, hG.2.2.2.2.2.2.2.2.2.2.2.2.2.2.2.2.2.2.2.2.2.2.1, hG.2.2.2.2.2.2.2.2.2.2.2.2.2.2.2.2.2.2.2.2.2.2.2.1, hG.2.2.2.2.2.2.2.2.2.2.2.2.2.2.2.2.2.2.2.2.2.2.2.2⟩⟩
theorem sx_q_s_zS3b_0 {γ : Nat → Int} {A : Nat → Nat → Int} {j : Nat} {y : Int} (hG : sx_G0 γ A) (c4 : sx_g3 (γ 18446) (γ 18447) (γ 18448) (1 + 0) (γ 18450) (γ 18451) (γ 18452) (sx_au A 123 j y 123)) : ∃ a ∈ sx_r_s_zS3b.2, ∃ w : Nat → Int, (∀ (i : Nat) p, a.1[i]? = some p → p.2.1 ≤ w i ∧ w i ≤ p.2.2) ∧ (∀ f ∈ a.2.1, 0 ≤ sx_d (sx_th γ (j : Int) y w) f) ∧ (∀ e, a.2.2.2.head? = some e → sx_d (sx_th γ (j : Int) y w) e = y) ∧ sx_G0 (sx_gu γ (sx_th γ (j : Int) y w) a.2.2.1) (if true = true then sx_au A 123 j y else A) := ⟨([], [], [(18449, (1, []))], []), List.Mem.head _, (fun _ => 0), fun i p hi => (by
    match i, hi with
    | n + 0, hi => simp at hi), fun f hf => (by cases hf), fun e he => (by cases he), ⟨hG.1, hG.2.1, hG.2.2.1, hG.2.2.2.1, c4, hG.2.2.2.2.2.1, hG.2.2.2.2.2.2.1, hG.2.2.2.2.2.2.2.1, hG.2.2.2.2.2.2.2.2.1, hG.2.2.2.2.2.2.2.2.2.1, hG.2.2.2.2.2.2.2.2.2.2.1, hG.2.2.2.2.2.2.2.2.2.2.2.1, hG.2.2.2.2.2.2.2.2.2.2.2.2.1, hG.2.2.2.2.2.2.2.2.2.2.2.2.2.1, hG.2.2.2.2.2.2.2.2.2.2.2.2.2.2.1, hG.2.2.2.2.2.2.2.2.2.2.2.2.2.2.2.1, hG.2.2.2.2.2.2.2.2.2.2.2.2.2.2.2.2.1, hG.2.2.2.2.2.2.2.2.2.2.2.2.2.2.2.2.2.1, hG.2.2.2.2.2.2.2.2.2.2.2.2.2.2.2.2.2.2.1, hG.2.2.2.2.2.2.2.2.2.2.2.2.2.2.2.2.2.2.2.1, hG.2.2.2.2.2.2.2.2.2.2.2.2.2.2.2.2.2.2.2.2.1, hG.2.2.2.2.2.2.2.2.2.2.2.2.2.2.2.2.2.2.2.2.2.1, hG.2.2.2.2.2.2.2.2.2.2.2.2.2.2.2.2.2.2.2.2.2.2.1, hG.2.2.2.2.2.2.2.2.2.2.2.2.2.2.2.2.2.2.2.2.2.2.2.1, hG.2.2.2.2.2.2.2.2.2.2.2.2.2.2.2.2.2.2.2.2.2.2.2.2⟩⟩
theorem sx_q_s_zS4a_0 {γ : Nat → Int} {A : Nat → Nat → Int} {j : Nat} {y : Int} (hG : sx_G0 γ A) (c4 : sx_g3 (γ 18446) (γ 18447) (γ 18448) (γ 18449) (0 + 0) (γ 18451) (γ 18452) (sx_au A 123 j y 123)) : ∃ a ∈ sx_r_s_zS4a.2, ∃ w : Nat → Int, (∀ (i : Nat) p, a.1[i]? = some p → p.2.1 ≤ w i ∧ w i ≤ p.2.2) ∧ (∀ f ∈ a.2.1, 0 ≤ sx_d (sx_th γ (j : Int) y w) f) ∧ (∀ e, a.2.2.2.head? = some e → sx_d (sx_th γ (j : Int) y w) e = y) ∧ sx_G0 (sx_gu γ (sx_th γ (j : Int) y w) a.2.2.1) (if true = true then sx_au A 123 j y else A) := ⟨([], [], [(18450, (0, []))], []), List.Mem.head _, (fun _ => 0), fun i p hi => (by
    match i, hi with
    | n + 0, hi => simp at hi), fun f hf => (by cases hf), fun e he => (by cases he), ⟨hG.1, hG.2.1, hG.2.2.1, hG.2.2.2.1, c4, hG.2.2.2.2.2.1, hG.2.2.2.2.2.2.1, hG.2.2.2.2.2.2.2.1, hG.2.2.2.2.2.2.2.2.1, hG.2.2.2.2.2.2.2.2.2.1, hG.2.2.2.2.2.2.2.2.2.2.1, hG.2.2.2.2.2.2.2.2.2.2.2.1, hG.2.2.2.2.2.2.2.2.2.2.2.2.1, hG.2.2.2.2.2.2.2.2.2.2.2.2.2.1, hG.2.2.2.2.2.2.2.2.2.2.2.2.2.2.1, hG.2.2.2.2.2.2.2.2.2.2.2.2.2.2.2.1, hG.2.2.2.2.2.2.2.2.2.2.2.2.2.2.2.2.1, hG.2.2.2.2.2.2.2.2.2.2.2.2.2.2.2.2.2.1, hG.2.2.2.2.2.2.2.2.2.2.2.2.2.2.2.2.2.2.1, hG.2.2.2.2.2.2.2.2.2.2.2.2.2.2.2.2.2.2.2.1, hG.2.2.2.2.2.2.2.2.2.2.2.2.2.2.2.2.2.2.2.2.1, hG.2.2.2.2.2.2.2.2.2.2.2.2.2.2.2.2.2.2.2.2.2.1, hG.2.2.2.2.2.2.2.2.2.2.2.2.2.2.2.2.2.2.2.2.2.2.1, hG.2.2.2.2.2.2.2.2.2.2.2.2.2.2.2.2.2.2.2.2.2.2.2.1, hG.2.2.2.2.2.2.2.2.2.2.2.2.2.2.2.2.2.2.2.2.2.2.2.2⟩⟩
theorem sx_q_s_zS4b_0 {γ : Nat → Int} {A : Nat → Nat → Int} {j : Nat} {y : Int} (hG : sx_G0 γ A) (c4 : sx_g3 (γ 18446) (γ 18447) (γ 18448) (γ 18449) (1 + 0) (γ 18451) (γ 18452) (sx_au A 123 j y 123)) : ∃ a ∈ sx_r_s_zS4b.2, ∃ w : Nat → Int, (∀ (i : Nat) p, a.1[i]? = some p → p.2.1 ≤ w i ∧ w i ≤ p.2.2) ∧ (∀ f ∈ a.2.1, 0 ≤ sx_d (sx_th γ (j : Int) y w) f) ∧ (∀ e, a.2.2.2.head? = some e → sx_d (sx_th γ (j : Int) y w) e = y) ∧ sx_G0 (sx_gu γ (sx_th γ (j : Int) y w) a.2.2.1) (if true = true then sx_au A 123 j y else A) := ⟨([], [], [(18450, (1, []))], []), List.Mem.head _, (fun _ => 0), fun i p hi => (by
    match i, hi with
    | n + 0, hi => simp at hi), fun f hf => (by cases hf), fun e he => (by cases he), ⟨hG.1, hG.2.1, hG.2.2.1, hG.2.2.2.1, c4, hG.2.2.2.2.2.1, hG.2.2.2.2.2.2.1, hG.2.2.2.2.2.2.2.1, hG.2.2.2.2.2.2.2.2.1, hG.2.2.2.2.2.2.2.2.2.1, hG.2.2.2.2.2.2.2.2.2.2.1, hG.2.2.2.2.2.2.2.2.2.2.2.1, hG.2.2.2.2.2.2.2.2.2.2.2.2.1, hG.2.2.2.2.2.2.2.2.2.2.2.2.2.1, hG.2.2.2.2.2.2.2.2.2.2.2.2.2.2.1, hG.2.2.2.2.2.2.2.2.2.2.2.2.2.2.2.1, hG.2.2.2.2.2.2.2.2.2.2.2.2.2.2.2.2.1, hG.2.2.2.2.2.2.2.2.2.2.2.2.2.2.2.2.2.1, hG.2.2.2.2.2.2.2.2.2.2.2.2.2.2.2.2.2.2.1, hG.2.2.2.2.2.2.2.2.2.2.2.2.2.2.2.2.2.2.2.1, hG.2.2.2.2.2.2.2.2.2.2.2.2.2.2.2.2.2.2.2.2.1, hG.2.2.2.2.2.2.2.2.2.2.2.2.2.2.2.2.2.2.2.2.2.1, hG.2.2.2.2.2.2.2.2.2.2.2.2.2.2.2.2.2.2.2.2.2.2.1, hG.2.2.2.2.2.2.2.2.2.2.2.2.2.2.2.2.2.2.2.2.2.2.2.1, hG.2.2.2.2.2.2.2.2.2.2.2.2.2.2.2.2.2.2.2.2.2.2.2.2⟩⟩
theorem sx_q_s_zS5a_0 {γ : Nat → Int} {A : Nat → Nat → Int} {j : Nat} {y : Int} (hG : sx_G0 γ A) (c4 : sx_g3 (γ 18446) (γ 18447) (γ 18448) (γ 18449) (γ 18450) (0 + 0) (γ 18452) (sx_au A 123 j y 123)) : ∃ a ∈ sx_r_s_zS5a.2, ∃ w : Nat → Int, (∀ (i : Nat) p, a.1[i]? = some p → p.2.1 ≤ w i ∧ w i ≤ p.2.2) ∧ (∀ f ∈ a.2.1, 0 ≤ sx_d (sx_th γ (j : Int) y w) f) ∧ (∀ e, a.2.2.2.head? = some e → sx_d (sx_th γ (j : Int) y w) e = y) ∧ sx_G0 (sx_gu γ (sx_th γ (j : Int) y w) a.2.2.1) (if true = true then sx_au A 123 j y else A) := ⟨([], [], [(18451, (0, []))], []), List.Mem.head _, (fun _ => 0), fun i p hi => (by
    match i, hi with
    | n + 0, hi => simp at hi), fun f hf => (by cases hf), fun e he => (by cases he), ⟨hG.1, hG.2.1, hG.2.2.1, hG.2.2.2.1, c4, hG.2.2.2.2.2.1, hG.2.2.2.2.2.2.1, hG.2.2.2.2.2.2.2.1, hG.2.2.2.2.2.2.2.2.1, hG.2.2.2.2.2.2.2.2.2.1, hG.2.2.2.2.2.2.2.2.2.2.1, hG.2.2.2.2.2.2.2.2.2.2.2.1, hG.2.2.2.2.2.2.2.2.2.2.2.2.1, hG.2.2.2.2.2.2.2.2.2.2.2.2.2.1, hG.2.2.2.2.2.2.2.2.2.2.2.2.2.2.1, hG.2.2.2.2.2.2.2.2.2.2.2.2.2.2.2.1, hG.2.2.2.2.2.2.2.2.2.2.2.2.2.2.2.2.1, hG.2.2.2.2.2.2.2.2.2.2.2.2.2.2.2.2.2.1, hG.2.2.2.2.2.2.2.2.2.2.2.2.2.2.2.2.2.2.1, hG.2.2.2.2.2.2.2.2.2.2.2.2.2.2.2.2.2.2.2.1, hG.2.2.2.2.2.2.2.2.2.2.2.2.2.2.2.2.2.2.2.2.1, hG.2.2.2.2.2.2.2.2.2.2.2.2.2.2.2.2.2.2.2.2.2.1, hG.2.2.2.2.2.2.2.2.2.2.2.2.2.2.2.2.2.2.2.2.2.2.1, hG.2.2.2.2.2.2.2.2.2.2.2.2.2.2.2.2.2.2.2.2.2.2.2.1, hG.2.2.2.2.2.2.2.2.2.2.2.2.2.2.2.2.2.2.2.2.2.2.2.2⟩⟩
theorem sx_q_s_zS5b_0 {γ : Nat → Int} {A : Nat → Nat → Int} {j : Nat} {y : Int} (hG : sx_G0 γ A) (c4 : sx_g3 (γ 18446) (γ 18447) (γ 18448) (γ 18449) (γ 18450) (1 + 0) (γ 18452) (sx_au A 123 j y 123)) : ∃ a ∈ sx_r_s_zS5b.2, ∃ w : Nat → Int, (∀ (i : Nat) p, a.1[i]? = some p → p.2.1 ≤ w i ∧ w i ≤ p.2.2) ∧ (∀ f ∈ a.2.1, 0 ≤ sx_d (sx_th γ (j : Int) y w) f) ∧ (∀ e, a.2.2.2.head? = some e → sx_d (sx_th γ (j : Int) y w) e = y) ∧ sx_G0 (sx_gu γ (sx_th γ (j : Int) y w) a.2.2.1) (if true = true then sx_au A 123 j y else A) := ⟨([], [], [(18451, (1, []))], []), List.Mem.head _, (fun _ => 0), fun i p hi => (by
    match i, hi with
    | n + 0, hi => simp at hi), fun f hf => (by cases hf), fun e he => (by cases he), ⟨hG.1, hG.2.1, hG.2.2.1, hG.2.2.2.1, c4, hG.2.2.2.2.2.1, hG.2.2.2.2.2.2.1, hG.2.2.2.2.2.2.2.1, hG.2.2.2.2.2.2.2.2.1, hG.2.2.2.2.2.2.2.2.2.1, hG.2.2.2.2.2.2.2.2.2.2.1, hG.2.2.2.2.2.2.2.2.2.2.2.1, hG.2.2.2.2.2.2.2.2.2.2.2.2.1, hG.2.2.2.2.2.2.2.2.2.2.2.2.2.1, hG.2.2.2.2.2.2.2.2.2.2.2.2.2.2.1, hG.2.2.2.2.2.2.2.2.2.2.2.2.2.2.2.1, hG.2.2.2.2.2.2.2.2.2.2.2.2.2.2.2.2.1, hG.2.2.2.2.2.2.2.2.2.2.2.2.2.2.2.2.2.1, hG.2.2.2.2.2.2.2.2.2.2.2.2.2.2.2.2.2.2.1, hG.2.2.2.2.2.2.2.2.2.2.2.2.2.2.2.2.2.2.2.1, hG.2.2.2.2.2.2.2.2.2.2.2.2.2.2.2.2.2.2.2.2.1, hG.2.2.2.2.2.2.2.2.2.2.2.2.2.2.2.2.2.2.2.2.2.1, hG.2.2.2.2.2.2.2.2.2.2.2.2.2.2.2.2.2.2.2.2.2.2.1, hG.2.2.2.2.2.2.2.2.2.2.2.2.2.2.2.2.2.2.2.2.2.2.2.1, hG.2.2.2.2.2.2.2.2.2.2.2.2.2.2.2.2.2.2.2.2.2.2.2.2⟩⟩
theorem sx_q_s_zS6a_0 {γ : Nat → Int} {A : Nat → Nat → Int} {j : Nat} {y : Int} (hG : sx_G0 γ A) (c4 : sx_g3 (γ 18446) (γ 18447) (γ 18448) (γ 18449) (γ 18450) (γ 18451) (0 + 0) (sx_au A 123 j y 123)) : ∃ a ∈ sx_r_s_zS6a.2, ∃ w : Nat → Int, (∀ (i : Nat) p, a.1[i]? = some p → p.2.1 ≤ w i ∧ w i ≤ p.2.2) ∧ (∀ f ∈ a.2.1, 0 ≤ sx_d (sx_th γ (j : Int) y w) f) ∧ (∀ e, a.2.2.2.head? = some e → sx_d (sx_th γ (j : Int) y w) e = y) ∧ sx_G0 (sx_gu γ (sx_th γ (j : Int) y w) a.2.2.1) (if true = true then sx_au A 123 j y else A) := ⟨([], [], [(18452, (0, []))], []), List.Mem.head _, (fun _ => 0), fun i p hi => (by
    match i, hi with
    | n + 0, hi => simp at hi), fun f hf => (by cases hf), fun e he => (by cases he), ⟨hG.1, hG.2.1, hG.2.2.1, hG.2.2.2.1, c4, hG.2.2.2.2.2.1, hG.2.2.2.2.2.2.1, hG.2.2.2.2.2.2.2.1, hG.2.2.2.2.2.2.2.2.1, hG.2.2.2.2.2.2.2.2.2.1, hG.2.2.2.2.2.2.2.2.2.2.1, hG.2.2.2.2.2.2.2.2.2.2.2.1, hG.2.2.2.2.2.2.2.2.2.2.2.2.1, hG.2.2.2.2.2.2.2.2.2.2.2.2.2.1, hG.2.2.2.2.2.2.2.2.2.2.2.2.2.2.1, hG.2.2.2.2.2.2.2.2.2.2.2.2.2.2.2.1, hG.2.2.2.2.2.2.2.2.2.2.2.2.2.2.2.2.1, hG.2.2.2.2.2.2.2.2.2.2.2.2.2.2.2.2.2.1, hG.2.2.2.2.2.2.2.2.2.2.2.2.2.2.2.2.2.2.1, hG.2.2.2.2.2.2.2.2.2.2.2.2.2.2.2.2.2.2.2.1, hG.2.2.2.2.2.2.2.2.2.2.2.2.2.2.2.2.2.2.2.2.1, hG.2.2.2.2.2.2.2.2.2.2.2.2.2.2.2.2.2.2.2.2.2.1, hG.2.2.2.2.2.2.2.2.2.2.2.2.2.2.2.2.2.2.2.2.2.2.1, hG.2.2.2.2.2.2.2.2.2.2.2.2.2.2.2.2.2.2.2.2.2.2.2.1, hG.2.2.2.2.2.2.2.2.2.2.2.2.2.2.2.2.2.2.2.2.2.2.2.2⟩⟩
theorem sx_q_s_zS6b_0 {γ : Nat → Int} {A : Nat → Nat → Int} {j : Nat} {y : Int} (hG : sx_G0 γ A) (c4 : sx_g3 (γ 18446) (γ 18447) (γ 18448) (γ 18449) (γ 18450) (γ 18451) (1 + 0) (sx_au A 123 j y 123)) : ∃ a ∈ sx_r_s_zS6b.2, ∃ w : Nat → Int, (∀ (i : Nat) p, a.1[i]? = some p → p.2.1 ≤ w i ∧ w i ≤ p.2.2) ∧ (∀ f ∈ a.2.1, 0 ≤ sx_d (sx_th γ (j : Int) y w) f) ∧ (∀ e, a.2.2.2.head? = some e → sx_d (sx_th γ (j : Int) y w) e = y) ∧ sx_G0 (sx_gu γ (sx_th γ (j : Int) y w) a.2.2.1) (if true = true then sx_au A 123 j y else A) := ⟨([], [], [(18452, (1, []))], []), List.Mem.head _, (fun _ => 0), fun i p hi => (by
    match i, hi with
    | n + 0, hi => simp at hi), fun f hf => (by cases hf), fun e he => (by cases he), ⟨hG.1, hG.2.1, hG.2.2.1, hG.2.2.2.1, c4, hG.2.2.2.2.2.1, hG.2.2.2.2.2.2.1, hG.2.2.2.2.2.2.2.1, hG.2.2.2.2.2.2.2.2.1, hG.2.2.2.2.2.2.2.2.2.1, hG.2.2.2.2.2.2.2.2.2.2.1, hG.2.2.2.2.2.2.2.2.2.2.2.1, hG.2.2.2.2.2.2.2.2.2.2.2.2.1, hG.2.2.2.2.2.2.2.2.2.2.2.2.2.1, hG.2.2.2.2.2.2.2.2.2.2.2.2.2.2.1, hG.2.2.2.2.2.2.2.2.2.2.2.2.2.2.2.1, hG.2.2.2.2.2.2.2.2.2.2.2.2.2.2.2.2.1, hG.2.2.2.2.2.2.2.2.2.2.2.2.2.2.2.2.2.1, hG.2.2.2.2.2.2.2.2.2.2.2.2.2.2.2.2.2.2.1, hG.2.2.2.2.2.2.2.2.2.2.2.2.2.2.2.2.2.2.2.1, hG.2.2.2.2.2.2.2.2.2.2.2.2.2.2.2.2.2.2.2.2.1, hG.2.2.2.2.2.2.2.2.2.2.2.2.2.2.2.2.2.2.2.2.2.1, hG.2.2.2.2.2.2.2.2.2.2.2.2.2.2.2.2.2.2.2.2.2.2.1, hG.2.2.2.2.2.2.2.2.2.2.2.2.2.2.2.2.2.2.2.2.2.2.2.1, hG.2.2.2.2.2.2.2.2.2.2.2.2.2.2.2.2.2.2.2.2.2.2.2.2⟩⟩
theorem sx_q_s_zI0a_0 {γ : Nat → Int} {A : Nat → Nat → Int} {j : Nat} {y : Int} (hG : sx_G0 γ A) (c3 : sx_g3 (0 + 0) (γ 18440) (γ 18441) (γ 18442) (γ 18443) (γ 18444) (γ 18445) (sx_au A 124 j y 124)) : ∃ a ∈ sx_r_s_zI0a.2, ∃ w : Nat → Int, (∀ (i : Nat) p, a.1[i]? = some p → p.2.1 ≤ w i ∧ w i ≤ p.2.2) ∧ (∀ f ∈ a.2.1, 0 ≤ sx_d (sx_th γ (j : Int) y w) f) ∧ (∀ e, a.2.2.2.head? = some e → sx_d (sx_th γ (j : Int) y w) e = y) ∧ sx_G0 (sx_gu γ (sx_th γ (j : Int) y w) a.2.2.1) (if true = true then sx_au A 124 j y else A) := ⟨([], [], [(18439, (0, []))], []), List.Mem.head _, (fun _ => 0), fun i p hi => (by
    match i, hi with
    | n + 0, hi => simp at hi), fun f hf => (by cases hf), fun e he => (by cases he), ⟨hG.1, hG.2.1, hG.2.2.1, c3, hG.2.2.2.2.1, hG.2.2.2.2.2.1, hG.2.2.2.2.2.2.1, hG.2.2.2.2.2.2.2.1, hG.2.2.2.2.2.2.2.2.1, hG.2.2.2.2.2.2.2.2.2.1, hG.2.2.2.2.2.2.2.2.2.2.1, hG.2.2.2.2.2.2.2.2.2.2.2.1, hG.2.2.2.2.2.2.2.2.2.2.2.2.1, hG.2.2.2.2.2.2.2.2.2.2.2.2.2.1, hG.2.2.2.2.2.2.2.2.2.2.2.2.2.2.1, hG.2.2.2.2.2.2.2.2.2.2.2.2.2.2.2.1, hG.2.2.2.2.2.2.2.2.2.2.2.2.2.2.2.2.1, hG.2.2.2.2.2.2.2.2.2.2.2.2.2.2.2.2.2.1, hG.2.2.2.2.2.2.2.2.2.2.2.2.2.2.2.2.2.2.1, hG.2.2.2.2.2.2.2.2.2.2.2.2.2.2.2.2.2.2.2.1, hG.2.2.2.2.2.2.2.2.2.2.2.2.2.2.2.2.2.2.2.2.1, hG.2.2.2.2.2.2.2.2.2.2.2.2.2.2.2.2.2.2.2.2.2.1, hG.2.2.2.2.2.2.2.2.2.2.2.2.2.2.2.2.2.2.2.2.2.2.1, hG.2.2.2.2.2.2.2.2.2.2.2.2.2.2.2.2.2.2.2.2.2.2.2.1, hG.2.2.2.2.2.2.2.2.2.2.2.2.2.2.2.2.2.2.2.2.2.2.2.2⟩⟩
theorem sx_q_s_zI0b_0 {γ : Nat → Int} {A : Nat → Nat → Int} {j : Nat} {y : Int} (hG : sx_G0 γ A) (c3 : sx_g3 (1 + 0) (γ 18440) (γ 18441) (γ 18442) (γ 18443) (γ 18444) (γ 18445) (sx_au A 124 j y 124)) : ∃ a ∈ sx_r_s_zI0b.2, ∃ w : Nat → Int, (∀ (i : Nat) p, a.1[i]? = some p → p.2.1 ≤ w i ∧ w i ≤ p.2.2) ∧ (∀ f ∈ a.2.1, 0 ≤ sx_d (sx_th γ (j : Int) y w) f) ∧ (∀ e, a.2.2.2.head? = some e → sx_d (sx_th γ (j : Int) y w) e = y) ∧ sx_G0 (sx_gu γ (sx_th γ (j : Int) y w) a.2.2.1) (if true = true then sx_au A 124 j y else A) := ⟨([], [], [(18439, (1, []))], []), List.Mem.head _, (fun _ => 0), fun i p hi => (by
    match i, hi with
    | n + 0, hi => simp at hi), fun f hf => (by cases hf), fun e he => (by cases he), ⟨hG.1, hG.2.1, hG.2.2.1, c3, hG.2.2.2.2.1, hG.2.2.2.2.2.1, hG.2.2.2.2.2.2.1, hG.2.2.2.2.2.2.2.1, hG.2.2.2.2.2.2.2.2.1, hG.2.2.2.2.2.2.2.2.2.1, hG.2.2.2.2.2.2.2.2.2.2.1, hG.2.2.2.2.2.2.2.2.2.2.2.1, hG.2.2.2.2.2.2.2.2.2.2.2.2.1, hG.2.2.2.2.2.2.2.2.2.2.2.2.2.1, hG.2.2.2.2.2.2.2.2.2.2.2.2.2.2.1, hG.2.2.2.2.2.2.2.2.2.2.2.2.2.2.2.1, hG.2.2.2.2.2.2.2.2.2.2.2.2.2.2.2.2.1, hG.2.2.2.2.2.2.2.2.2.2.2.2.2.2.2.2.2.1, hG.2.2.2.2.2.2.2.2.2.2.2.2.2.2.2.2.2.2.1, hG.2.2.2.2.2.2.2.2.2.2.2.2.2.2.2.2.2.2.2.1, hG.2.2.2.2.2.2.2.2.2.2.2.2.2.2.2.2.2.2.2.2.1, hG.2.2.2.2.2.2.2.2.2.2.2.2.2.2.2.2.2.2.2.2.2.1, hG.2.2.2.2.2.2.2.2.2.2.2.2.2.2.2.2.2.2.2.2.2.2.1, hG.2.2.2.2.2.2.2.2.2.2.2.2.2.2.2.2.2.2.2.2.2.2.2.1, hG.2.2.2.2.2.2.2.2.2.2.2.2.2.2.2.2.2.2.2.2.2.2.2.2⟩⟩
theorem sx_q_s_zI1a_0 {γ : Nat → Int} {A : Nat → Nat → Int} {j : Nat} {y : Int} (hG : sx_G0 γ A) (c3 : sx_g3 (γ 18439) (0 + 0) (γ 18441) (γ 18442) (γ 18443) (γ 18444) (γ 18445) (sx_au A 124 j y 124)) : ∃ a ∈ sx_r_s_zI1a.2, ∃ w : Nat → Int, (∀ (i : Nat) p, a.1[i]? = some p → p.2.1 ≤ w i ∧ w i ≤ p.2.2) ∧ (∀ f ∈ a.2.1, 0 ≤ sx_d (sx_th γ (j : Int) y w) f) ∧ (∀ e, a.2.2.2.head? = some e → sx_d (sx_th γ (j : Int) y w) e = y) ∧ sx_G0 (sx_gu γ (sx_th γ (j : Int) y w) a.2.2.1) (if true = true then sx_au A 124 j y else A) := ⟨([], [], [(18440, (0, []))], []), List.Mem.head _, (fun _ => 0), fun i p hi => (by
    match i, hi with
    | n + 0, hi => simp at hi), fun f hf => (by cases hf), fun e he => (by cases he), ⟨hG.1, hG.2.1, hG.2.2.1, c3, hG.2.2.2.2.1, hG.2.2.2.2.2.1, hG.2.2.2.2.2.2.1, hG.2.2.2.2.2.2.2.1, hG.2.2.2.2.2.2.2.2.1, hG.2.2.2.2.2.2.2.2.2.1, hG.2.2.2.2.2.2.2.2.2.2.1, hG.2.2.2.2.2.2.2.2.2.2.2.1, hG.2.2.2.2.2.2.2.2.2.2.2.2.1, hG.2.2.2.2.2.2.2.2.2.2.2.2.2.1, hG.2.2.2.2.2.2.2.2.2.2.2.2.2.2.1, hG.2.2.2.2.2.2.2.2.2.2.2.2.2.2.2.1, hG.2.2.2.2.2.2.2.2.2.2.2.2.2.2.2.2.1, hG.2.2.2.2.2.2.2.2.2.2.2.2.2.2.2.2.2.1, hG.2.2.2.2.2.2.2.2.2.2.2.2.2.2.2.2.2.2.1, hG.2.2.2.2.2.2.2.2.2.2.2.2.2.2.2.2.2.2.2.1, hG.2.2.2.2.2.2.2.2.2.2.2.2.2.2.2.2.2.2.2.2.1, hG.2.2.2.2.2.2.2.2.2.2.2.2.2.2.2.2.2.2.2.2.2.1, hG.2.2.2.2.2.2.2.2.2.2.2.2.2.2.2.2.2.2.2.2.2.2.1, hG.2.2.2.2.2.2.2.2.2.2.2.2.2.2.2.2.2.2.2.2.2.2.2.1, hG.2.2.2.2.2.2.2.2.2.2.2.2.2.2.2.2.2.2.2.2.2.2.2.2⟩⟩
theorem sx_q_s_zI1b_0 {γ : Nat → Int} {A : Nat → Nat → Int} {j : Nat} {y : Int} (hG : sx_G0 γ A) (c3 : sx_g3 (γ 18439) (1 + 0) (γ 18441) (γ 18442) (γ 18443) (γ 18444) (γ 18445) (sx_au A 124 j y 124)) : ∃ a ∈ sx_r_s_zI1b.2, ∃ w : Nat → Int, (∀ (i : Nat) p, a.1[i]? = some p → p.2.1 ≤ w i ∧ w i ≤ p.2.2) ∧ (∀ f ∈ a.2.1, 0 ≤ sx_d (sx_th γ (j : Int) y w) f) ∧ (∀ e, a.2.2.2.head? = some e → sx_d (sx_th γ (j : Int) y w) e = y) ∧ sx_G0 (sx_gu γ (sx_th γ (j : Int) y w) a.2.2.1) (if true = true then sx_au A 124 j y else A) := ⟨([], [], [(18440, (1, []))], []), List.Mem.head _, (fun _ => 0), fun i p hi => (by
    match i, hi with
    | n + 0, hi => simp at hi), fun f hf => (by cases hf), fun e he => (by cases he), ⟨hG.1, hG.2.1, hG.2.2.1, c3, hG.2.2.2.2.1, hG.2.2.2.2.2.1, hG.2.2.2.2.2.2.1, hG.2.2.2.2.2.2.2.1, hG.2.2.2.2.2.2.2.2.1, hG.2.2.2.2.2.2.2.2.2.1, hG.2.2.2.2.2.2.2.2.2.2.1, hG.2.2.2.2.2.2.2.2.2.2.2.1, hG.2.2.2.2.2.2.2.2.2.2.2.2.1, hG.2.2.2.2.2.2.2.2.2.2.2.2.2.1, hG.2.2.2.2.2.2.2.2.2.2.2.2.2.2.1, hG.2.2.2.2.2.2.2.2.2.2.2.2.2.2.2.1, hG.2.2.2.2.2.2.2.2.2.2.2.2.2.2.2.2.1, hG.2.2.2.2.2.2.2.2.2.2.2.2.2.2.2.2.2.1, hG.2.2.2.2.2.2.2.2.2.2.2.2.2.2.2.2.2.2.1, hG.2.2.2.2.2.2.2.2.2.2.2.2.2.2.2.2.2.2.2.1, hG.2.2.2.2.2.2.2.2.2.2.2.2.2.2.2.2.2.2.2.2.1, hG.2.2.2.2.2.2.2.2.2.2.2.2.2.2.2.2.2.2.2.2.2.1, hG.2.2.2.2.2.2.2.2.2.2.2.2.2.2.2.2.2.2.2.2.2.2.1, hG.2.2.2.2.2.2.2.2.2.2.2.2.2.2.2.2.2.2.2.2.2.2.2.1, hG.2.2.2.2.2.2.2.2.2.2.2.2.2.2.2.2.2.2.2.2.2.2.2.2⟩⟩
theorem sx_q_s_zI2a_0 {γ : Nat → Int} {A : Nat → Nat → Int} {j : Nat} {y : Int} (hG : sx_G0 γ A) (c3 : sx_g3 (γ 18439) (γ 18440) (0 + 0) (γ 18442) (γ 18443) (γ 18444) (γ 18445) (sx_au A 124 j y 124)) : ∃ a ∈ sx_r_s_zI2a.2, ∃ w : Nat → Int, (∀ (i : Nat) p, a.1[i]? = some p → p.2.1 ≤ w i ∧ w i ≤ p.2.2) ∧ (∀ f ∈ a.2.1, 0 ≤ sx_d (sx_th γ (j : Int) y w) f) ∧ (∀ e, a.2.2.2.head? = some e → sx_d (sx_th γ (j : Int) y w) e = y) ∧ sx_G0 (sx_gu γ (sx_th γ (j : Int) y w) a.2.2.1) (if true = true then sx_au A 124 j y else A) := ⟨([], [], [(18441, (0, []))], []), List.Mem.head _, (fun _ => 0), fun i p hi => (by
    match i, hi with
    | n + 0, hi => simp at hi), fun f hf => (by cases hf), fun e he => (by cases he), ⟨hG.1, hG.2.1, hG.2.2.1, c3, hG.2.2.2.2.1, hG.2.2.2.2.2.1, hG.2.2.2.2.2.2.1, hG.2.2.2.2.2.2.2.1, hG.2.2.2.2.2.2.2.2.1, hG.2.2.2.2.2.2.2.2.2.1, hG.2.2.2.2.2.2.2.2.2.2.1, hG.2.2.2.2.2.2.2.2.2.2.2.1, hG.2.2.2.2.2.2.2.2.2.2.2.2.1, hG.2.2.2.2.2.2.2.2.2.2.2.2.2.1, hG.2.2.2.2.2.2.2.2.2.2.2.2.2.2.1, hG.2.2.2.2.2.2.2.2.2.2.2.2.2.2.2.1, hG.2.2.2.2.2.2.2.2.2.2.2.2.2.2.2.2.1, hG.2.2.2.2.2.2.2.2.2.2.2.2.2.2.2.2.2.1, hG.2.2.2.2.2.2.2.2.2.2.2.2.2.2.2.2.2.2.1, hG.2.2.2.2.2.2.2.2.2.2.2.2.2.2.2.2.2.2.2.1, hG.2.2.2.2.2.2.2.2.2.2.2.2.2.2.2.2.2.2.2.2.1, hG.2.2.2.2.2.2.2.2.2.2.2.2.2.2.2.2.2.2.2.2.2.1, hG.2.2.2.2.2.2.2.2.2.2.2.2.2.2.2.2.2.2.2.2.2.2.1, hG.2.2.2.2.2.2.2.2.2.2.2.2.2.2.2.2.2.2.2.2.2.2.2.1, hG.2.2.2.2.2.2.2.2.2.2.2.2.2.2.2.2.2.2.2.2.2.2.2.2⟩⟩
theorem sx_q_s_zI2b_0 {γ : Nat → Int} {A : Nat → Nat → Int} {j : Nat} {y : Int} (hG : sx_G0 γ A) (c3 : sx_g3 (γ 18439) (γ 18440) (1 + 0) (γ 18442) (γ 18443) (γ 18444) (γ 18445) (sx_au A 124 j y 124)) : ∃ a ∈ sx_r_s_zI2b.2, ∃ w : Nat → Int, (∀ (i : Nat) p, a.1[i]? = some p → p.2.1 ≤ w i ∧ w i ≤ p.2.2) ∧ (∀ f ∈ a.2.1, 0 ≤ sx_d (sx_th γ (j : Int) y w) f) ∧ (∀ e, a.2.2.2.head? = some e → sx_d (sx_th γ (j : Int) y w) e = y) ∧ sx_G0 (sx_gu γ (sx_th γ (j : Int) y w) a.2.2.1) (if true = true then sx_au A 124 j y else A) := ⟨([], [], [(18441, (1, []))], []), List.Mem.head _, (fun _ => 0), fun i p hi => (by
    match i, hi with
    | n + 0, hi => simp at hi), fun f hf => (by cases hf), fun e he => (by cases he), ⟨hG.1, hG.2.1, hG.2.2.1, c3, hG.2.2.2.2.1, hG.2.2.2.2.2.1, hG.2.2.2.2.2.2.1, hG.2.2.2.2.2.2.2.1, hG.2.2.2.2.2.2.2.2.1, hG.2.2.2.2.2.2.2.2.2.1, hG.2.2.2.2.2.2.2.2.2.2.1, hG.2.2.2.2.2.2.2.2.2.2.2.1, hG.2.2.2.2.2.2.2.2.2.2.2.2.1, hG.2.2.2.2.2.2.2.2.2.2.2.2.2.1, hG.2.2.2.2.2.2.2.2.2.2.2.2.2.2.1, hG.2.2.2.2.2.2.2.2.2.2.2.2.2.2.2.1, hG.2.2.2.2.2.2.2.2.2.2.2.2.2.2.2.2.1, hG.2.2.2.2.2.2.2.2.2.2.2.2.2.2.2.2.2.1, hG.2.2.2.2.2.2.2.2.2.2.2.2.2.2.2.2.2.2.1, hG.2.2.2.2.2.2.2.2.2.2.2.2.2.2.2.2.2.2.2.1, hG.2.2.2.2.2.2.2.2.2.2.2.2.2.2.2.2.2.2.2.2.1, hG.2.2.2.2.2.2.2.2.2.2.2.2.2.2.2.2.2.2.2.2.2.1, hG.2.2.2.2.2.2.2.2.2.2.2.2.2.2.2.2.2.2.2.2.2.2.1, hG.2.2.2.2.2.2.2.2.2.2.2.2.2.2.2.2.2.2.2.2.2.2.2.1, hG.2.2.2.2.2.2.2.2.2.2.2.2.2.2.2.2.2.2.2.2.2.2.2.2⟩⟩
theorem sx_q_s_zI3a_0 {γ : Nat → Int} {A : Nat → Nat → Int} {j : Nat} {y : Int} (hG : sx_G0 γ A) (c3 : sx_g3 (γ 18439) (γ 18440) (γ 18441) (0 + 0) (γ 18443) (γ 18444) (γ 18445) (sx_au A 124 j y 124)) : ∃ a ∈ sx_r_s_zI3a.2, ∃ w : Nat → Int, (∀ (i : Nat) p, a.1[i]? = some p → p.2.1 ≤ w i ∧ w i ≤ p.2.2) ∧ (∀ f ∈ a.2.1, 0 ≤ sx_d (sx_th γ (j : Int) y w) f) ∧ (∀ e, a.2.2.2.head? = some e → sx_d (sx_th γ (j : Int) y w) e = y) ∧ sx_G0 (sx_gu γ (sx_th γ (j : Int) y w) a.2.2.1) (if true = true then sx_au A 124 j y else A) := ⟨([], [], [(18442, (0, []))], []), List.Mem.head _, (fun _ => 0), fun i p hi => (by
    match i, hi with
    | n + 0, hi => simp at hi), fun f hf => (by cases hf), fun e he => (by cases he), ⟨hG.1, hG.2.1, hG.2.2.1, c3, hG.2.2.2.2.1, hG.2.2.2.2.2.1, hG.2.2.2.2.2.2.1, hG.2.2.2.2.2.2.2.1, hG.2.2.2.2.2.2.2.2.1, hG.2.2.2.2.2.2.2.2.2.1, hG.2.2.2.2.2.2.2.2.2.2.1, hG.2.2.2.2.2.2.2.2.2.2.2.1, hG.2.2.2.2.2.2.2.2.2.2.2.2.1, hG.2.2.2.2.2.2.2.2.2.2.2.2.2.1, hG.2.2.2.2.2.2.2.2.2.2.2.2.2.2.1, hG.2.2.2.2.2.2.2.2.2.2.2.2.2.2.2.1, hG.2.2.2.2.2.2.2.2.2.2.2.2.2.2.2.2.1, hG.2.2.2.2.2.2.2.2.2.2.2.2.2.2.2.2.2.1, hG.2.2.2.2.2.2.2.2.2.2.2.2.2.2.2.2.2.2.1, hG.2.2.2.2.2.2.2.2.2.2.2.2.2.2.2.2.2.2.2.1, hG.2.2.2.2.2.2.2.2.2.2.2.2.2.2.2.2.2.2.2.2.1, hG.2.2.2.2.2.2.2.2.2.2.2.2.2.2.2.2.2.2.2.2.2.1, hG.2.2.2.2.2.2.2.2.2.2.2.2.2.2.2.2.2.2.2.2.2.2.1, hG.2.2.2.2.2.2.2.2.2.2.2.2.2.2.2.2.2.2.2.2.2.2.2.1, hG.2.2.2.2.2.2.2.2.2.2.2.2.2.2.2.2.2.2.2.2.2.2.2.2⟩⟩
theorem sx_q_s_zI3b_0 {γ : Nat → Int} {A : Nat → Nat → Int} {j : Nat} {y : Int} (hG : sx_G0 γ A) (c3 : sx_g3 (γ 18439) (γ 18440) (γ 18441) (1 + 0) (γ 18443) (γ 18444) (γ 18445) (sx_au A 124 j y 124)) : ∃ a ∈ sx_r_s_zI3b.2, ∃ w : Nat → Int, (∀ (i : Nat) p, a.1[i]? = some p → p.2.1 ≤ w i ∧ w i ≤ p.2.2) ∧ (∀ f ∈ a.2.1, 0 ≤ sx_d (sx_th γ (j : Int) y w) f) ∧ (∀ e, a.2.2.2.head? = some e → sx_d (sx_th γ (j : Int) y w) e = y) ∧ sx_G0 (sx_gu γ (sx_th γ (j : Int) y w) a.2.2.1) (if true = true then sx_au A 124 j y else A) := ⟨([], [], [(18442, (1, []))], []), List.Mem.head _, (fun _ => 0), fun i p hi => (by
    match i, hi with
    | n + 0, hi => simp at hi), fun f hf => (by cases hf), fun e he => (by cases he), ⟨hG.1, hG.2.1, hG.2.2.1, c3, hG.2.2.2.2.1, hG.2.2.2.2.2.1, hG.2.2.2.2.2.2.1, hG.2.2.2.2.2.2.2.1, hG.2.2.2.2.2.2.2.2.1, hG.2.2.2.2.2.2.2.2.2.1, hG.2.2.2.2.2.2.2.2.2.2.1, hG.2.2.2.2.2.2.2.2.2.2.2.1, hG.2.2.2.2.2.2.2.2.2.2.2.2.1, hG.2.2.2.2.2.2.2.2.2.2.2.2.2.1, hG.2.2.2.2.2.2.2.2.2.2.2.2.2.2.1, hG.2.2.2.2.2.2.2.2.2.2.2.2.2.2.2.1, hG.2.2.2.2.2.2.2.2.2.2.2.2.2.2.2.2.1, hG.2.2.2.2.2.2.2.2.2.2.2.2.2.2.2.2.2.1, hG.2.2.2.2.2.2.2.2.2.2.2.2.2.2.2.2.2.2.1, hG.2.2.2.2.2.2.2.2.2.2.2.2.2.2.2.2.2.2.2.1, hG.2.2.2.2.2.2.2.2.2.2.2.2.2.2.2.2.2.2.2.2.1, hG.2.2.2.2.2.2.2.2.2.2.2.2.2.2.2.2.2.2.2.2.2.1, hG.2.2.2.2.2.2.2.2.2.2.2.2.2.2.2.2.2.2.2.2.2.2.1, hG.2.2.2.2.2.2.2.2.2.2.2.2.2.2.2.2.2.2.2.2.2.2.2.1, hG.2.2.2.2.2.2.2.2.2.2.2.2.2.2.2.2.2.2.2.2.2.2.2.2⟩⟩
theorem sx_q_s_zI4a_0 {γ : Nat → Int} {A : Nat → Nat → Int} {j : Nat} {y : Int} (hG : sx_G0 γ A) (c3 : sx_g3 (γ 18439) (γ 18440) (γ 18441) (γ 18442) (0 + 0) (γ 18444) (γ 18445) (sx_au A 124 j y 124)) : ∃ a ∈ sx_r_s_zI4a.2, ∃ w : Nat → Int, (∀ (i : Nat) p, a.1[i]? = some p → p.2.1 ≤ w i ∧ w i ≤ p.2.2) ∧ (∀ f ∈ a.2.1, 0 ≤ sx_d (sx_th γ (j : Int) y w) f) ∧ (∀ e, a.2.2.2.head? = some e → sx_d (sx_th γ (j : Int) y w) e = y) ∧ sx_G0 (sx_gu γ (sx_th γ (j : Int) y w) a.2.2.1) (if true = true then sx_au A 124 j y else A) := ⟨([], [], [(18443, (0, []))], []), List.Mem.head _, (fun _ => 0), fun i p hi => (by
    match i, hi with
    | n + 0, hi => simp at hi), fun f hf => (by cases hf), fun e he => (by cases he), ⟨hG.1, hG.2.1, hG.2.2.1, c3, hG.2.2.2.2.1, hG.2.2.2.2.2.1, hG.2.2.2.2.2.2.1, hG.2.2.2.2.2.2.2.1, hG.2.2.2.2.2.2.2.2.1, hG.2.2.2.2.2.2.2.2.2.1, hG.2.2.2.2.2.2.2.2.2.2.1, hG.2.2.2.2.2.2.2.2.2.2.2.1, hG.2.2.2.2.2.2.2.2.2.2.2.2.1, hG.2.2.2.2.2.2.2.2.2.2.2.2.2.1, hG.2.2.2.2.2.2.2.2.2.2.2.2.2.2.1, hG.2.2.2.2.2.2.2.2.2.2.2.2.2.2.2.1, hG.2.2.2.2.2.2.2.2.2.2.2.2.2.2.2.2.1, hG.2.2.2.2.2.2.2.2.2.2.2.2.2.2.2.2.2.1, hG.2.2.2.2.2.2.2.2.2.2.2.2.2.2.2.2.2.2.1, hG.2.2.2.2.2.2.2.2.2.2.2.2.2.2.2.2.2.2.2.1, hG.2.2.2.2.2.2.2.2.2.2.2.2.2.2.2.2.2.2.2.2.1, hG.2.2.2.2.2.2.2.2.2.2.2.2.2.2.2.2.2.2.2.2.2.1, hG.2.2.2.2.2.2.2.2.2.2.2.2.2.2.2.2.2.2.2.2.2.2.1, hG.2.2.2.2.2.2.2.2.2.2.2.2.2.2.2.2.2.2.2.2.2.2.2.1, hG.2.2.2.2.2.2.2.2.2.2.2.2.2.2.2.2.2.2.2.2.2.2.2.2⟩⟩
theorem sx_q_s_zI4b_0 {γ : Nat → Int} {A : Nat → Nat → Int} {j : Nat} {y : Int} (hG : sx_G0 γ A) (c3 : sx_g3 (γ 18439) (γ 18440) (γ 18441) (γ 18442) (1 + 0) (γ 18444) (γ 18445) (sx_au A 124 j y 124)) : ∃ a ∈ sx_r_s_zI4b.2, ∃ w : Nat → Int, (∀ (i : Nat) p, a.1[i]? = some p → p.2.1 ≤ w i ∧ w i ≤ p.2.2) ∧ (∀ f ∈ a.2.1, 0 ≤ sx_d (sx_th γ (j : Int) y w) f) ∧ (∀ e, a.2.2.2.head? = some e → sx_d (sx_th γ (j : Int) y w) e = y) ∧ sx_G0 (sx_gu γ (sx_th γ (j : Int) y w) a.2.2.1) (if true = true then sx_au A 124 j y else A) := ⟨([], [], [(18443, (1, []))], []), List.Mem.head _, (fun _ => 0), fun i p hi => (by
    match i, hi with
    | n + 0, hi => simp at hi), fun f hf => (by cases hf), fun e he => (by cases he), ⟨hG.1, hG.2.1, hG.2.2.1, c3, hG.2.2.2.2.1, hG.2.2.2.2.2.1, hG.2.2.2.2.2.2.1, hG.2.2.2.2.2.2.2.1, hG.2.2.2.2.2.2.2.2.1, hG.2.2.2.2.2.2.2.2.2.1, hG.2.2.2.2.2.2.2.2.2.2.1, hG.2.2.2.2.2.2.2.2.2.2.2.1, hG.2.2.2.2.2.2.2.2.2.2.2.2.1, hG.2.2.2.2.2.2.2.2.2.2.2.2.2.1, hG.2.2.2.2.2.2.2.2.2.2.2.2.2.2.1, hG.2.2.2.2.2.2.2.2.2.2.2.2.2.2.2.1, hG.2.2.2.2.2.2.2.2.2.2.2.2.2.2.2.2.1, hG.2.2.2.2.2.2.2.2.2.2.2.2.2.2.2.2.2.1, hG.2.2.2.2.2.2.2.2.2.2.2.2.2.2.2.2.2.2.1, hG.2.2.2.2.2.2.2.2.2.2.2.2.2.2.2.2.2.2.2.1, hG.2.2.2.2.2.2.2.2.2.2.2.2.2.2.2.2.2.2.2.2.1, hG.2.2.2.2.2.2.2.2.2.2.2.2.2.2.2.2.2.2.2.2.2.1, hG.2.2.2.2.2.2.2.2.2.2.2.2.2.2.2.2.2.2.2.2.2.2.1, hG.2.2.2.2.2.2.2.2.2.2.2.2.2.2.2.2.2.2.2.2.2.2.2.1, hG.2.2.2.2.2.2.2.2.2.2.2.2.2.2.2.2.2.2.2.2.2.2.2.2⟩⟩
theorem sx_q_s_zI5a_0 {γ : Nat → Int} {A : Nat → Nat → Int} {j : Nat} {y : Int} (hG : sx_G0 γ A) (c3 : sx_g3 (γ 18439) (γ 18440) (γ 18441) (γ 18442) (γ 18443) (0 + 0) (γ 18445) (sx_au A 124 j y 124)) : ∃ a ∈ sx_r_s_zI5a.2, ∃ w : Nat → Int, (∀ (i : Nat) p, a.1[i]? = some p → p.2.1 ≤ w i ∧ w i ≤ p.2.2) ∧ (∀ f ∈ a.2.1, 0 ≤ sx_d (sx_th γ (j : Int) y w) f) ∧ (∀ e, a.2.2.2.head? = some e → sx_d (sx_th γ (j : Int) y w) e = y) ∧ sx_G0 (sx_gu γ (sx_th γ (j : Int) y w) a.2.2.1) (if true = true then sx_au A 124 j y else A) := ⟨([], [], [(18444, (0, []))], []), List.Mem.head _, (fun _ => 0), fun i p hi => (by
    match i, hi with
    | n + 0, hi => simp at hi), fun f hf => (by cases hf), fun e he => (by cases he), ⟨hG.1, hG.2.1, hG.2.2.1, c3, hG.2.2.2.2.1, hG.2.2.2.2.2.1, hG.2.2.2.2.2.2.1, hG.2.2.2.2.2.2.2.1, hG.2.2.2.2.2.2.2.2.1, hG.2.2.2.2.2.2.2.2.2.1, hG.2.2.2.2.2.2.2.2.2.2.1, hG.2.2.2.2.2.2.2.2.2.2.2.1, hG.2.2.2.2.2.2.2.2.2.2.2.2.1, hG.2.2.2.2.2.2.2.2.2.2.2.2.2.1, hG.2.2.2.2.2.2.2.2.2.2.2.2.2.2.1, hG.2.2.2.2.2.2.2.2.2.2.2.2.2.2.2.1, hG.2.2.2.2.2.2.2.2.2.2.2.2.2.2.2.2.1, hG.2.2.2.2.2.2.2.2.2.2.2.2.2.2.2.2.2.1, hG.2.2.2.2.2.2.2.2.2.2.2.2.2.2.2.2.2.2.1, hG.2.2.2.2.2.2.2.2.2.2.2.2.2.2.2.2.2.2.2.1, hG.2.2.2.2.2.2.2.2.2.2.2.2.2.2.2.2.2.2.2.2.1, hG.2.2.2.2.2.2.2.2.2.2.2.2.2.2.2.2.2.2.2.2.2.1, hG.2.2.2.2.2.2.2.2.2.2.2.2.2.2.2.2.2.2.2.2.2.2.1, hG.2.2.2.2.2.2.2.2.2.2.2.2.2.2.2.2.2.2.2.2.2.2.2.1, hG.2.2.2.2.2.2.2.2.2.2.2.2.2.2.2.2.2.2.2.2.2.2.2.2⟩⟩
theorem sx_q_s_zI5b_0 {γ : Nat → Int} {A : Nat → Nat → Int} {j : Nat} {y : Int} (hG : sx_G0 γ A) (c3 : sx_g3 (γ 18439) (γ 18440) (γ 18441) (γ 18442) (γ 18443) (1 + 0) (γ 18445) (sx_au A 124 j y 124)) : ∃ a ∈ sx_r_s_zI5b.2, ∃ w : Nat → Int, (∀ (i : Nat) p, a.1[i]? = some p → p.2.1 ≤ w i ∧ w i ≤ p.2.2) ∧ (∀ f ∈ a.2.1, 0 ≤ sx_d (sx_th γ (j : Int) y w) f) ∧ (∀ e, a.2.2.2.head? = some e → sx_d (sx_th γ (j : Int) y w) e = y) ∧ sx_G0 (sx_gu γ (sx_th γ (j : Int) y w) a.2.2.1) (if true = true then sx_au A 124 j y else A) := ⟨([], [], [(18444, (1, []))], []), List.Mem.head _, (fun _ => 0), fun i p hi => (by
    match i, hi with
    | n + 0, hi => simp at hi), fun f hf => (by cases hf), fun e he => (by cases he), ⟨hG.1, hG.2.1, hG.2.2.1, c3, hG.2.2.2.2.1, hG.2.2.2.2.2.1, hG.2.2.2.2.2.2.1, hG.2.2.2.2.2.2.2.1, hG.2.2.2.2.2.2.2.2.1, hG.2.2.2.2.2.2.2.2.2.1, hG.2.2.2.2.2.2.2.2.2.2.1, hG.2.2.2.2.2.2.2.2.2.2.2.1, hG.2.2.2.2.2.2.2.2.2.2.2.2.1, hG.2.2.2.2.2.2.2.2.2.2.2.2.2.1, hG.2.2.2.2.2.2.2.2.2.2.2.2.2.2.1, hG.2.2.2.2.2.2.2.2.2.2.2.2.2.2.2.1, hG.2.2.2.2.2.2.2.2.2.2.2.2.2.2.2.2.1, hG.2.2.2.2.2.2.2.2.2.2.2.2.2.2.2.2.2.1, hG.2.2.2.2.2.2.2.2.2.2.2.2.2.2.2.2.2.2.1, hG.2.2.2.2.2.2.2.2.2.2.2.2.2.2.2.2.2.2.2.1, hG.2.2.2.2.2.2.2.2.2.2.2.2.2.2.2.2.2.2.2.2.1, hG.2.2.2.2.2.2.2.2.2.2.2.2.2.2.2.2.2.2.2.2.2.1, hG.2.2.2.2.2.2.2.2.2.2.2.2.2.2.2.2.2.2.2.2.2.2.1, hG.2.2.2.2.2.2.2.2.2.2.2.2.2.2.2.2.2.2.2.2.2.2.2.1, hG.2.2.2.2.2.2.2.2.2.2.2.2.2.2.2.2.2.2.2.2.2.2.2.2⟩⟩
theorem sx_q_s_zI6a_0 {γ : Nat → Int} {A : Nat → Nat → Int} {j : Nat} {y : Int} (hG : sx_G0 γ A) (c3 : sx_g3 (γ 18439) (γ 18440) (γ 18441) (γ 18442) (γ 18443) (γ 18444) (0 + 0) (sx_au A 124 j y 124)) : ∃ a ∈ sx_r_s_zI6a.2, ∃ w : Nat → Int, (∀ (i : Nat) p, a.1[i]? = some p → p.2.1 ≤ w i ∧ w i ≤ p.2.2) ∧ (∀ f ∈ a.2.1, 0 ≤ sx_d (sx_th γ (j : Int) y w) f) ∧ (∀ e, a.2.2.2.head? = some e → sx_d (sx_th γ (j : Int) y w) e = y) ∧ sx_G0 (sx_gu γ (sx_th γ (j : Int) y w) a.2.2.1) (if true = true then sx_au A 124 j y else A) := ⟨([], [], [(18445, (0, []))], []), List.Mem.head _, (fun _ => 0), fun i p hi => (by
    match i, hi with
    | n + 0, hi => simp at hi), fun f hf => (by cases hf), fun e he => (by cases he), ⟨hG.1, hG.2.1, hG.2.2.1, c3, hG.2.2.2.2.1, hG.2.2.2.2.2.1, hG.2.2.2.2.2.2.1, hG.2.2.2.2.2.2.2.1, hG.2.2.2.2.2.2.2.2.1, hG.2.2.2.2.2.2.2.2.2.1, hG.2.2.2.2.2.2.2.2.2.2.1, hG.2.2.2.2.2.2.2.2.2.2.2.1, hG.2.2.2.2.2.2.2.2.2.2.2.2.1, hG.2.2.2.2.2.2.2.2.2.2.2.2.2.1, hG.2.2.2.2.2.2.2.2.2.2.2.2.2.2.1, hG.2.2.2.2.2.2.2.2.2.2.2.2.2.2.2.1, hG.2.2.2.2.2.2.2.2.2.2.2.2.2.2.2.2.1, hG.2.2.2.2.2.2.2.2.2.2.2.2.2.2.2.2.2.1, hG.2.2.2.2.2.2.2.2.2.2.2.2.2.2.2.2.2.2.1, hG.2.2.2.2.2.2.2.2.2.2.2.2.2.2.2.2.2.2.2.1, hG.2.2.2.2.2.2.2.2.2.2.2.2.2.2.2.2.2.2.2.2.1, hG.2.2.2.2.2.2.2.2.2.2.2.2.2.2.2.2.2.2.2.2.2.1, hG.2.2.2.2.2.2.2.2.2.2.2.2.2.2.2.2.2.2.2.2.2.2.1, hG.2.2.2.2.2.2.2.2.2.2.2.2.2.2.2.2.2.2.2.2.2.2.2.1, hG.2.2.2.2.2.2.2.2.2.2.2.2.2.2.2.2.2.2.2.2.2.2.2.2⟩⟩
theorem sx_q_s_zI6b_0 {γ : Nat → Int} {A : Nat → Nat → Int} {j : Nat} {y : Int} (hG : sx_G0 γ A) (c3 : sx_g3 (γ 18439) (γ 18440) (γ 18441) (γ 18442) (γ 18443) (γ 18444) (1 + 0) (sx_au A 124 j y 124)) : ∃ a ∈ sx_r_s_zI6b.2, ∃ w : Nat → Int, (∀ (i : Nat) p, a.1[i]? = some p → p.2.1 ≤ w i ∧ w i ≤ p.2.2) ∧ (∀ f ∈ a.2.1, 0 ≤ sx_d (sx_th γ (j : Int) y w) f) ∧ (∀ e, a.2.2.2.head? = some e → sx_d (sx_th γ (j : Int) y w) e = y) ∧ sx_G0 (sx_gu γ (sx_th γ (j : Int) y w) a.2.2.1) (if true = true then sx_au A 124 j y else A) := ⟨([], [], [(18445, (1, []))], []), List.Mem.head _, (fun _ => 0), fun i p hi => (by
    match i, hi with
    | n + 0, hi => simp at hi), fun f hf => (by cases hf), fun e he => (by cases he), ⟨hG.1, hG.2.1, hG.2.2.1, c3, hG.2.2.2.2.1, hG.2.2.2.2.2.1, hG.2.2.2.2.2.2.1, hG.2.2.2.2.2.2.2.1, hG.2.2.2.2.2.2.2.2.1, hG.2.2.2.2.2.2.2.2.2.1, hG.2.2.2.2.2.2.2.2.2.2.1, hG.2.2.2.2.2.2.2.2.2.2.2.1, hG.2.2.2.2.2.2.2.2.2.2.2.2.1, hG.2.2.2.2.2.2.2.2.2.2.2.2.2.1, hG.2.2.2.2.2.2.2.2.2.2.2.2.2.2.1, hG.2.2.2.2.2.2.2.2.2.2.2.2.2.2.2.1, hG.2.2.2.2.2.2.2.2.2.2.2.2.2.2.2.2.1, hG.2.2.2.2.2.2.2.2.2.2.2.2.2.2.2.2.2.1, hG.2.2.2.2.2.2.2.2.2.2.2.2.2.2.2.2.2.2.1, hG.2.2.2.2.2.2.2.2.2.2.2.2.2.2.2.2.2.2.2.1, hG.2.2.2.2.2.2.2.2.2.2.2.2.2.2.2.2.2.2.2.2.1, hG.2.2.2.2.2.2.2.2.2.2.2.2.2.2.2.2.2.2.2.2.2.1, hG.2.2.2.2.2.2.2.2.2.2.2.2.2.2.2.2.2.2.2.2.2.2.1, hG.2.2.2.2.2.2.2.2.2.2.2.2.2.2.2.2.2.2.2.2.2.2.2.1, hG.2.2.2.2.2.2.2.2.2.2.2.2.2.2.2.2.2.2.2.2.2.2.2.2⟩⟩
theorem sx_q_s_roomA_0 {γ : Nat → Int} {A : Nat → Nat → Int} {j : Nat} {y : Int} (hG : sx_G0 γ A) (c7 : sx_g6 (1 + 0) (0 + 0) (8 + 0) (0 + 0) ((-1) + 0) (0 + 0) (sx_au A 131 j y 131)) : ∃ a ∈ sx_r_s_roomA.2, ∃ w : Nat → Int, (∀ (i : Nat) p, a.1[i]? = some p → p.2.1 ≤ w i ∧ w i ≤ p.2.2) ∧ (∀ f ∈ a.2.1, 0 ≤ sx_d (sx_th γ (j : Int) y w) f) ∧ (∀ e, a.2.2.2.head? = some e → sx_d (sx_th γ (j : Int) y w) e = y) ∧ sx_G0 (sx_gu γ (sx_th γ (j : Int) y w) a.2.2.1) (if true = true then sx_au A 131 j y else A) := ⟨([], [], [(18455, (1, [])), (18456, (0, [])), (18457, (8, [])), (18458, (0, [])), (18459, ((-1), [])), (18460, (0, []))], []), List.Mem.head _, (fun _ => 0), fun i p hi => (by
    match i, hi with
    | n + 0, hi => simp at hi), fun f hf => (by cases hf), fun e he => (by cases he), ⟨hG.1, hG.2.1, hG.2.2.1, hG.2.2.2.1, hG.2.2.2.2.1, hG.2.2.2.2.2.1, hG.2.2.2.2.2.2.1, c7, hG.2.2.2.2.2.2.2.2.1, hG.2.2.2.2.2.2.2.2.2.1, hG.2.2.2.2.2.2.2.2.2.2.1, hG.2.2.2.2.2.2.2.2.2.2.2.1, hG.2.2.2.2.2.2.2.2.2.2.2.2.1, hG.2.2.2.2.2.2.2.2.2.2.2.2.2.1, hG.2.2.2.2.2.2.2.2.2.2.2.2.2.2.1, hG.2.2.2.2.2.2.2.2.2.2.2.2.2.2.2.1, hG.2.2.2.2.2.2.2.2.2.2.2.2.2.2.2.2.1, hG.2.2.2.2.2.2.2.2.2.2.2.2.2.2.2.2.2.1, hG.2.2.2.2.2.2.2.2.2.2.2.2.2.2.2.2.2.2.1, hG.2.2.2.2.2.2.2.2.2.2.2.2.2.2.2.2.2.2.2.1, hG.2.2.2.2.2.2.2.2.2.2.2.2.2.2.2.2.2.2.2.2.1, hG.2.2.2.2.2.2.2.2.2.2.2.2.2.2.2.2.2.2.2.2.2.1, hG.2.2.2.2.2.2.2.2.2.2.2.2.2.2.2.2.2.2.2.2.2.2.1, hG.2.2.2.2.2.2.2.2.2.2.2.2.2.2.2.2.2.2.2.2.2.2.2.1, hG.2.2.2.2.2.2.2.2.2.2.2.2.2.2.2.2.2.2.2.2.2.2.2.2⟩⟩
theorem sx_q_s_roomB_0 {γ : Nat → Int} {A : Nat → Nat → Int} {j : Nat} {y : Int} (hG : sx_G0 γ A) (c7 : sx_g6 (1 + (1 * γ 18455 + 0)) (γ 18456) (8 + 0) (0 + 0) ((-1) + 0) (0 + 0) (sx_au A 131 j y 131)) : ∃ a ∈ sx_r_s_roomB.2, ∃ w : Nat → Int, (∀ (i : Nat) p, a.1[i]? = some p → p.2.1 ≤ w i ∧ w i ≤ p.2.2) ∧ (∀ f ∈ a.2.1, 0 ≤ sx_d (sx_th γ (j : Int) y w) f) ∧ (∀ e, a.2.2.2.head? = some e → sx_d (sx_th γ (j : Int) y w) e = y) ∧ sx_G0 (sx_gu γ (sx_th γ (j : Int) y w) a.2.2.1) (if true = true then sx_au A 131 j y else A) := ⟨([], [], [(18455, (1, [(18455, 1)])), (18457, (8, [])), (18458, (0, [])), (18459, ((-1), [])), (18460, (0, []))], []), List.Mem.head _, (fun _ => 0), fun i p hi => (by
    match i, hi with
    | n + 0, hi => simp at hi), fun f hf => (by cases hf), fun e he => (by cases he), ⟨hG.1, hG.2.1, hG.2.2.1, hG.2.2.2.1, hG.2.2.2.2.1, hG.2.2.2.2.2.1, hG.2.2.2.2.2.2.1, c7, hG.2.2.2.2.2.2.2.2.1, hG.2.2.2.2.2.2.2.2.2.1, hG.2.2.2.2.2.2.2.2.2.2.1, hG.2.2.2.2.2.2.2.2.2.2.2.1, hG.2.2.2.2.2.2.2.2.2.2.2.2.1, hG.2.2.2.2.2.2.2.2.2.2.2.2.2.1, hG.2.2.2.2.2.2.2.2.2.2.2.2.2.2.1, hG.2.2.2.2.2.2.2.2.2.2.2.2.2.2.2.1, hG.2.2.2.2.2.2.2.2.2.2.2.2.2.2.2.2.1, hG.2.2.2.2.2.2.2.2.2.2.2.2.2.2.2.2.2.1, hG.2.2.2.2.2.2.2.2.2.2.2.2.2.2.2.2.2.2.1, hG.2.2.2.2.2.2.2.2.2.2.2.2.2.2.2.2.2.2.2.1, hG.2.2.2.2.2.2.2.2.2.2.2.2.2.2.2.2.2.2.2.2.1, hG.2.2.2.2.2.2.2.2.2.2.2.2.2.2.2.2.2.2.2.2.2.1, hG.2.2.2.2.2.2.2.2.2.2.2.2.2.2.2.2.2.2.2.2.2.2.1, hG.2.2.2.2.2.2.2.2.2.2.2.2.2.2.2.2.2.2.2.2.2.2.2.1, hG.2.2.2.2.2.2.2.2.2.2.2.2.2.2.2.2.2.2.2.2.2.2.2.2⟩⟩
theorem sx_q_s_roomC_0 {γ : Nat → Int} {A : Nat → Nat → Int} {j : Nat} {y : Int} (hG : sx_G0 γ A) (f0 : 0 ≤ 4138 + ((-1) * γ 18456 + 0)) (c7 : sx_g6 (1 + (1 * (j : Int) + 0)) (1 + (1 * γ 18456 + 0)) (8 + 0) (0 + 0) ((-1) + 0) (0 + 0) (sx_au A 131 j y 131)) : ∃ a ∈ sx_r_s_roomC.2, ∃ w : Nat → Int, (∀ (i : Nat) p, a.1[i]? = some p → p.2.1 ≤ w i ∧ w i ≤ p.2.2) ∧ (∀ f ∈ a.2.1, 0 ≤ sx_d (sx_th γ (j : Int) y w) f) ∧ (∀ e, a.2.2.2.head? = some e → sx_d (sx_th γ (j : Int) y w) e = y) ∧ sx_G0 (sx_gu γ (sx_th γ (j : Int) y w) a.2.2.1) (if true = true then sx_au A 131 j y else A) := ⟨([], [(4138, [(18456, (-1))])], [(18455, (1, [(19000, 1)])), (18456, (1, [(18456, 1)])), (18457, (8, [])), (18458, (0, [])), (18459, ((-1), [])), (18460, (0, []))], []), List.Mem.head _, (fun _ => 0), fun i p hi => (by
    match i, hi with
    | n + 0, hi => simp at hi), fun f hf => (by
    simp only [List.mem_cons, List.not_mem_nil, or_false] at hf
    rcases hf with rfl
    · exact f0
    ), fun e he => (by cases he), ⟨hG.1, hG.2.1, hG.2.2.1, hG.2.2.2.1, hG.2.2.2.2.1, hG.2.2.2.2.2.1, hG.2.2.2.2.2.2.1, c7, hG.2.2.2.2.2.2.2.2.1, hG.2.2.2.2.2.2.2.2.2.1, hG.2.2.2.2.2.2.2.2.2.2.1, hG.2.2.2.2.2.2.2.2.2.2.2.1, hG.2.2.2.2.2.2.2.2.2.2.2.2.1, hG.2.2.2.2.2.2.2.2.2.2.2.2.2.1, hG.2.2.2.2.2.2.2.2.2.2.2.2.2.2.1, hG.2.2.2.2.2.2.2.2.2.2.2.2.2.2.2.1, hG.2.2.2.2.2.2.2.2.2.2.2.2.2.2.2.2.1, hG.2.2.2.2.2.2.2.2.2.2.2.2.2.2.2.2.2.1, hG.2.2.2.2.2.2.2.2.2.2.2.2.2.2.2.2.2.2.1, hG.2.2.2.2.2.2.2.2.2.2.2.2.2.2.2.2.2.2.2.1, hG.2.2.2.2.2.2.2.2.2.2.2.2.2.2.2.2.2.2.2.2.1, hG.2.2.2.2.2.2.2.2.2.2.2.2.2.2.2.2.2.2.2.2.2.1, hG.2.2.2.2.2.2.2.2.2.2.2.2.2.2.2.2.2.2.2.2.2.2.1, hG.2.2.2.2.2.2.2.2.2.2.2.2.2.2.2.2.2.2.2.2.2.2.2.1, hG.2.2.2.2.2.2.2.2.2.2.2.2.2.2.2.2.2.2.2.2.2.2.2.2⟩⟩
theorem sx_q_s_roomD_0 {γ : Nat → Int} {A : Nat → Nat → Int} {j : Nat} {y : Int} (hG : sx_G0 γ A) (c7 : sx_g6 (0 + 0) (0 + 0) (8 + 0) (0 + 0) ((-1) + 0) (0 + 0) (sx_au A 131 j y 131)) : ∃ a ∈ sx_r_s_roomD.2, ∃ w : Nat → Int, (∀ (i : Nat) p, a.1[i]? = some p → p.2.1 ≤ w i ∧ w i ≤ p.2.2) ∧ (∀ f ∈ a.2.1, 0 ≤ sx_d (sx_th γ (j : Int) y w) f) ∧ (∀ e, a.2.2.2.head? = some e → sx_d (sx_th γ (j : Int) y w) e = y) ∧ sx_G0 (sx_gu γ (sx_th γ (j : Int) y w) a.2.2.1) (if true = true then sx_au A 131 j y else A) := ⟨([], [], [(18455, (0, [])), (18456, (0, [])), (18457, (8, [])), (18458, (0, [])), (18459, ((-1), [])), (18460, (0, []))], []), List.Mem.head _, (fun _ => 0), fun i p hi => (by
    match i, hi with
    | n + 0, hi => simp at hi), fun f hf => (by cases hf), fun e he => (by cases he), ⟨hG.1, hG.2.1, hG.2.2.1, hG.2.2.2.1, hG.2.2.2.2.1, hG.2.2.2.2.2.1, hG.2.2.2.2.2.2.1, c7, hG.2.2.2.2.2.2.2.2.1, hG.2.2.2.2.2.2.2.2.2.1, hG.2.2.2.2.2.2.2.2.2.2.1, hG.2.2.2.2.2.2.2.2.2.2.2.1, hG.2.2.2.2.2.2.2.2.2.2.2.2.1, hG.2.2.2.2.2.2.2.2.2.2.2.2.2.1, hG.2.2.2.2.2.2.2.2.2.2.2.2.2.2.1, hG.2.2.2.2.2.2.2.2.2.2.2.2.2.2.2.1, hG.2.2.2.2.2.2.2.2.2.2.2.2.2.2.2.2.1, hG.2.2.2.2.2.2.2.2.2.2.2.2.2.2.2.2.2.1, hG.2.2.2.2.2.2.2.2.2.2.2.2.2.2.2.2.2.2.1, hG.2.2.2.2.2.2.2.2.2.2.2.2.2.2.2.2.2.2.2.1, hG.2.2.2.2.2.2.2.2.2.2.2.2.2.2.2.2.2.2.2.2.1, hG.2.2.2.2.2.2.2.2.2.2.2.2.2.2.2.2.2.2.2.2.2.1, hG.2.2.2.2.2.2.2.2.2.2.2.2.2.2.2.2.2.2.2.2.2.2.1, hG.2.2.2.2.2.2.2.2.2.2.2.2.2.2.2.2.2.2.2.2.2.2.2.1, hG.2.2.2.2.2.2.2.2.2.2.2.2.2.2.2.2.2.2.2.2.2.2.2.2⟩⟩
theorem sx_q_s_who_0 {γ : Nat → Int} {A : Nat → Nat → Int} {j : Nat} {y : Int} (hG : sx_G0 γ A) (f0 : 0 ≤ 0 + ((-1) * (j : Int) + 0)) (c0 : sx_g1 (0 + (1 * y + 0)) (sx_au A 135 j y 135)) : ∃ a ∈ sx_r_s_who.2, ∃ w : Nat → Int, (∀ (i : Nat) p, a.1[i]? = some p → p.2.1 ≤ w i ∧ w i ≤ p.2.2) ∧ (∀ f ∈ a.2.1, 0 ≤ sx_d (sx_th γ (j : Int) y w) f) ∧ (∀ e, a.2.2.2.head? = some e → sx_d (sx_th γ (j : Int) y w) e = y) ∧ sx_G0 (sx_gu γ (sx_th γ (j : Int) y w) a.2.2.1) (if true = true then sx_au A 135 j y else A) := ⟨([], [(0, [(19000, (-1))])], [(18432, (0, [(19001, 1)]))], []), List.Mem.head _, (fun _ => 0), fun i p hi => (by
    match i, hi with
    | n + 0, hi => simp at hi), fun f hf => (by
    simp only [List.mem_cons, List.not_mem_nil, or_false] at hf
    rcases hf with rfl
    · exact f0
    ), fun e he => (by cases he), ⟨c0, hG.2.1, hG.2.2.1, hG.2.2.2.1, hG.2.2.2.2.1, hG.2.2.2.2.2.1, hG.2.2.2.2.2.2.1, hG.2.2.2.2.2.2.2.1, hG.2.2.2.2.2.2.2.2.1, hG.2.2.2.2.2.2.2.2.2.1, hG.2.2.2.2.2.2.2.2.2.2.1, hG.2.2.2.2.2.2.2.2.2.2.2.1, hG.2.2.2.2.2.2.2.2.2.2.2.2.1, hG.2.2.2.2.2.2.2.2.2.2.2.2.2.1, hG.2.2.2.2.2.2.2.2.2.2.2.2.2.2.1, hG.2.2.2.2.2.2.2.2.2.2.2.2.2.2.2.1, hG.2.2.2.2.2.2.2.2.2.2.2.2.2.2.2.2.1, hG.2.2.2.2.2.2.2.2.2.2.2.2.2.2.2.2.2.1, hG.2.2.2.2.2.2.2.2.2.2.2.2.2.2.2.2.2.2.1, hG.2.2.2.2.2.2.2.2.2.2.2.2.2.2.2.2.2.2.2.1, hG.2.2.2.2.2.2.2.2.2.2.2.2.2.2.2.2.2.2.2.2.1, hG.2.2.2.2.2.2.2.2.2.2.2.2.2.2.2.2.2.2.2.2.2.1, hG.2.2.2.2.2.2.2.2.2.2.2.2.2.2.2.2.2.2.2.2.2.2.1, hG.2.2.2.2.2.2.2.2.2.2.2.2.2.2.2.2.2.2.2.2.2.2.2.1, hG.2.2.2.2.2.2.2.2.2.2.2.2.2.2.2.2.2.2.2.2.2.2.2.2⟩⟩
theorem sx_q_s_who_1 {γ : Nat → Int} {A : Nat → Nat → Int} {j : Nat} {y : Int} (hG : sx_G0 γ A) (f0 : 0 ≤ (-1) + (1 * (j : Int) + 0)) (c0 : sx_g1 (γ 18432) (sx_au A 135 j y 135)) : ∃ a ∈ sx_r_s_who.2, ∃ w : Nat → Int, (∀ (i : Nat) p, a.1[i]? = some p → p.2.1 ≤ w i ∧ w i ≤ p.2.2) ∧ (∀ f ∈ a.2.1, 0 ≤ sx_d (sx_th γ (j : Int) y w) f) ∧ (∀ e, a.2.2.2.head? = some e → sx_d (sx_th γ (j : Int) y w) e = y) ∧ sx_G0 (sx_gu γ (sx_th γ (j : Int) y w) a.2.2.1) (if true = true then sx_au A 135 j y else A) := ⟨([], [((-1), [(19000, 1)])], [], []), List.Mem.tail _ (List.Mem.head _), (fun _ => 0), fun i p hi => (by
    match i, hi with
    | n + 0, hi => simp at hi), fun f hf => (by
    simp only [List.mem_cons, List.not_mem_nil, or_false] at hf
    rcases hf with rfl
    · exact f0
    ), fun e he => (by cases he), ⟨c0, hG.2.1, hG.2.2.1, hG.2.2.2.1, hG.2.2.2.2.1, hG.2.2.2.2.2.1, hG.2.2.2.2.2.2.1, hG.2.2.2.2.2.2.2.1, hG.2.2.2.2.2.2.2.2.1, hG.2.2.2.2.2.2.2.2.2.1, hG.2.2.2.2.2.2.2.2.2.2.1, hG.2.2.2.2.2.2.2.2.2.2.2.1, hG.2.2.2.2.2.2.2.2.2.2.2.2.1, hG.2.2.2.2.2.2.2.2.2.2.2.2.2.1, hG.2.2.2.2.2.2.2.2.2.2.2.2.2.2.1, hG.2.2.2.2.2.2.2.2.2.2.2.2.2.2.2.1, hG.2.2.2.2.2.2.2.2.2.2.2.2.2.2.2.2.1, hG.2.2.2.2.2.2.2.2.2.2.2.2.2.2.2.2.2.1, hG.2.2.2.2.2.2.2.2.2.2.2.2.2.2.2.2.2.2.1, hG.2.2.2.2.2.2.2.2.2.2.2.2.2.2.2.2.2.2.2.1, hG.2.2.2.2.2.2.2.2.2.2.2.2.2.2.2.2.2.2.2.2.1, hG.2.2.2.2.2.2.2.2.2.2.2.2.2.2.2.2.2.2.2.2.2.1, hG.2.2.2.2.2.2.2.2.2.2.2.2.2.2.2.2.2.2.2.2.2.2.1, hG.2.2.2.2.2.2.2.2.2.2.2.2.2.2.2.2.2.2.2.2.2.2.2.1, hG.2.2.2.2.2.2.2.2.2.2.2.2.2.2.2.2.2.2.2.2.2.2.2.2⟩⟩
theorem sx_q_s_goal_0 {γ : Nat → Int} {A : Nat → Nat → Int} {j : Nat} {y : Int} (hG : sx_G0 γ A) (f0 : 0 ≤ 0 + ((-1) * (j : Int) + 0)) (c1 : sx_g1 (0 + (1 * y + 0)) (sx_au A 136 j y 136)) : ∃ a ∈ sx_r_s_goal.2, ∃ w : Nat → Int, (∀ (i : Nat) p, a.1[i]? = some p → p.2.1 ≤ w i ∧ w i ≤ p.2.2) ∧ (∀ f ∈ a.2.1, 0 ≤ sx_d (sx_th γ (j : Int) y w) f) ∧ (∀ e, a.2.2.2.head? = some e → sx_d (sx_th γ (j : Int) y w) e = y) ∧ sx_G0 (sx_gu γ (sx_th γ (j : Int) y w) a.2.2.1) (if true = true then sx_au A 136 j y else A) := ⟨([], [(0, [(19000, (-1))])], [(18433, (0, [(19001, 1)]))], []), List.Mem.head _, (fun _ => 0), fun i p hi => (by
    match i, hi with
    | n + 0, hi => simp at hi), fun f hf => (by
    simp only [List.mem_cons, List.not_mem_nil, or_false] at hf
    rcases hf with rfl
    · exact f0
    ), fun e he => (by cases he), ⟨hG.1, c1, hG.2.2.1, hG.2.2.2.1, hG.2.2.2.2.1, hG.2.2.2.2.2.1, hG.2.2.2.2.2.2.1, hG.2.2.2.2.2.2.2.1, hG.2.2.2.2.2.2.2.2.1, hG.2.2.2.2.2.2.2.2.2.1, hG.2.2.2.2.2.2.2.2.2.2.1, hG.2.2.2.2.2.2.2.2.2.2.2.1, hG.2.2.2.2.2.2.2.2.2.2.2.2.1, hG.2.2.2.2.2.2.2.2.2.2.2.2.2.1, hG.2.2.2.2.2.2.2.2.2.2.2.2.2.2.1, hG.2.2.2.2.2.2.2.2.2.2.2.2.2.2.2.1, hG.2.2.2.2.2.2.2.2.2.2.2.2.2.2.2.2.1, hG.2.2.2.2.2.2.2.2.2.2.2.2.2.2.2.2.2.1, hG.2.2.2.2.2.2.2.2.2.2.2.2.2.2.2.2.2.2.1, hG.2.2.2.2.2.2.2.2.2.2.2.2.2.2.2.2.2.2.2.1, hG.2.2.2.2.2.2.2.2.2.2.2.2.2.2.2.2.2.2.2.2.1, hG.2.2.2.2.2.2.2.2.2.2.2.2.2.2.2.2.2.2.2.2.2.1, hG.2.2.2.2.2.2.2.2.2.2.2.2.2.2.2.2.2.2.2.2.2.2.1, hG.2.2.2.2.2.2.2.2.2.2.2.2.2.2.2.2.2.2.2.2.2.2.2.1, hG.2.2.2.2.2.2.2.2.2.2.2.2.2.2.2.2.2.2.2.2.2.2.2.2⟩⟩
theorem sx_q_s_goal_1 {γ : Nat → Int} {A : Nat → Nat → Int} {j : Nat} {y : Int} (hG : sx_G0 γ A) (f0 : 0 ≤ (-1) + (1 * (j : Int) + 0)) (c1 : sx_g1 (γ 18433) (sx_au A 136 j y 136)) : ∃ a ∈ sx_r_s_goal.2, ∃ w : Nat → Int, (∀ (i : Nat) p, a.1[i]? = some p → p.2.1 ≤ w i ∧ w i ≤ p.2.2) ∧ (∀ f ∈ a.2.1, 0 ≤ sx_d (sx_th γ (j : Int) y w) f) ∧ (∀ e, a.2.2.2.head? = some e → sx_d (sx_th γ (j : Int) y w) e = y) ∧ sx_G0 (sx_gu γ (sx_th γ (j : Int) y w) a.2.2.1) (if true = true then sx_au A 136 j y else A) := ⟨([], [((-1), [(19000, 1)])], [], []), List.Mem.tail _ (List.Mem.head _), (fun _ => 0), fun i p hi => (by
    match i, hi with
    | n + 0, hi => simp at hi), fun f hf => (by
    simp only [List.mem_cons, List.not_mem_nil, or_false] at hf
    rcases hf with rfl
    · exact f0
    ), fun e he => (by cases he), ⟨hG.1, c1, hG.2.2.1, hG.2.2.2.1, hG.2.2.2.2.1, hG.2.2.2.2.2.1, hG.2.2.2.2.2.2.1, hG.2.2.2.2.2.2.2.1, hG.2.2.2.2.2.2.2.2.1, hG.2.2.2.2.2.2.2.2.2.1, hG.2.2.2.2.2.2.2.2.2.2.1, hG.2.2.2.2.2.2.2.2.2.2.2.1, hG.2.2.2.2.2.2.2.2.2.2.2.2.1, hG.2.2.2.2.2.2.2.2.2.2.2.2.2.1, hG.2.2.2.2.2.2.2.2.2.2.2.2.2.2.1, hG.2.2.2.2.2.2.2.2.2.2.2.2.2.2.2.1, hG.2.2.2.2.2.2.2.2.2.2.2.2.2.2.2.2.1, hG.2.2.2.2.2.2.2.2.2.2.2.2.2.2.2.2.2.1, hG.2.2.2.2.2.2.2.2.2.2.2.2.2.2.2.2.2.2.1, hG.2.2.2.2.2.2.2.2.2.2.2.2.2.2.2.2.2.2.2.1, hG.2.2.2.2.2.2.2.2.2.2.2.2.2.2.2.2.2.2.2.2.1, hG.2.2.2.2.2.2.2.2.2.2.2.2.2.2.2.2.2.2.2.2.2.1, hG.2.2.2.2.2.2.2.2.2.2.2.2.2.2.2.2.2.2.2.2.2.2.1, hG.2.2.2.2.2.2.2.2.2.2.2.2.2.2.2.2.2.2.2.2.2.2.2.1, hG.2.2.2.2.2.2.2.2.2.2.2.2.2.2.2.2.2.2.2.2.2.2.2.2⟩⟩
theorem sx_q_s_week0_0 {γ : Nat → Int} {A : Nat → Nat → Int} {j : Nat} {y : Int} (hG : sx_G0 γ A) (c2 : sx_g2 (0 + (1 * y + 0)) (γ 18435) (γ 18436) (γ 18437) (γ 18438) (sx_au A 140 j y 140)) : ∃ a ∈ sx_r_s_week0.2, ∃ w : Nat → Int, (∀ (i : Nat) p, a.1[i]? = some p → p.2.1 ≤ w i ∧ w i ≤ p.2.2) ∧ (∀ f ∈ a.2.1, 0 ≤ sx_d (sx_th γ (j : Int) y w) f) ∧ (∀ e, a.2.2.2.head? = some e → sx_d (sx_th γ (j : Int) y w) e = y) ∧ sx_G0 (sx_gu γ (sx_th γ (j : Int) y w) a.2.2.1) (if true = true then sx_au A 140 j y else A) := ⟨([], [], [(18434, (0, [(19001, 1)]))], []), List.Mem.head _, (fun _ => 0), fun i p hi => (by
    match i, hi with
    | n + 0, hi => simp at hi), fun f hf => (by cases hf), fun e he => (by cases he), ⟨hG.1, hG.2.1, c2, hG.2.2.2.1, hG.2.2.2.2.1, hG.2.2.2.2.2.1, hG.2.2.2.2.2.2.1, hG.2.2.2.2.2.2.2.1, hG.2.2.2.2.2.2.2.2.1, hG.2.2.2.2.2.2.2.2.2.1, hG.2.2.2.2.2.2.2.2.2.2.1, hG.2.2.2.2.2.2.2.2.2.2.2.1, hG.2.2.2.2.2.2.2.2.2.2.2.2.1, hG.2.2.2.2.2.2.2.2.2.2.2.2.2.1, hG.2.2.2.2.2.2.2.2.2.2.2.2.2.2.1, hG.2.2.2.2.2.2.2.2.2.2.2.2.2.2.2.1, hG.2.2.2.2.2.2.2.2.2.2.2.2.2.2.2.2.1, hG.2.2.2.2.2.2.2.2.2.2.2.2.2.2.2.2.2.1, hG.2.2.2.2.2.2.2.2.2.2.2.2.2.2.2.2.2.2.1, hG.2.2.2.2.2.2.2.2.2.2.2.2.2.2.2.2.2.2.2.1, hG.2.2.2.2.2.2.2.2.2.2.2.2.2.2.2.2.2.2.2.2.1, hG.2.2.2.2.2.2.2.2.2.2.2.2.2.2.2.2.2.2.2.2.2.1, hG.2.2.2.2.2.2.2.2.2.2.2.2.2.2.2.2.2.2.2.2.2.2.1, hG.2.2.2.2.2.2.2.2.2.2.2.2.2.2.2.2.2.2.2.2.2.2.2.1, hG.2.2.2.2.2.2.2.2.2.2.2.2.2.2.2.2.2.2.2.2.2.2.2.2⟩⟩
theorem sx_q_s_week1_0 {γ : Nat → Int} {A : Nat → Nat → Int} {j : Nat} {y : Int} (hG : sx_G0 γ A) (c2 : sx_g2 (γ 18434) (0 + (1 * y + 0)) (γ 18436) (γ 18437) (γ 18438) (sx_au A 140 j y 140)) : ∃ a ∈ sx_r_s_week1.2, ∃ w : Nat → Int, (∀ (i : Nat) p, a.1[i]? = some p → p.2.1 ≤ w i ∧ w i ≤ p.2.2) ∧ (∀ f ∈ a.2.1, 0 ≤ sx_d (sx_th γ (j : Int) y w) f) ∧ (∀ e, a.2.2.2.head? = some e → sx_d (sx_th γ (j : Int) y w) e = y) ∧ sx_G0 (sx_gu γ (sx_th γ (j : Int) y w) a.2.2.1) (if true = true then sx_au A 140 j y else A) := ⟨([], [], [(18435, (0, [(19001, 1)]))], []), List.Mem.head _, (fun _ => 0), fun i p hi => (by
    match i, hi with
    | n + 0, hi => simp at hi), fun f hf => (by cases hf), fun e he => (by cases he), ⟨hG.1, hG.2.1, c2, hG.2.2.2.1, hG.2.2.2.2.1, hG.2.2.2.2.2.1, hG.2.2.2.2.2.2.1, hG.2.2.2.2.2.2.2.1, hG.2.2.2.2.2.2.2.2.1, hG.2.2.2.2.2.2.2.2.2.1, hG.2.2.2.2.2.2.2.2.2.2.1, hG.2.2.2.2.2.2.2.2.2.2.2.1, hG.2.2.2.2.2.2.2.2.2.2.2.2.1, hG.2.2.2.2.2.2.2.2.2.2.2.2.2.1, hG.2.2.2.2.2.2.2.2.2.2.2.2.2.2.1, hG.2.2.2.2.2.2.2.2.2.2.2.2.2.2.2.1, hG.2.2.2.2.2.2.2.2.2.2.2.2.2.2.2.2.1, hG.2.2.2.2.2.2.2.2.2.2.2.2.2.2.2.2.2.1, hG.2.2.2.2.2.2.2.2.2.2.2.2.2.2.2.2.2.2.1, hG.2.2.2.2.2.2.2.2.2.2.2.2.2.2.2.2.2.2.2.1, hG.2.2.2.2.2.2.2.2.2.2.2.2.2.2.2.2.2.2.2.2.1, hG.2.2.2.2.2.2.2.2.2.2.2.2.2.2.2.2.2.2.2.2.2.1, hG.2.2.2.2.2.2.2.2.2.2.2.2.2.2.2.2.2.2.2.2.2.2.1, hG.2.2.2.2.2.2.2.2.2.2.2.2.2.2.2.2.2.2.2.2.2.2.2.1, hG.2.2.2.2.2.2.2.2.2.2.2.2.2.2.2.2.2.2.2.2.2.2.2.2⟩⟩
theorem sx_q_s_week2_0 {γ : Nat → Int} {A : Nat → Nat → Int} {j : Nat} {y : Int} (hG : sx_G0 γ A) (c2 : sx_g2 (γ 18434) (γ 18435) (0 + (1 * y + 0)) (γ 18437) (γ 18438) (sx_au A 140 j y 140)) : ∃ a ∈ sx_r_s_week2.2, ∃ w : Nat → Int, (∀ (i : Nat) p, a.1[i]? = some p → p.2.1 ≤ w i ∧ w i ≤ p.2.2) ∧ (∀ f ∈ a.2.1, 0 ≤ sx_d (sx_th γ (j : Int) y w) f) ∧ (∀ e, a.2.2.2.head? = some e → sx_d (sx_th γ (j : Int) y w) e = y) ∧ sx_G0 (sx_gu γ (sx_th γ (j : Int) y w) a.2.2.1) (if true = true then sx_au A 140 j y else A) := ⟨([], [], [(18436, (0, [(19001, 1)]))], []), List.Mem.head _, (fun _ => 0), fun i p hi => (by
    match i, hi with
    | n + 0, hi => simp at hi), fun f hf => (by cases hf), fun e he => (by cases he), ⟨hG.1, hG.2.1, c2, hG.2.2.2.1, hG.2.2.2.2.1, hG.2.2.2.2.2.1, hG.2.2.2.2.2.2.1, hG.2.2.2.2.2.2.2.1, hG.2.2.2.2.2.2.2.2.1, hG.2.2.2.2.2.2.2.2.2.1, hG.2.2.2.2.2.2.2.2.2.2.1, hG.2.2.2.2.2.2.2.2.2.2.2.1, hG.2.2.2.2.2.2.2.2.2.2.2.2.1, hG.2.2.2.2.2.2.2.2.2.2.2.2.2.1, hG.2.2.2.2.2.2.2.2.2.2.2.2.2.2.1, hG.2.2.2.2.2.2.2.2.2.2.2.2.2.2.2.1, hG.2.2.2.2.2.2.2.2.2.2.2.2.2.2.2.2.1, hG.2.2.2.2.2.2.2.2.2.2.2.2.2.2.2.2.2.1, hG.2.2.2.2.2.2.2.2.2.2.2.2.2.2.2.2.2.2.1, hG.2.2.2.2.2.2.2.2.2.2.2.2.2.2.2.2.2.2.2.1, hG.2.2.2.2.2.2.2.2.2.2.2.2.2.2.2.2.2.2.2.2.1, hG.2.2.2.2.2.2.2.2.2.2.2.2.2.2.2.2.2.2.2.2.2.1, hG.2.2.2.2.2.2.2.2.2.2.2.2.2.2.2.2.2.2.2.2.2.2.1, hG.2.2.2.2.2.2.2.2.2.2.2.2.2.2.2.2.2.2.2.2.2.2.2.1, hG.2.2.2.2.2.2.2.2.2.2.2.2.2.2.2.2.2.2.2.2.2.2.2.2⟩⟩
theorem sx_q_s_week3_0 {γ : Nat → Int} {A : Nat → Nat → Int} {j : Nat} {y : Int} (hG : sx_G0 γ A) (c2 : sx_g2 (γ 18434) (γ 18435) (γ 18436) (0 + (1 * y + 0)) (γ 18438) (sx_au A 140 j y 140)) : ∃ a ∈ sx_r_s_week3.2, ∃ w : Nat → Int, (∀ (i : Nat) p, a.1[i]? = some p → p.2.1 ≤ w i ∧ w i ≤ p.2.2) ∧ (∀ f ∈ a.2.1, 0 ≤ sx_d (sx_th γ (j : Int) y w) f) ∧ (∀ e, a.2.2.2.head? = some e → sx_d (sx_th γ (j : Int) y w) e = y) ∧ sx_G0 (sx_gu γ (sx_th γ (j : Int) y w) a.2.2.1) (if true = true then sx_au A 140 j y else A) := ⟨([], [], [(18437, (0, [(19001, 1)]))], []), List.Mem.head _, (fun _ => 0), fun i p hi => (by
    match i, hi with
    | n + 0, hi => simp at hi), fun f hf => (by cases hf), fun e he => (by cases he), ⟨hG.1, hG.2.1, c2, hG.2.2.2.1, hG.2.2.2.2.1, hG.2.2.2.2.2.1, hG.2.2.2.2.2.2.1, hG.2.2.2.2.2.2.2.1, hG.2.2.2.2.2.2.2.2.1, hG.2.2.2.2.2.2.2.2.2.1, hG.2.2.2.2.2.2.2.2.2.2.1, hG.2.2.2.2.2.2.2.2.2.2.2.1, hG.2.2.2.2.2.2.2.2.2.2.2.2.1, hG.2.2.2.2.2.2.2.2.2.2.2.2.2.1, hG.2.2.2.2.2.2.2.2.2.2.2.2.2.2.1, hG.2.2.2.2.2.2.2.2.2.2.2.2.2.2.2.1, hG.2.2.2.2.2.2.2.2.2.2.2.2.2.2.2.2.1, hG.2.2.2.2.2.2.2.2.2.2.2.2.2.2.2.2.2.1, hG.2.2.2.2.2.2.2.2.2.2.2.2.2.2.2.2.2.2.1, hG.2.2.2.2.2.2.2.2.2.2.2.2.2.2.2.2.2.2.2.1, hG.2.2.2.2.2.2.2.2.2.2.2.2.2.2.2.2.2.2.2.2.1, hG.2.2.2.2.2.2.2.2.2.2.2.2.2.2.2.2.2.2.2.2.2.1, hG.2.2.2.2.2.2.2.2.2.2.2.2.2.2.2.2.2.2.2.2.2.2.1, hG.2.2.2.2.2.2.2.2.2.2.2.2.2.2.2.2.2.2.2.2.2.2.2.1, hG.2.2.2.2.2.2.2.2.2.2.2.2.2.2.2.2.2.2.2.2.2.2.2.2⟩⟩
theorem sx_q_s_week4_0 {γ : Nat → Int} {A : Nat → Nat → Int} {j : Nat} {y : Int} (hG : sx_G0 γ A) (c2 : sx_g2 (γ 18434) (γ 18435) (γ 18436) (γ 18437) (0 + (1 * y + 0)) (sx_au A 140 j y 140)) : ∃ a ∈ sx_r_s_week4.2, ∃ w : Nat → Int, (∀ (i : Nat) p, a.1[i]? = some p → p.2.1 ≤ w i ∧ w i ≤ p.2.2) ∧ (∀ f ∈ a.2.1, 0 ≤ sx_d (sx_th γ (j : Int) y w) f) ∧ (∀ e, a.2.2.2.head? = some e → sx_d (sx_th γ (j : Int) y w) e = y) ∧ sx_G0 (sx_gu γ (sx_th γ (j : Int) y w) a.2.2.1) (if true = true then sx_au A 140 j y else A) := ⟨([], [], [(18438, (0, [(19001, 1)]))], []), List.Mem.head _, (fun _ => 0), fun i p hi => (by
    match i, hi with
    | n + 0, hi => simp at hi), fun f hf => (by cases hf), fun e he => (by cases he), ⟨hG.1, hG.2.1, c2, hG.2.2.2.1, hG.2.2.2.2.1, hG.2.2.2.2.2.1, hG.2.2.2.2.2.2.1, hG.2.2.2.2.2.2.2.1, hG.2.2.2.2.2.2.2.2.1, hG.2.2.2.2.2.2.2.2.2.1, hG.2.2.2.2.2.2.2.2.2.2.1, hG.2.2.2.2.2.2.2.2.2.2.2.1, hG.2.2.2.2.2.2.2.2.2.2.2.2.1, hG.2.2.2.2.2.2.2.2.2.2.2.2.2.1, hG.2.2.2.2.2.2.2.2.2.2.2.2.2.2.1, hG.2.2.2.2.2.2.2.2.2.2.2.2.2.2.2.1, hG.2.2.2.2.2.2.2.2.2.2.2.2.2.2.2.2.1, hG.2.2.2.2.2.2.2.2.2.2.2.2.2.2.2.2.2.1, hG.2.2.2.2.2.2.2.2.2.2.2.2.2.2.2.2.2.2.1, hG.2.2.2.2.2.2.2.2.2.2.2.2.2.2.2.2.2.2.2.1, hG.2.2.2.2.2.2.2.2.2.2.2.2.2.2.2.2.2.2.2.2.1, hG.2.2.2.2.2.2.2.2.2.2.2.2.2.2.2.2.2.2.2.2.2.1, hG.2.2.2.2.2.2.2.2.2.2.2.2.2.2.2.2.2.2.2.2.2.2.1, hG.2.2.2.2.2.2.2.2.2.2.2.2.2.2.2.2.2.2.2.2.2.2.2.1, hG.2.2.2.2.2.2.2.2.2.2.2.2.2.2.2.2.2.2.2.2.2.2.2.2⟩⟩
theorem sx_q_s_week_0 {γ : Nat → Int} {A : Nat → Nat → Int} {j : Nat} {y : Int} (hG : sx_G0 γ A) (f0 : 0 ≤ 0 + (1 * (j : Int) + 0)) (f1 : 0 ≤ 0 + ((-1) * (j : Int) + 0)) (c2 : sx_g2 (0 + (1 * y + 0)) (γ 18435) (γ 18436) (γ 18437) (γ 18438) (sx_au A 140 j y 140)) : ∃ a ∈ sx_r_s_week.2, ∃ w : Nat → Int, (∀ (i : Nat) p, a.1[i]? = some p → p.2.1 ≤ w i ∧ w i ≤ p.2.2) ∧ (∀ f ∈ a.2.1, 0 ≤ sx_d (sx_th γ (j : Int) y w) f) ∧ (∀ e, a.2.2.2.head? = some e → sx_d (sx_th γ (j : Int) y w) e = y) ∧ sx_G0 (sx_gu γ (sx_th γ (j : Int) y w) a.2.2.1) (if true = true then sx_au A 140 j y else A) := ⟨([], [(0, [(19000, 1)]), (0, [(19000, (-1))])], [(18434, (0, [(19001, 1)]))], []), List.Mem.head _, (fun _ => 0), fun i p hi => (by
    match i, hi with
    | n + 0, hi => simp at hi), fun f hf => (by
    simp only [List.mem_cons, List.not_mem_nil, or_false] at hf
    rcases hf with rfl | rfl
    · exact f0
    · exact f1
    ), fun e he => (by cases he), ⟨hG.1, hG.2.1, c2, hG.2.2.2.1, hG.2.2.2.2.1, hG.2.2.2.2.2.1, hG.2.2.2.2.2.2.1, hG.2.2.2.2.2.2.2.1, hG.2.2.2.2.2.2.2.2.1, hG.2.2.2.2.2.2.2.2.2.1, hG.2.2.2.2.2.2.2.2.2.2.1, hG.2.2.2.2.2.2.2.2.2.2.2.1, hG.2.2.2.2.2.2.2.2.2.2.2.2.1, hG.2.2.2.2.2.2.2.2.2.2.2.2.2.1, hG.2.2.2.2.2.2.2.2.2.2.2.2.2.2.1, hG.2.2.2.2.2.2.2.2.2.2.2.2.2.2.2.1, hG.2.2.2.2.2.2.2.2.2.2.2.2.2.2.2.2.1, hG.2.2.2.2.2.2.2.2.2.2.2.2.2.2.2.2.2.1, hG.2.2.2.2.2.2.2.2.2.2.2.2.2.2.2.2.2.2.1, hG.2.2.2.2.2.2.2.2.2.2.2.2.2.2.2.2.2.2.2.1, hG.2.2.2.2.2.2.2.2.2.2.2.2.2.2.2.2.2.2.2.2.1, hG.2.2.2.2.2.2.2.2.2.2.2.2.2.2.2.2.2.2.2.2.2.1, hG.2.2.2.2.2.2.2.2.2.2.2.2.2.2.2.2.2.2.2.2.2.2.1, hG.2.2.2.2.2.2.2.2.2.2.2.2.2.2.2.2.2.2.2.2.2.2.2.1, hG.2.2.2.2.2.2.2.2.2.2.2.2.2.2.2.2.2.2.2.2.2.2.2.2⟩⟩
theorem sx_q_s_week_1 {γ : Nat → Int} {A : Nat → Nat → Int} {j : Nat} {y : Int} (hG : sx_G0 γ A) (f0 : 0 ≤ (-1) + (1 * (j : Int) + 0)) (f1 : 0 ≤ 1 + ((-1) * (j : Int) + 0)) (c2 : sx_g2 (γ 18434) (0 + (1 * y + 0)) (γ 18436) (γ 18437) (γ 18438) (sx_au A 140 j y 140)) : ∃ a ∈ sx_r_s_week.2, ∃ w : Nat → Int, (∀ (i : Nat) p, a.1[i]? = some p → p.2.1 ≤ w i ∧ w i ≤ p.2.2) ∧ (∀ f ∈ a.2.1, 0 ≤ sx_d (sx_th γ (j : Int) y w) f) ∧ (∀ e, a.2.2.2.head? = some e → sx_d (sx_th γ (j : Int) y w) e = y) ∧ sx_G0 (sx_gu γ (sx_th γ (j : Int) y w) a.2.2.1) (if true = true then sx_au A 140 j y else A) := ⟨([], [((-1), [(19000, 1)]), (1, [(19000, (-1))])], [(18435, (0, [(19001, 1)]))], []), List.Mem.tail _ (List.Mem.head _), (fun _ => 0), fun i p hi => (by
    match i, hi with
    | n + 0, hi => simp at hi), fun f hf => (by
    simp only [List.mem_cons, List.not_mem_nil, or_false] at hf
    rcases hf with rfl | rfl
    · exact f0
    · exact f1
    ), fun e he => (by cases he), ⟨hG.1, hG.2.1, c2, hG.2.2.2.1, hG.2.2.2.2.1, hG.2.2.2.2.2.1, hG.2.2.2.2.2.2.1, hG.2.2.2.2.2.2.2.1, hG.2.2.2.2.2.2.2.2.1, hG.2.2.2.2.2.2.2.2.2.1, hG.2.2.2.2.2.2.2.2.2.2.1, hG.2.2.2.2.2.2.2.2.2.2.2.1, hG.2.2.2.2.2.2.2.2.2.2.2.2.1, hG.2.2.2.2.2.2.2.2.2.2.2.2.2.1, hG.2.2.2.2.2.2.2.2.2.2.2.2.2.2.1, hG.2.2.2.2.2.2.2.2.2.2.2.2.2.2.2.1, hG.2.2.2.2.2.2.2.2.2.2.2.2.2.2.2.2.1, hG.2.2.2.2.2.2.2.2.2.2.2.2.2.2.2.2.2.1, hG.2.2.2.2.2.2.2.2.2.2.2.2.2.2.2.2.2.2.1, hG.2.2.2.2.2.2.2.2.2.2.2.2.2.2.2.2.2.2.2.1, hG.2.2.2.2.2.2.2.2.2.2.2.2.2.2.2.2.2.2.2.2.1, hG.2.2.2.2.2.2.2.2.2.2.2.2.2.2.2.2.2.2.2.2.2.1, hG.2.2.2.2.2.2.2.2.2.2.2.2.2.2.2.2.2.2.2.2.2.2.1, hG.2.2.2.2.2.2.2.2.2.2.2.2.2.2.2.2.2.2.2.2.2.2.2.1, hG.2.2.2.2.2.2.2.2.2.2.2.2.2.2.2.2.2.2.2.2.2.2.2.2⟩⟩
theorem sx_q_s_week_2 {γ : Nat → Int} {A : Nat → Nat → Int} {j : Nat} {y : Int} (hG : sx_G0 γ A) (f0 : 0 ≤ (-2) + (1 * (j : Int) + 0)) (f1 : 0 ≤ 2 + ((-1) * (j : Int) + 0)) (c2 : sx_g2 (γ 18434) (γ 18435) (0 + (1 * y + 0)) (γ 18437) (γ 18438) (sx_au A 140 j y 140)) : ∃ a ∈ sx_r_s_week.2, ∃ w : Nat → Int, (∀ (i : Nat) p, a.1[i]? = some p → p.2.1 ≤ w i ∧ w i ≤ p.2.2) ∧ (∀ f ∈ a.2.1, 0 ≤ sx_d (sx_th γ (j : Int) y w) f) ∧ (∀ e, a.2.2.2.head? = some e → sx_d (sx_th γ (j : Int) y w) e = y) ∧ sx_G0 (sx_gu γ (sx_th γ (j : Int) y w) a.2.2.1) (if true = true then sx_au A 140 j y else A) := ⟨([], [((-2), [(19000, 1)]), (2, [(19000, (-1))])], [(18436, (0, [(19001, 1)]))], []), List.Mem.tail _ (List.Mem.tail _ (List.Mem.head _)), (fun _ => 0), fun i p hi => (by
    match i, hi with
    | n + 0, hi => simp at hi), fun f hf => (by
    simp only [List.mem_cons, List.not_mem_nil, or_false] at hf
    rcases hf with rfl | rfl
    · exact f0
    · exact f1
    ), fun e he => (by cases he), ⟨hG.1, hG.2.1, c2, hG.2.2.2.1, hG.2.2.2.2.1, hG.2.2.2.2.2.1, hG.2.2.2.2.2.2.1, hG.2.2.2.2.2.2.2.1, hG.2.2.2.2.2.2.2.2.1, hG.2.2.2.2.2.2.2.2.2.1, hG.2.2.2.2.2.2.2.2.2.2.1, hG.2.2.2.2.2.2.2.2.2.2.2.1, hG.2.2.2.2.2.2.2.2.2.2.2.2.1, hG.2.2.2.2.2.2.2.2.2.2.2.2.2.1, hG.2.2.2.2.2.2.2.2.2.2.2.2.2.2.1, hG.2.2.2.2.2.2.2.2.2.2.2.2.2.2.2.1, hG.2.2.2.2.2.2.2.2.2.2.2.2.2.2.2.2.1, hG.2.2.2.2.2.2.2.2.2.2.2.2.2.2.2.2.2.1, hG.2.2.2.2.2.2.2.2.2.2.2.2.2.2.2.2.2.2.1, hG.2.2.2.2.2.2.2.2.2.2.2.2.2.2.2.2.2.2.2.1, hG.2.2.2.2.2.2.2.2.2.2.2.2.2.2.2.2.2.2.2.2.1, hG.2.2.2.2.2.2.2.2.2.2.2.2.2.2.2.2.2.2.2.2.2.1, hG.2.2.2.2.2.2.2.2.2.2.2.2.2.2.2.2.2.2.2.2.2.2.1, hG.2.2.2.2.2.2.2.2.2.2.2.2.2.2.2.2.2.2.2.2.2.2.2.1, hG.2.2.2.2.2.2.2.2.2.2.2.2.2.2.2.2.2.2.2.2.2.2.2.2⟩⟩
theorem sx_q_s_week_3 {γ : Nat → Int} {A : Nat → Nat → Int} {j : Nat} {y : Int} (hG : sx_G0 γ A) (f0 : 0 ≤ (-3) + (1 * (j : Int) + 0)) (f1 : 0 ≤ 3 + ((-1) * (j : Int) + 0)) (c2 : sx_g2 (γ 18434) (γ 18435) (γ 18436) (0 + (1 * y + 0)) (γ 18438) (sx_au A 140 j y 140)) : ∃ a ∈ sx_r_s_week.2, ∃ w : Nat → Int, (∀ (i : Nat) p, a.1[i]? = some p → p.2.1 ≤ w i ∧ w i ≤ p.2.2) ∧ (∀ f ∈ a.2.1, 0 ≤ sx_d (sx_th γ (j : Int) y w) f) ∧ (∀ e, a.2.2.2.head? = some e → sx_d (sx_th γ (j : Int) y w) e = y) ∧ sx_G0 (sx_gu γ (sx_th γ (j : Int) y w) a.2.2.1) (if true = true then sx_au A 140 j y else A) := ⟨([], [((-3), [(19000, 1)]), (3, [(19000, (-1))])], [(18437, (0, [(19001, 1)]))], []), List.Mem.tail _ (List.Mem.tail _ (List.Mem.tail _ (List.Mem.head _))), (fun _ => 0), fun i p hi => (by
    match i, hi with
    | n + 0, hi => simp at hi), fun f hf => (by
    simp only [List.mem_cons, List.not_mem_nil, or_false] at hf
    rcases hf with rfl | rfl
    · exact f0
    · exact f1
    ), fun e he => (by cases he), ⟨hG.1, hG.2.1, c2, hG.2.2.2.1, hG.2.2.2.2.1, hG.2.2.2.2.2.1, hG.2.2.2.2.2.2.1, hG.2.2.2.2.2.2.2.1, hG.2.2.2.2.2.2.2.2.1, hG.2.2.2.2.2.2.2.2.2.1, hG.2.2.2.2.2.2.2.2.2.2.1, hG.2.2.2.2.2.2.2.2.2.2.2.1, hG.2.2.2.2.2.2.2.2.2.2.2.2.1, hG.2.2.2.2.2.2.2.2.2.2.2.2.2.1, hG.2.2.2.2.2.2.2.2.2.2.2.2.2.2.1, hG.2.2.2.2.2.2.2.2.2.2.2.2.2.2.2.1, hG.2.2.2.2.2.2.2.2.2.2.2.2.2.2.2.2.1, hG.2.2.2.2.2.2.2.2.2.2.2.2.2.2.2.2.2.1, hG.2.2.2.2.2.2.2.2.2.2.2.2.2.2.2.2.2.2.1, hG.2.2.2.2.2.2.2.2.2.2.2.2.2.2.2.2.2.2.2.1, hG.2.2.2.2.2.2.2.2.2.2.2.2.2.2.2.2.2.2.2.2.1, hG.2.2.2.2.2.2.2.2.2.2.2.2.2.2.2.2.2.2.2.2.2.1, hG.2.2.2.2.2.2.2.2.2.2.2.2.2.2.2.2.2.2.2.2.2.2.1, hG.2.2.2.2.2.2.2.2.2.2.2.2.2.2.2.2.2.2.2.2.2.2.2.1, hG.2.2.2.2.2.2.2.2.2.2.2.2.2.2.2.2.2.2.2.2.2.2.2.2⟩⟩
theorem sx_q_s_week_4 {γ : Nat → Int} {A : Nat → Nat → Int} {j : Nat} {y : Int} (hG : sx_G0 γ A) (f0 : 0 ≤ (-4) + (1 * (j : Int) + 0)) (f1 : 0 ≤ 4 + ((-1) * (j : Int) + 0)) (c2 : sx_g2 (γ 18434) (γ 18435) (γ 18436) (γ 18437) (0 + (1 * y + 0)) (sx_au A 140 j y 140)) : ∃ a ∈ sx_r_s_week.2, ∃ w : Nat → Int, (∀ (i : Nat) p, a.1[i]? = some p → p.2.1 ≤ w i ∧ w i ≤ p.2.2) ∧ (∀ f ∈ a.2.1, 0 ≤ sx_d (sx_th γ (j : Int) y w) f) ∧ (∀ e, a.2.2.2.head? = some e → sx_d (sx_th γ (j : Int) y w) e = y) ∧ sx_G0 (sx_gu γ (sx_th γ (j : Int) y w) a.2.2.1) (if true = true then sx_au A 140 j y else A) := ⟨([], [((-4), [(19000, 1)]), (4, [(19000, (-1))])], [(18438, (0, [(19001, 1)]))], []), List.Mem.tail _ (List.Mem.tail _ (List.Mem.tail _ (List.Mem.tail _ (List.Mem.head _)))), (fun _ => 0), fun i p hi => (by
    match i, hi with
    | n + 0, hi => simp at hi), fun f hf => (by
    simp only [List.mem_cons, List.not_mem_nil, or_false] at hf
    rcases hf with rfl | rfl
    · exact f0
    · exact f1
    ), fun e he => (by cases he), ⟨hG.1, hG.2.1, c2, hG.2.2.2.1, hG.2.2.2.2.1, hG.2.2.2.2.2.1, hG.2.2.2.2.2.2.1, hG.2.2.2.2.2.2.2.1, hG.2.2.2.2.2.2.2.2.1, hG.2.2.2.2.2.2.2.2.2.1, hG.2.2.2.2.2.2.2.2.2.2.1, hG.2.2.2.2.2.2.2.2.2.2.2.1, hG.2.2.2.2.2.2.2.2.2.2.2.2.1, hG.2.2.2.2.2.2.2.2.2.2.2.2.2.1, hG.2.2.2.2.2.2.2.2.2.2.2.2.2.2.1, hG.2.2.2.2.2.2.2.2.2.2.2.2.2.2.2.1, hG.2.2.2.2.2.2.2.2.2.2.2.2.2.2.2.2.1, hG.2.2.2.2.2.2.2.2.2.2.2.2.2.2.2.2.2.1, hG.2.2.2.2.2.2.2.2.2.2.2.2.2.2.2.2.2.2.1, hG.2.2.2.2.2.2.2.2.2.2.2.2.2.2.2.2.2.2.2.1, hG.2.2.2.2.2.2.2.2.2.2.2.2.2.2.2.2.2.2.2.2.1, hG.2.2.2.2.2.2.2.2.2.2.2.2.2.2.2.2.2.2.2.2.2.1, hG.2.2.2.2.2.2.2.2.2.2.2.2.2.2.2.2.2.2.2.2.2.2.1, hG.2.2.2.2.2.2.2.2.2.2.2.2.2.2.2.2.2.2.2.2.2.2.2.1, hG.2.2.2.2.2.2.2.2.2.2.2.2.2.2.2.2.2.2.2.2.2.2.2.2⟩⟩
theorem sx_q_m_room_0 {γ : Nat → Int} {A : Nat → Nat → Int} {x : Int} (hG : sx_G0 γ A) (c7 : sx_g6 (γ 18455) (γ 18456) (8 + 0) (0 + 0) ((-1) + 0) (0 + 0) (A 131)) : ∃ a ∈ sx_r_m_room.2, ∃ w : Nat → Int, (∀ (i : Nat) p, a.1[i]? = some p → p.2.1 ≤ w i ∧ w i ≤ p.2.2) ∧ (∀ f ∈ a.2.1, 0 ≤ sx_d (sx_th γ x 0 w) f) ∧ sx_G0 (sx_gu γ (sx_th γ x 0 w) a.2.2.1) A := ⟨([], [], [(18459, ((-1), [])), (18460, (0, [])), (18457, (8, [])), (18458, (0, []))], []), List.Mem.head _, (fun _ => 0), fun i p hi => (by
    match i, hi with
    | n + 0, hi => simp at hi), fun f hf => (by cases hf), ⟨hG.1, hG.2.1, hG.2.2.1, hG.2.2.2.1, hG.2.2.2.2.1, hG.2.2.2.2.2.1, hG.2.2.2.2.2.2.1, c7, hG.2.2.2.2.2.2.2.2.1, hG.2.2.2.2.2.2.2.2.2.1, hG.2.2.2.2.2.2.2.2.2.2.1, hG.2.2.2.2.2.2.2.2.2.2.2.1, hG.2.2.2.2.2.2.2.2.2.2.2.2.1, hG.2.2.2.2.2.2.2.2.2.2.2.2.2.1, hG.2.2.2.2.2.2.2.2.2.2.2.2.2.2.1, hG.2.2.2.2.2.2.2.2.2.2.2.2.2.2.2.1, hG.2.2.2.2.2.2.2.2.2.2.2.2.2.2.2.2.1, hG.2.2.2.2.2.2.2.2.2.2.2.2.2.2.2.2.2.1, hG.2.2.2.2.2.2.2.2.2.2.2.2.2.2.2.2.2.2.1, hG.2.2.2.2.2.2.2.2.2.2.2.2.2.2.2.2.2.2.2.1, hG.2.2.2.2.2.2.2.2.2.2.2.2.2.2.2.2.2.2.2.2.1, hG.2.2.2.2.2.2.2.2.2.2.2.2.2.2.2.2.2.2.2.2.2.1, hG.2.2.2.2.2.2.2.2.2.2.2.2.2.2.2.2.2.2.2.2.2.2.1, hG.2.2.2.2.2.2.2.2.2.2.2.2.2.2.2.2.2.2.2.2.2.2.2.1, hG.2.2.2.2.2.2.2.2.2.2.2.2.2.2.2.2.2.2.2.2.2.2.2.2⟩⟩
theorem sx_q_m_text_0 {γ : Nat → Int} {A : Nat → Nat → Int} {x : Int} (hG : sx_G0 γ A) (c13 : sx_x3 (2560 + 0) (2560 + 0) (0 + 0) (0 + 0) (2560 + 0) (1280 + 0) (0 + 0) (2560 + 0) (2560 + 0) (1280 + 0) (96 + 0) (A 117) (A 119) (A 120) (A 121) (A 115) (A 116) (A 113) (A 114)) (c14 : sx_x4 (γ 18461) (2560 + 0) (1280 + 0) (0 + 0) (0 + 0) (0 + 0) (A 117) (A 119) (A 120) (A 121) (A 115) (A 116) (A 113) (A 114)) (c15 : sx_x5 (0 + 0) (0 + 0) (0 + 0) (A 117) (A 119) (A 120) (A 121) (A 115) (A 116) (A 113) (A 114)) : ∃ a ∈ sx_r_m_text.2, ∃ w : Nat → Int, (∀ (i : Nat) p, a.1[i]? = some p → p.2.1 ≤ w i ∧ w i ≤ p.2.2) ∧ (∀ f ∈ a.2.1, 0 ≤ sx_d (sx_th γ x 0 w) f) ∧ sx_G0 (sx_gu γ (sx_th γ x 0 w) a.2.2.1) A := ⟨([], [], [(18479, (1280, [])), (18484, (96, [])), (18474, (2560, [])), (18475, (2560, [])), (18476, (0, [])), (18477, (0, [])), (18480, (0, [])), (18478, (2560, [])), (18481, (2560, [])), (18482, (2560, [])), (18483, (1280, [])), (18498, (0, [])), (18499, (0, [])), (18500, (0, [])), (18485, (2560, [])), (18486, (1280, [])), (18487, (0, [])), (18488, (0, [])), (18489, (0, []))], []), List.Mem.head _, (fun _ => 0), fun i p hi => (by
    match i, hi with
    | n + 0, hi => simp at hi), fun f hf => (by cases hf), ⟨hG.1, hG.2.1, hG.2.2.1, hG.2.2.2.1, hG.2.2.2.2.1, hG.2.2.2.2.2.1, hG.2.2.2.2.2.2.1, hG.2.2.2.2.2.2.2.1, hG.2.2.2.2.2.2.2.2.1, hG.2.2.2.2.2.2.2.2.2.1, hG.2.2.2.2.2.2.2.2.2.2.1, hG.2.2.2.2.2.2.2.2.2.2.2.1, hG.2.2.2.2.2.2.2.2.2.2.2.2.1, c13, c14, c15, hG.2.2.2.2.2.2.2.2.2.2.2.2.2.2.2.2.1, hG.2.2.2.2.2.2.2.2.2.2.2.2.2.2.2.2.2.1, hG.2.2.2.2.2.2.2.2.2.2.2.2.2.2.2.2.2.2.1, hG.2.2.2.2.2.2.2.2.2.2.2.2.2.2.2.2.2.2.2.1, hG.2.2.2.2.2.2.2.2.2.2.2.2.2.2.2.2.2.2.2.2.1, hG.2.2.2.2.2.2.2.2.2.2.2.2.2.2.2.2.2.2.2.2.2.1, hG.2.2.2.2.2.2.2.2.2.2.2.2.2.2.2.2.2.2.2.2.2.2.1, hG.2.2.2.2.2.2.2.2.2.2.2.2.2.2.2.2.2.2.2.2.2.2.2.1, hG.2.2.2.2.2.2.2.2.2.2.2.2.2.2.2.2.2.2.2.2.2.2.2.2⟩⟩
theorem sx_q_m_copy_0 {γ : Nat → Int} {A : Nat → Nat → Int} {x : Int} (hG : sx_G0 γ A) (c11 : sx_x1 (0 + (1 * x + 0)) (A 117) (A 119) (A 120) (A 121) (A 115) (A 116) (A 113) (A 114) (A 111)) (c12 : sx_x2 (0 + (1 * x + 0)) (0 + 0) (0 + 0) (0 + 0) ((-1) + 0) (0 + 0) (0 + 0) (0 + 0) ((-1) + 0) ((-1) + 0) ((-1) + 0) (0 + 0) (0 + 0) (A 117) (A 119) (A 120) (A 121) (A 116) (A 114) (A 111)) (c14 : sx_x4 (0 + (1 * x + 0)) (2560 + 0) (1280 + 0) (0 + 0) (0 + 0) (0 + 0) (A 117) (A 119) (A 120) (A 121) (A 115) (A 116) (A 113) (A 114)) (c15 : sx_x5 (0 + 0) (γ 18499) (γ 18500) (A 117) (A 119) (A 120) (A 121) (A 115) (A 116) (A 113) (A 114)) : ∃ a ∈ sx_r_m_copy.2, ∃ w : Nat → Int, (∀ (i : Nat) p, a.1[i]? = some p → p.2.1 ≤ w i ∧ w i ≤ p.2.2) ∧ (∀ f ∈ a.2.1, 0 ≤ sx_d (sx_th γ x 0 w) f) ∧ sx_G0 (sx_gu γ (sx_th γ x 0 w) a.2.2.1) A := ⟨([], [], [(18461, (0, [(19000, 1)])), (18485, (2560, [])), (18486, (1280, [])), (18487, (0, [])), (18488, (0, [])), (18489, (0, [])), (18462, (0, [])), (18463, (0, [])), (18464, (0, [])), (18465, ((-1), [])), (18466, (0, [])), (18467, (0, [])), (18468, (0, [])), (18469, ((-1), [])), (18470, ((-1), [])), (18471, ((-1), [])), (18472, (0, [])), (18473, (0, [])), (18498, (0, []))], []), List.Mem.head _, (fun _ => 0), fun i p hi => (by
    match i, hi with
    | n + 0, hi => simp at hi), fun f hf => (by cases hf), ⟨hG.1, hG.2.1, hG.2.2.1, hG.2.2.2.1, hG.2.2.2.2.1, hG.2.2.2.2.2.1, hG.2.2.2.2.2.2.1, hG.2.2.2.2.2.2.2.1, hG.2.2.2.2.2.2.2.2.1, hG.2.2.2.2.2.2.2.2.2.1, hG.2.2.2.2.2.2.2.2.2.2.1, c11, c12, hG.2.2.2.2.2.2.2.2.2.2.2.2.2.1, c14, c15, hG.2.2.2.2.2.2.2.2.2.2.2.2.2.2.2.2.1, hG.2.2.2.2.2.2.2.2.2.2.2.2.2.2.2.2.2.1, hG.2.2.2.2.2.2.2.2.2.2.2.2.2.2.2.2.2.2.1, hG.2.2.2.2.2.2.2.2.2.2.2.2.2.2.2.2.2.2.2.1, hG.2.2.2.2.2.2.2.2.2.2.2.2.2.2.2.2.2.2.2.2.1, hG.2.2.2.2.2.2.2.2.2.2.2.2.2.2.2.2.2.2.2.2.2.1, hG.2.2.2.2.2.2.2.2.2.2.2.2.2.2.2.2.2.2.2.2.2.2.1, hG.2.2.2.2.2.2.2.2.2.2.2.2.2.2.2.2.2.2.2.2.2.2.2.1, hG.2.2.2.2.2.2.2.2.2.2.2.2.2.2.2.2.2.2.2.2.2.2.2.2⟩⟩
theorem sx_q_m_keep_0 {γ : Nat → Int} {A : Nat → Nat → Int} {x : Int} (hG : sx_G0 γ A) (c10 : sx_g8 (0 + (1 * γ 18490 + 0)) (0 + (1 * γ 18491 + 0)) (0 + (1 * γ 18492 + 0))) : ∃ a ∈ sx_r_m_keep.2, ∃ w : Nat → Int, (∀ (i : Nat) p, a.1[i]? = some p → p.2.1 ≤ w i ∧ w i ≤ p.2.2) ∧ (∀ f ∈ a.2.1, 0 ≤ sx_d (sx_th γ x 0 w) f) ∧ sx_G0 (sx_gu γ (sx_th γ x 0 w) a.2.2.1) A := ⟨([], [], [(18493, (0, [(18490, 1)])), (18494, (0, [(18491, 1)])), (18495, (0, [(18492, 1)]))], []), List.Mem.head _, (fun _ => 0), fun i p hi => (by
    match i, hi with
    | n + 0, hi => simp at hi), fun f hf => (by cases hf), ⟨hG.1, hG.2.1, hG.2.2.1, hG.2.2.2.1, hG.2.2.2.2.1, hG.2.2.2.2.2.1, hG.2.2.2.2.2.2.1, hG.2.2.2.2.2.2.2.1, hG.2.2.2.2.2.2.2.2.1, hG.2.2.2.2.2.2.2.2.2.1, c10, hG.2.2.2.2.2.2.2.2.2.2.2.1, hG.2.2.2.2.2.2.2.2.2.2.2.2.1, hG.2.2.2.2.2.2.2.2.2.2.2.2.2.1, hG.2.2.2.2.2.2.2.2.2.2.2.2.2.2.1, hG.2.2.2.2.2.2.2.2.2.2.2.2.2.2.2.1, hG.2.2.2.2.2.2.2.2.2.2.2.2.2.2.2.2.1, hG.2.2.2.2.2.2.2.2.2.2.2.2.2.2.2.2.2.1, hG.2.2.2.2.2.2.2.2.2.2.2.2.2.2.2.2.2.2.1, hG.2.2.2.2.2.2.2.2.2.2.2.2.2.2.2.2.2.2.2.1, hG.2.2.2.2.2.2.2.2.2.2.2.2.2.2.2.2.2.2.2.2.1, hG.2.2.2.2.2.2.2.2.2.2.2.2.2.2.2.2.2.2.2.2.2.1, hG.2.2.2.2.2.2.2.2.2.2.2.2.2.2.2.2.2.2.2.2.2.2.1, hG.2.2.2.2.2.2.2.2.2.2.2.2.2.2.2.2.2.2.2.2.2.2.2.1, hG.2.2.2.2.2.2.2.2.2.2.2.2.2.2.2.2.2.2.2.2.2.2.2.2⟩⟩
theorem sx_q_m_fw_0 {γ : Nat → Int} {A : Nat → Nat → Int} {x : Int} (hG : sx_G0 γ A) (f0 : 0 ≤ 0 + ((-1) * γ 18514 + (1 * x + 0))) (f1 : 0 ≤ 0 + (1 * γ 18514 + ((-1) * x + 0))) (c21 : sx_gfn (0 + (1 * x + 0)) (γ 18515) (γ 18516) (A 2)) : ∃ a ∈ sx_r_m_fw.2, ∃ w : Nat → Int, (∀ (i : Nat) p, a.1[i]? = some p → p.2.1 ≤ w i ∧ w i ≤ p.2.2) ∧ (∀ f ∈ a.2.1, 0 ≤ sx_d (sx_th γ x 0 w) f) ∧ sx_G0 (sx_gu γ (sx_th γ x 0 w) a.2.2.1) A := ⟨([], [(0, [(18514, (-1)), (19000, 1)]), (0, [(18514, 1), (19000, (-1))])], [(18514, (0, [(19000, 1)]))], []), List.Mem.head _, (fun _ => 0), fun i p hi => (by
    match i, hi with
    | n + 0, hi => simp at hi), fun f hf => (by
    simp only [List.mem_cons, List.not_mem_nil, or_false] at hf
    rcases hf with rfl | rfl
    · exact f0
    · exact f1
    ), ⟨hG.1, hG.2.1, hG.2.2.1, hG.2.2.2.1, hG.2.2.2.2.1, hG.2.2.2.2.2.1, hG.2.2.2.2.2.2.1, hG.2.2.2.2.2.2.2.1, hG.2.2.2.2.2.2.2.2.1, hG.2.2.2.2.2.2.2.2.2.1, hG.2.2.2.2.2.2.2.2.2.2.1, hG.2.2.2.2.2.2.2.2.2.2.2.1, hG.2.2.2.2.2.2.2.2.2.2.2.2.1, hG.2.2.2.2.2.2.2.2.2.2.2.2.2.1, hG.2.2.2.2.2.2.2.2.2.2.2.2.2.2.1, hG.2.2.2.2.2.2.2.2.2.2.2.2.2.2.2.1, hG.2.2.2.2.2.2.2.2.2.2.2.2.2.2.2.2.1, hG.2.2.2.2.2.2.2.2.2.2.2.2.2.2.2.2.2.1, hG.2.2.2.2.2.2.2.2.2.2.2.2.2.2.2.2.2.2.1, hG.2.2.2.2.2.2.2.2.2.2.2.2.2.2.2.2.2.2.2.1, hG.2.2.2.2.2.2.2.2.2.2.2.2.2.2.2.2.2.2.2.2.1, c21, hG.2.2.2.2.2.2.2.2.2.2.2.2.2.2.2.2.2.2.2.2.2.2.1, hG.2.2.2.2.2.2.2.2.2.2.2.2.2.2.2.2.2.2.2.2.2.2.2.1, hG.2.2.2.2.2.2.2.2.2.2.2.2.2.2.2.2.2.2.2.2.2.2.2.2⟩⟩
theorem sx_q_m_fw_1 {γ : Nat → Int} {A : Nat → Nat → Int} {x : Int} (hG : sx_G0 γ A) (f0 : 0 ≤ (-1) + ((-1) * γ 18514 + (1 * x + 0))) (c21 : sx_gfn (0 + (1 * x + 0)) (0 + 0) ((-1) + 0) (A 2)) : ∃ a ∈ sx_r_m_fw.2, ∃ w : Nat → Int, (∀ (i : Nat) p, a.1[i]? = some p → p.2.1 ≤ w i ∧ w i ≤ p.2.2) ∧ (∀ f ∈ a.2.1, 0 ≤ sx_d (sx_th γ x 0 w) f) ∧ sx_G0 (sx_gu γ (sx_th γ x 0 w) a.2.2.1) A := ⟨([], [((-1), [(18514, (-1)), (19000, 1)])], [(18514, (0, [(19000, 1)])), (18515, (0, [])), (18516, ((-1), []))], []), List.Mem.tail _ (List.Mem.head _), (fun _ => 0), fun i p hi => (by
    match i, hi with
    | n + 0, hi => simp at hi), fun f hf => (by
    simp only [List.mem_cons, List.not_mem_nil, or_false] at hf
    rcases hf with rfl
    · exact f0
    ), ⟨hG.1, hG.2.1, hG.2.2.1, hG.2.2.2.1, hG.2.2.2.2.1, hG.2.2.2.2.2.1, hG.2.2.2.2.2.2.1, hG.2.2.2.2.2.2.2.1, hG.2.2.2.2.2.2.2.2.1, hG.2.2.2.2.2.2.2.2.2.1, hG.2.2.2.2.2.2.2.2.2.2.1, hG.2.2.2.2.2.2.2.2.2.2.2.1, hG.2.2.2.2.2.2.2.2.2.2.2.2.1, hG.2.2.2.2.2.2.2.2.2.2.2.2.2.1, hG.2.2.2.2.2.2.2.2.2.2.2.2.2.2.1, hG.2.2.2.2.2.2.2.2.2.2.2.2.2.2.2.1, hG.2.2.2.2.2.2.2.2.2.2.2.2.2.2.2.2.1, hG.2.2.2.2.2.2.2.2.2.2.2.2.2.2.2.2.2.1, hG.2.2.2.2.2.2.2.2.2.2.2.2.2.2.2.2.2.2.1, hG.2.2.2.2.2.2.2.2.2.2.2.2.2.2.2.2.2.2.2.1, hG.2.2.2.2.2.2.2.2.2.2.2.2.2.2.2.2.2.2.2.2.1, c21, hG.2.2.2.2.2.2.2.2.2.2.2.2.2.2.2.2.2.2.2.2.2.2.1, hG.2.2.2.2.2.2.2.2.2.2.2.2.2.2.2.2.2.2.2.2.2.2.2.1, hG.2.2.2.2.2.2.2.2.2.2.2.2.2.2.2.2.2.2.2.2.2.2.2.2⟩⟩
theorem sx_q_m_fw_2 {γ : Nat → Int} {A : Nat → Nat → Int} {x : Int} (hG : sx_G0 γ A) (f0 : 0 ≤ (-1) + (1 * γ 18514 + ((-1) * x + 0))) (c21 : sx_gfn (0 + (1 * x + 0)) (0 + 0) ((-1) + 0) (A 2)) : ∃ a ∈ sx_r_m_fw.2, ∃ w : Nat → Int, (∀ (i : Nat) p, a.1[i]? = some p → p.2.1 ≤ w i ∧ w i ≤ p.2.2) ∧ (∀ f ∈ a.2.1, 0 ≤ sx_d (sx_th γ x 0 w) f) ∧ sx_G0 (sx_gu γ (sx_th γ x 0 w) a.2.2.1) A := ⟨([], [((-1), [(18514, 1), (19000, (-1))])], [(18514, (0, [(19000, 1)])), (18515, (0, [])), (18516, ((-1), []))], []), List.Mem.tail _ (List.Mem.tail _ (List.Mem.head _)), (fun _ => 0), fun i p hi => (by
    match i, hi with
    | n + 0, hi => simp at hi), fun f hf => (by
    simp only [List.mem_cons, List.not_mem_nil, or_false] at hf
    rcases hf with rfl
    · exact f0
    ), ⟨hG.1, hG.2.1, hG.2.2.1, hG.2.2.2.1, hG.2.2.2.2.1, hG.2.2.2.2.2.1, hG.2.2.2.2.2.2.1, hG.2.2.2.2.2.2.2.1, hG.2.2.2.2.2.2.2.2.1, hG.2.2.2.2.2.2.2.2.2.1, hG.2.2.2.2.2.2.2.2.2.2.1, hG.2.2.2.2.2.2.2.2.2.2.2.1, hG.2.2.2.2.2.2.2.2.2.2.2.2.1, hG.2.2.2.2.2.2.2.2.2.2.2.2.2.1, hG.2.2.2.2.2.2.2.2.2.2.2.2.2.2.1, hG.2.2.2.2.2.2.2.2.2.2.2.2.2.2.2.1, hG.2.2.2.2.2.2.2.2.2.2.2.2.2.2.2.2.1, hG.2.2.2.2.2.2.2.2.2.2.2.2.2.2.2.2.2.1, hG.2.2.2.2.2.2.2.2.2.2.2.2.2.2.2.2.2.2.1, hG.2.2.2.2.2.2.2.2.2.2.2.2.2.2.2.2.2.2.2.1, hG.2.2.2.2.2.2.2.2.2.2.2.2.2.2.2.2.2.2.2.2.1, c21, hG.2.2.2.2.2.2.2.2.2.2.2.2.2.2.2.2.2.2.2.2.2.2.1, hG.2.2.2.2.2.2.2.2.2.2.2.2.2.2.2.2.2.2.2.2.2.2.2.1, hG.2.2.2.2.2.2.2.2.2.2.2.2.2.2.2.2.2.2.2.2.2.2.2.2⟩⟩
theorem sx_q_m_fp_0 {γ : Nat → Int} {A : Nat → Nat → Int} {x : Int} (hG : sx_G0 γ A) (c21 : sx_gfn (γ 18514) (0 + 0) ((-1) + 0) (A 2)) : ∃ a ∈ sx_r_m_fp.2, ∃ w : Nat → Int, (∀ (i : Nat) p, a.1[i]? = some p → p.2.1 ≤ w i ∧ w i ≤ p.2.2) ∧ (∀ f ∈ a.2.1, 0 ≤ sx_d (sx_th γ x 0 w) f) ∧ sx_G0 (sx_gu γ (sx_th γ x 0 w) a.2.2.1) A := ⟨([], [], [(18515, (0, [])), (18516, ((-1), []))], []), List.Mem.head _, (fun _ => 0), fun i p hi => (by
    match i, hi with
    | n + 0, hi => simp at hi), fun f hf => (by cases hf), ⟨hG.1, hG.2.1, hG.2.2.1, hG.2.2.2.1, hG.2.2.2.2.1, hG.2.2.2.2.2.1, hG.2.2.2.2.2.2.1, hG.2.2.2.2.2.2.2.1, hG.2.2.2.2.2.2.2.2.1, hG.2.2.2.2.2.2.2.2.2.1, hG.2.2.2.2.2.2.2.2.2.2.1, hG.2.2.2.2.2.2.2.2.2.2.2.1, hG.2.2.2.2.2.2.2.2.2.2.2.2.1, hG.2.2.2.2.2.2.2.2.2.2.2.2.2.1, hG.2.2.2.2.2.2.2.2.2.2.2.2.2.2.1, hG.2.2.2.2.2.2.2.2.2.2.2.2.2.2.2.1, hG.2.2.2.2.2.2.2.2.2.2.2.2.2.2.2.2.1, hG.2.2.2.2.2.2.2.2.2.2.2.2.2.2.2.2.2.1, hG.2.2.2.2.2.2.2.2.2.2.2.2.2.2.2.2.2.2.1, hG.2.2.2.2.2.2.2.2.2.2.2.2.2.2.2.2.2.2.2.1, hG.2.2.2.2.2.2.2.2.2.2.2.2.2.2.2.2.2.2.2.2.1, c21, hG.2.2.2.2.2.2.2.2.2.2.2.2.2.2.2.2.2.2.2.2.2.2.1, hG.2.2.2.2.2.2.2.2.2.2.2.2.2.2.2.2.2.2.2.2.2.2.2.1, hG.2.2.2.2.2.2.2.2.2.2.2.2.2.2.2.2.2.2.2.2.2.2.2.2⟩⟩
theorem sx_q_m_gw_0 {γ : Nat → Int} {A : Nat → Nat → Int} {x : Int} (hG : sx_G0 γ A) (f0 : 0 ≤ 0 + ((-1) * γ 18517 + (1 * x + 0))) (f1 : 0 ≤ 0 + (1 * γ 18517 + ((-1) * x + 0))) (c22 : sx_gfn (0 + (1 * x + 0)) (γ 18518) (γ 18519) (A 104)) : ∃ a ∈ sx_r_m_gw.2, ∃ w : Nat → Int, (∀ (i : Nat) p, a.1[i]? = some p → p.2.1 ≤ w i ∧ w i ≤ p.2.2) ∧ (∀ f ∈ a.2.1, 0 ≤ sx_d (sx_th γ x 0 w) f) ∧ sx_G0 (sx_gu γ (sx_th γ x 0 w) a.2.2.1) A := ⟨([], [(0, [(18517, (-1)), (19000, 1)]), (0, [(18517, 1), (19000, (-1))])], [(18517, (0, [(19000, 1)]))], []), List.Mem.head _, (fun _ => 0), fun i p hi => (by
    match i, hi with
    | n + 0, hi => simp at hi), fun f hf => (by
    simp only [List.mem_cons, List.not_mem_nil, or_false] at hf
    rcases hf with rfl | rfl
    · exact f0
    · exact f1
    ), ⟨hG.1, hG.2.1, hG.2.2.1, hG.2.2.2.1, hG.2.2.2.2.1, hG.2.2.2.2.2.1, hG.2.2.2.2.2.2.1, hG.2.2.2.2.2.2.2.1, hG.2.2.2.2.2.2.2.2.1, hG.2.2.2.2.2.2.2.2.2.1, hG.2.2.2.2.2.2.2.2.2.2.1, hG.2.2.2.2.2.2.2.2.2.2.2.1, hG.2.2.2.2.2.2.2.2.2.2.2.2.1, hG.2.2.2.2.2.2.2.2.2.2.2.2.2.1, hG.2.2.2.2.2.2.2.2.2.2.2.2.2.2.1, hG.2.2.2.2.2.2.2.2.2.2.2.2.2.2.2.1, hG.2.2.2.2.2.2.2.2.2.2.2.2.2.2.2.2.1, hG.2.2.2.2.2.2.2.2.2.2.2.2.2.2.2.2.2.1, hG.2.2.2.2.2.2.2.2.2.2.2.2.2.2.2.2.2.2.1, hG.2.2.2.2.2.2.2.2.2.2.2.2.2.2.2.2.2.2.2.1, hG.2.2.2.2.2.2.2.2.2.2.2.2.2.2.2.2.2.2.2.2.1, hG.2.2.2.2.2.2.2.2.2.2.2.2.2.2.2.2.2.2.2.2.2.1, c22, hG.2.2.2.2.2.2.2.2.2.2.2.2.2.2.2.2.2.2.2.2.2.2.2.1, hG.2.2.2.2.2.2.2.2.2.2.2.2.2.2.2.2.2.2.2.2.2.2.2.2⟩⟩
theorem sx_q_m_gw_1 {γ : Nat → Int} {A : Nat → Nat → Int} {x : Int} (hG : sx_G0 γ A) (f0 : 0 ≤ (-1) + ((-1) * γ 18517 + (1 * x + 0))) (c22 : sx_gfn (0 + (1 * x + 0)) (0 + 0) ((-1) + 0) (A 104)) : ∃ a ∈ sx_r_m_gw.2, ∃ w : Nat → Int, (∀ (i : Nat) p, a.1[i]? = some p → p.2.1 ≤ w i ∧ w i ≤ p.2.2) ∧ (∀ f ∈ a.2.1, 0 ≤ sx_d (sx_th γ x 0 w) f) ∧ sx_G0 (sx_gu γ (sx_th γ x 0 w) a.2.2.1) A := ⟨([], [((-1), [(18517, (-1)), (19000, 1)])], [(18517, (0, [(19000, 1)])), (18518, (0, [])), (18519, ((-1), []))], []), List.Mem.tail _ (List.Mem.head _), (fun _ => 0), fun i p hi => (by
    match i, hi with
    | n + 0, hi => simp at hi), fun f hf => (by
    simp only [List.mem_cons, List.not_mem_nil, or_false] at hf
    rcases hf with rfl
    · exact f0
    ), ⟨hG.1, hG.2.1, hG.2.2.1, hG.2.2.2.1, hG.2.2.2.2.1, hG.2.2.2.2.2.1, hG.2.2.2.2.2.2.1, hG.2.2.2.2.2.2.2.1, hG.2.2.2.2.2.2.2.2.1, hG.2.2.2.2.2.2.2.2.2.1, hG.2.2.2.2.2.2.2.2.2.2.1, hG.2.2.2.2.2.2.2.2.2.2.2.1, hG.2.2.2.2.2.2.2.2.2.2.2.2.1, hG.2.2.2.2.2.2.2.2.2.2.2.2.2.1, hG.2.2.2.2.2.2.2.2.2.2.2.2.2.2.1, hG.2.2.2.2.2.2.2.2.2.2.2.2.2.2.2.1, hG.2.2.2.2.2.2.2.2.2.2.2.2.2.2.2.2.1, hG.2.2.2.2.2.2.2.2.2.2.2.2.2.2.2.2.2.1, hG.2.2.2.2.2.2.2.2.2.2.2.2.2.2.2.2.2.2.1, hG.2.2.2.2.2.2.2.2.2.2.2.2.2.2.2.2.2.2.2.1, hG.2.2.2.2.2.2.2.2.2.2.2.2.2.2.2.2.2.2.2.2.1, hG.2.2.2.2.2.2.2.2.2.2.2.2.2.2.2.2.2.2.2.2.2.1, c22, hG.2.2.2.2.2.2.2.2.2.2.2.2.2.2.2.2.2.2.2.2.2.2.2.1, hG.2.2.2.2.2.2.2.2.2.2.2.2.2.2.2.2.2.2.2.2.2.2.2.2⟩⟩
theorem sx_q_m_gw_2 {γ : Nat → Int} {A : Nat → Nat → Int} {x : Int} (hG : sx_G0 γ A) (f0 : 0 ≤ (-1) + (1 * γ 18517 + ((-1) * x + 0))) (c22 : sx_gfn (0 + (1 * x + 0)) (0 + 0) ((-1) + 0) (A 104)) : ∃ a ∈ sx_r_m_gw.2, ∃ w : Nat → Int, (∀ (i : Nat) p, a.1[i]? = some p → p.2.1 ≤ w i ∧ w i ≤ p.2.2) ∧ (∀ f ∈ a.2.1, 0 ≤ sx_d (sx_th γ x 0 w) f) ∧ sx_G0 (sx_gu γ (sx_th γ x 0 w) a.2.2.1) A := ⟨([], [((-1), [(18517, 1), (19000, (-1))])], [(18517, (0, [(19000, 1)])), (18518, (0, [])), (18519, ((-1), []))], []), List.Mem.tail _ (List.Mem.tail _ (List.Mem.head _)), (fun _ => 0), fun i p hi => (by
    match i, hi with
    | n + 0, hi => simp at hi), fun f hf => (by
    simp only [List.mem_cons, List.not_mem_nil, or_false] at hf
    rcases hf with rfl
    · exact f0
    ), ⟨hG.1, hG.2.1, hG.2.2.1, hG.2.2.2.1, hG.2.2.2.2.1, hG.2.2.2.2.2.1, hG.2.2.2.2.2.2.1, hG.2.2.2.2.2.2.2.1, hG.2.2.2.2.2.2.2.2.1, hG.2.2.2.2.2.2.2.2.2.1, hG.2.2.2.2.2.2.2.2.2.2.1, hG.2.2.2.2.2.2.2.2.2.2.2.1, hG.2.2.2.2.2.2.2.2.2.2.2.2.1, hG.2.2.2.2.2.2.2.2.2.2.2.2.2.1, hG.2.2.2.2.2.2.2.2.2.2.2.2.2.2.1, hG.2.2.2.2.2.2.2.2.2.2.2.2.2.2.2.1, hG.2.2.2.2.2.2.2.2.2.2.2.2.2.2.2.2.1, hG.2.2.2.2.2.2.2.2.2.2.2.2.2.2.2.2.2.1, hG.2.2.2.2.2.2.2.2.2.2.2.2.2.2.2.2.2.2.1, hG.2.2.2.2.2.2.2.2.2.2.2.2.2.2.2.2.2.2.2.1, hG.2.2.2.2.2.2.2.2.2.2.2.2.2.2.2.2.2.2.2.2.1, hG.2.2.2.2.2.2.2.2.2.2.2.2.2.2.2.2.2.2.2.2.2.1, c22, hG.2.2.2.2.2.2.2.2.2.2.2.2.2.2.2.2.2.2.2.2.2.2.2.1, hG.2.2.2.2.2.2.2.2.2.2.2.2.2.2.2.2.2.2.2.2.2.2.2.2⟩⟩
theorem sx_q_m_gp_0 {γ : Nat → Int} {A : Nat → Nat → Int} {x : Int} (hG : sx_G0 γ A) (c22 : sx_gfn (γ 18517) (0 + 0) ((-1) + 0) (A 104)) : ∃ a ∈ sx_r_m_gp.2, ∃ w : Nat → Int, (∀ (i : Nat) p, a.1[i]? = some p → p.2.1 ≤ w i ∧ w i ≤ p.2.2) ∧ (∀ f ∈ a.2.1, 0 ≤ sx_d (sx_th γ x 0 w) f) ∧ sx_G0 (sx_gu γ (sx_th γ x 0 w) a.2.2.1) A := ⟨([], [], [(18518, (0, [])), (18519, ((-1), []))], []), List.Mem.head _, (fun _ => 0), fun i p hi => (by
    match i, hi with
    | n + 0, hi => simp at hi), fun f hf => (by cases hf), ⟨hG.1, hG.2.1, hG.2.2.1, hG.2.2.2.1, hG.2.2.2.2.1, hG.2.2.2.2.2.1, hG.2.2.2.2.2.2.1, hG.2.2.2.2.2.2.2.1, hG.2.2.2.2.2.2.2.2.1, hG.2.2.2.2.2.2.2.2.2.1, hG.2.2.2.2.2.2.2.2.2.2.1, hG.2.2.2.2.2.2.2.2.2.2.2.1, hG.2.2.2.2.2.2.2.2.2.2.2.2.1, hG.2.2.2.2.2.2.2.2.2.2.2.2.2.1, hG.2.2.2.2.2.2.2.2.2.2.2.2.2.2.1, hG.2.2.2.2.2.2.2.2.2.2.2.2.2.2.2.1, hG.2.2.2.2.2.2.2.2.2.2.2.2.2.2.2.2.1, hG.2.2.2.2.2.2.2.2.2.2.2.2.2.2.2.2.2.1, hG.2.2.2.2.2.2.2.2.2.2.2.2.2.2.2.2.2.2.1, hG.2.2.2.2.2.2.2.2.2.2.2.2.2.2.2.2.2.2.2.1, hG.2.2.2.2.2.2.2.2.2.2.2.2.2.2.2.2.2.2.2.2.1, hG.2.2.2.2.2.2.2.2.2.2.2.2.2.2.2.2.2.2.2.2.2.1, c22, hG.2.2.2.2.2.2.2.2.2.2.2.2.2.2.2.2.2.2.2.2.2.2.2.1, hG.2.2.2.2.2.2.2.2.2.2.2.2.2.2.2.2.2.2.2.2.2.2.2.2⟩⟩
theorem sx_q_m_tk_0 {γ : Nat → Int} {A : Nat → Nat → Int} {x : Int} (hG : sx_G0 γ A) (f0 : 0 ≤ 3 + ((-1) * γ 12816 + 0)) : ∃ a ∈ sx_r_m_tk.2, ∃ w : Nat → Int, (∀ (i : Nat) p, a.1[i]? = some p → p.2.1 ≤ w i ∧ w i ≤ p.2.2) ∧ (∀ f ∈ a.2.1, 0 ≤ sx_d (sx_th γ x 0 w) f) ∧ sx_G0 (sx_gu γ (sx_th γ x 0 w) a.2.2.1) A := ⟨([], [(3, [(12816, (-1))])], [], []), List.Mem.head _, (fun _ => 0), fun i p hi => (by
    match i, hi with
    | n + 0, hi => simp at hi), fun f hf => (by
    simp only [List.mem_cons, List.not_mem_nil, or_false] at hf
    rcases hf with rfl
    · exact f0
    ), ⟨hG.1, hG.2.1, hG.2.2.1, hG.2.2.2.1, hG.2.2.2.2.1, hG.2.2.2.2.2.1, hG.2.2.2.2.2.2.1, hG.2.2.2.2.2.2.2.1, hG.2.2.2.2.2.2.2.2.1, hG.2.2.2.2.2.2.2.2.2.1, hG.2.2.2.2.2.2.2.2.2.2.1, hG.2.2.2.2.2.2.2.2.2.2.2.1, hG.2.2.2.2.2.2.2.2.2.2.2.2.1, hG.2.2.2.2.2.2.2.2.2.2.2.2.2.1, hG.2.2.2.2.2.2.2.2.2.2.2.2.2.2.1, hG.2.2.2.2.2.2.2.2.2.2.2.2.2.2.2.1, hG.2.2.2.2.2.2.2.2.2.2.2.2.2.2.2.2.1, hG.2.2.2.2.2.2.2.2.2.2.2.2.2.2.2.2.2.1, hG.2.2.2.2.2.2.2.2.2.2.2.2.2.2.2.2.2.2.1, hG.2.2.2.2.2.2.2.2.2.2.2.2.2.2.2.2.2.2.2.1, hG.2.2.2.2.2.2.2.2.2.2.2.2.2.2.2.2.2.2.2.2.1, hG.2.2.2.2.2.2.2.2.2.2.2.2.2.2.2.2.2.2.2.2.2.1, hG.2.2.2.2.2.2.2.2.2.2.2.2.2.2.2.2.2.2.2.2.2.2.1, hG.2.2.2.2.2.2.2.2.2.2.2.2.2.2.2.2.2.2.2.2.2.2.2.1, hG.2.2.2.2.2.2.2.2.2.2.2.2.2.2.2.2.2.2.2.2.2.2.2.2⟩⟩
theorem sx_q_m_tk_1 {γ : Nat → Int} {A : Nat → Nat → Int} {x : Int} (hG : sx_G0 γ A) (f0 : 0 ≤ (-4) + (1 * γ 12816 + 0)) (f1 : 0 ≤ (-42) + (1 * γ 12819 + 0)) (f2 : 0 ≤ 42 + ((-1) * γ 12819 + 0)) : ∃ a ∈ sx_r_m_tk.2, ∃ w : Nat → Int, (∀ (i : Nat) p, a.1[i]? = some p → p.2.1 ≤ w i ∧ w i ≤ p.2.2) ∧ (∀ f ∈ a.2.1, 0 ≤ sx_d (sx_th γ x 0 w) f) ∧ sx_G0 (sx_gu γ (sx_th γ x 0 w) a.2.2.1) A := ⟨([], [((-4), [(12816, 1)]), ((-42), [(12819, 1)]), (42, [(12819, (-1))])], [], []), List.Mem.tail _ (List.Mem.head _), (fun _ => 0), fun i p hi => (by
    match i, hi with
    | n + 0, hi => simp at hi), fun f hf => (by
    simp only [List.mem_cons, List.not_mem_nil, or_false] at hf
    rcases hf with rfl | rfl | rfl
    · exact f0
    · exact f1
    · exact f2
    ), ⟨hG.1, hG.2.1, hG.2.2.1, hG.2.2.2.1, hG.2.2.2.2.1, hG.2.2.2.2.2.1, hG.2.2.2.2.2.2.1, hG.2.2.2.2.2.2.2.1, hG.2.2.2.2.2.2.2.2.1, hG.2.2.2.2.2.2.2.2.2.1, hG.2.2.2.2.2.2.2.2.2.2.1, hG.2.2.2.2.2.2.2.2.2.2.2.1, hG.2.2.2.2.2.2.2.2.2.2.2.2.1, hG.2.2.2.2.2.2.2.2.2.2.2.2.2.1, hG.2.2.2.2.2.2.2.2.2.2.2.2.2.2.1, hG.2.2.2.2.2.2.2.2.2.2.2.2.2.2.2.1, hG.2.2.2.2.2.2.2.2.2.2.2.2.2.2.2.2.1, hG.2.2.2.2.2.2.2.2.2.2.2.2.2.2.2.2.2.1, hG.2.2.2.2.2.2.2.2.2.2.2.2.2.2.2.2.2.2.1, hG.2.2.2.2.2.2.2.2.2.2.2.2.2.2.2.2.2.2.2.1, hG.2.2.2.2.2.2.2.2.2.2.2.2.2.2.2.2.2.2.2.2.1, hG.2.2.2.2.2.2.2.2.2.2.2.2.2.2.2.2.2.2.2.2.2.1, hG.2.2.2.2.2.2.2.2.2.2.2.2.2.2.2.2.2.2.2.2.2.2.1, hG.2.2.2.2.2.2.2.2.2.2.2.2.2.2.2.2.2.2.2.2.2.2.2.1, hG.2.2.2.2.2.2.2.2.2.2.2.2.2.2.2.2.2.2.2.2.2.2.2.2⟩⟩
theorem sx_q_m_tk_2 {γ : Nat → Int} {A : Nat → Nat → Int} {x : Int} (hG : sx_G0 γ A) (f0 : 0 ≤ (-4) + (1 * γ 12816 + 0)) (f1 : 0 ≤ (-43) + (1 * γ 12819 + 0)) (f2 : 0 ≤ 43 + ((-1) * γ 12819 + 0)) : ∃ a ∈ sx_r_m_tk.2, ∃ w : Nat → Int, (∀ (i : Nat) p, a.1[i]? = some p → p.2.1 ≤ w i ∧ w i ≤ p.2.2) ∧ (∀ f ∈ a.2.1, 0 ≤ sx_d (sx_th γ x 0 w) f) ∧ sx_G0 (sx_gu γ (sx_th γ x 0 w) a.2.2.1) A := ⟨([], [((-4), [(12816, 1)]), ((-43), [(12819, 1)]), (43, [(12819, (-1))])], [], []), List.Mem.tail _ (List.Mem.tail _ (List.Mem.head _)), (fun _ => 0), fun i p hi => (by
    match i, hi with
    | n + 0, hi => simp at hi), fun f hf => (by
    simp only [List.mem_cons, List.not_mem_nil, or_false] at hf
    rcases hf with rfl | rfl | rfl
    · exact f0
    · exact f1
    · exact f2
    ), ⟨hG.1, hG.2.1, hG.2.2.1, hG.2.2.2.1, hG.2.2.2.2.1, hG.2.2.2.2.2.1, hG.2.2.2.2.2.2.1, hG.2.2.2.2.2.2.2.1, hG.2.2.2.2.2.2.2.2.1, hG.2.2.2.2.2.2.2.2.2.1, hG.2.2.2.2.2.2.2.2.2.2.1, hG.2.2.2.2.2.2.2.2.2.2.2.1, hG.2.2.2.2.2.2.2.2.2.2.2.2.1, hG.2.2.2.2.2.2.2.2.2.2.2.2.2.1, hG.2.2.2.2.2.2.2.2.2.2.2.2.2.2.1, hG.2.2.2.2.2.2.2.2.2.2.2.2.2.2.2.1, hG.2.2.2.2.2.2.2.2.2.2.2.2.2.2.2.2.1, hG.2.2.2.2.2.2.2.2.2.2.2.2.2.2.2.2.2.1, hG.2.2.2.2.2.2.2.2.2.2.2.2.2.2.2.2.2.2.1, hG.2.2.2.2.2.2.2.2.2.2.2.2.2.2.2.2.2.2.2.1, hG.2.2.2.2.2.2.2.2.2.2.2.2.2.2.2.2.2.2.2.2.1, hG.2.2.2.2.2.2.2.2.2.2.2.2.2.2.2.2.2.2.2.2.2.1, hG.2.2.2.2.2.2.2.2.2.2.2.2.2.2.2.2.2.2.2.2.2.2.1, hG.2.2.2.2.2.2.2.2.2.2.2.2.2.2.2.2.2.2.2.2.2.2.2.1, hG.2.2.2.2.2.2.2.2.2.2.2.2.2.2.2.2.2.2.2.2.2.2.2.2⟩⟩
theorem sx_q_m_tk_3 {γ : Nat → Int} {A : Nat → Nat → Int} {x : Int} (hG : sx_G0 γ A) (f0 : 0 ≤ (-4) + (1 * γ 12816 + 0)) (f1 : 0 ≤ (-45) + (1 * γ 12819 + 0)) (f2 : 0 ≤ 45 + ((-1) * γ 12819 + 0)) : ∃ a ∈ sx_r_m_tk.2, ∃ w : Nat → Int, (∀ (i : Nat) p, a.1[i]? = some p → p.2.1 ≤ w i ∧ w i ≤ p.2.2) ∧ (∀ f ∈ a.2.1, 0 ≤ sx_d (sx_th γ x 0 w) f) ∧ sx_G0 (sx_gu γ (sx_th γ x 0 w) a.2.2.1) A := ⟨([], [((-4), [(12816, 1)]), ((-45), [(12819, 1)]), (45, [(12819, (-1))])], [], []), List.Mem.tail _ (List.Mem.tail _ (List.Mem.tail _ (List.Mem.head _))), (fun _ => 0), fun i p hi => (by
    match i, hi with
    | n + 0, hi => simp at hi), fun f hf => (by
    simp only [List.mem_cons, List.not_mem_nil, or_false] at hf
    rcases hf with rfl | rfl | rfl
    · exact f0
    · exact f1
    · exact f2
    ), ⟨hG.1, hG.2.1, hG.2.2.1, hG.2.2.2.1, hG.2.2.2.2.1, hG.2.2.2.2.2.1, hG.2.2.2.2.2.2.1, hG.2.2.2.2.2.2.2.1, hG.2.2.2.2.2.2.2.2.1, hG.2.2.2.2.2.2.2.2.2.1, hG.2.2.2.2.2.2.2.2.2.2.1, hG.2.2.2.2.2.2.2.2.2.2.2.1, hG.2.2.2.2.2.2.2.2.2.2.2.2.1, hG.2.2.2.2.2.2.2.2.2.2.2.2.2.1, hG.2.2.2.2.2.2.2.2.2.2.2.2.2.2.1, hG.2.2.2.2.2.2.2.2.2.2.2.2.2.2.2.1, hG.2.2.2.2.2.2.2.2.2.2.2.2.2.2.2.2.1, hG.2.2.2.2.2.2.2.2.2.2.2.2.2.2.2.2.2.1, hG.2.2.2.2.2.2.2.2.2.2.2.2.2.2.2.2.2.2.1, hG.2.2.2.2.2.2.2.2.2.2.2.2.2.2.2.2.2.2.2.1, hG.2.2.2.2.2.2.2.2.2.2.2.2.2.2.2.2.2.2.2.2.1, hG.2.2.2.2.2.2.2.2.2.2.2.2.2.2.2.2.2.2.2.2.2.1, hG.2.2.2.2.2.2.2.2.2.2.2.2.2.2.2.2.2.2.2.2.2.2.1, hG.2.2.2.2.2.2.2.2.2.2.2.2.2.2.2.2.2.2.2.2.2.2.2.1, hG.2.2.2.2.2.2.2.2.2.2.2.2.2.2.2.2.2.2.2.2.2.2.2.2⟩⟩
theorem sx_q_m_tk_4 {γ : Nat → Int} {A : Nat → Nat → Int} {x : Int} (hG : sx_G0 γ A) (f0 : 0 ≤ (-4) + (1 * γ 12816 + 0)) (f1 : 0 ≤ (-41) + (1 * γ 12819 + 0)) (f2 : 0 ≤ 41 + ((-1) * γ 12819 + 0)) : ∃ a ∈ sx_r_m_tk.2, ∃ w : Nat → Int, (∀ (i : Nat) p, a.1[i]? = some p → p.2.1 ≤ w i ∧ w i ≤ p.2.2) ∧ (∀ f ∈ a.2.1, 0 ≤ sx_d (sx_th γ x 0 w) f) ∧ sx_G0 (sx_gu γ (sx_th γ x 0 w) a.2.2.1) A := ⟨([], [((-4), [(12816, 1)]), ((-41), [(12819, 1)]), (41, [(12819, (-1))])], [], []), List.Mem.tail _ (List.Mem.tail _ (List.Mem.tail _ (List.Mem.tail _ (List.Mem.head _)))), (fun _ => 0), fun i p hi => (by
    match i, hi with
    | n + 0, hi => simp at hi), fun f hf => (by
    simp only [List.mem_cons, List.not_mem_nil, or_false] at hf
    rcases hf with rfl | rfl | rfl
    · exact f0
    · exact f1
    · exact f2
    ), ⟨hG.1, hG.2.1, hG.2.2.1, hG.2.2.2.1, hG.2.2.2.2.1, hG.2.2.2.2.2.1, hG.2.2.2.2.2.2.1, hG.2.2.2.2.2.2.2.1, hG.2.2.2.2.2.2.2.2.1, hG.2.2.2.2.2.2.2.2.2.1, hG.2.2.2.2.2.2.2.2.2.2.1, hG.2.2.2.2.2.2.2.2.2.2.2.1, hG.2.2.2.2.2.2.2.2.2.2.2.2.1, hG.2.2.2.2.2.2.2.2.2.2.2.2.2.1, hG.2.2.2.2.2.2.2.2.2.2.2.2.2.2.1, hG.2.2.2.2.2.2.2.2.2.2.2.2.2.2.2.1, hG.2.2.2.2.2.2.2.2.2.2.2.2.2.2.2.2.1, hG.2.2.2.2.2.2.2.2.2.2.2.2.2.2.2.2.2.1, hG.2.2.2.2.2.2.2.2.2.2.2.2.2.2.2.2.2.2.1, hG.2.2.2.2.2.2.2.2.2.2.2.2.2.2.2.2.2.2.2.1, hG.2.2.2.2.2.2.2.2.2.2.2.2.2.2.2.2.2.2.2.2.1, hG.2.2.2.2.2.2.2.2.2.2.2.2.2.2.2.2.2.2.2.2.2.1, hG.2.2.2.2.2.2.2.2.2.2.2.2.2.2.2.2.2.2.2.2.2.2.1, hG.2.2.2.2.2.2.2.2.2.2.2.2.2.2.2.2.2.2.2.2.2.2.2.1, hG.2.2.2.2.2.2.2.2.2.2.2.2.2.2.2.2.2.2.2.2.2.2.2.2⟩⟩
theorem sx_q_m_tk_5 {γ : Nat → Int} {A : Nat → Nat → Int} {x : Int} (hG : sx_G0 γ A) (f0 : 0 ≤ (-4) + (1 * γ 12816 + 0)) (f1 : 0 ≤ 40 + ((-1) * γ 12819 + 0)) : ∃ a ∈ sx_r_m_tk.2, ∃ w : Nat → Int, (∀ (i : Nat) p, a.1[i]? = some p → p.2.1 ≤ w i ∧ w i ≤ p.2.2) ∧ (∀ f ∈ a.2.1, 0 ≤ sx_d (sx_th γ x 0 w) f) ∧ sx_G0 (sx_gu γ (sx_th γ x 0 w) a.2.2.1) A := ⟨([], [((-4), [(12816, 1)]), (40, [(12819, (-1))])], [], []), List.Mem.tail _ (List.Mem.tail _ (List.Mem.tail _ (List.Mem.tail _ (List.Mem.tail _ (List.Mem.head _))))), (fun _ => 0), fun i p hi => (by
    match i, hi with
    | n + 0, hi => simp at hi), fun f hf => (by
    simp only [List.mem_cons, List.not_mem_nil, or_false] at hf
    rcases hf with rfl | rfl
    · exact f0
    · exact f1
    ), ⟨hG.1, hG.2.1, hG.2.2.1, hG.2.2.2.1, hG.2.2.2.2.1, hG.2.2.2.2.2.1, hG.2.2.2.2.2.2.1, hG.2.2.2.2.2.2.2.1, hG.2.2.2.2.2.2.2.2.1, hG.2.2.2.2.2.2.2.2.2.1, hG.2.2.2.2.2.2.2.2.2.2.1, hG.2.2.2.2.2.2.2.2.2.2.2.1, hG.2.2.2.2.2.2.2.2.2.2.2.2.1, hG.2.2.2.2.2.2.2.2.2.2.2.2.2.1, hG.2.2.2.2.2.2.2.2.2.2.2.2.2.2.1, hG.2.2.2.2.2.2.2.2.2.2.2.2.2.2.2.1, hG.2.2.2.2.2.2.2.2.2.2.2.2.2.2.2.2.1, hG.2.2.2.2.2.2.2.2.2.2.2.2.2.2.2.2.2.1, hG.2.2.2.2.2.2.2.2.2.2.2.2.2.2.2.2.2.2.1, hG.2.2.2.2.2.2.2.2.2.2.2.2.2.2.2.2.2.2.2.1, hG.2.2.2.2.2.2.2.2.2.2.2.2.2.2.2.2.2.2.2.2.1, hG.2.2.2.2.2.2.2.2.2.2.2.2.2.2.2.2.2.2.2.2.2.1, hG.2.2.2.2.2.2.2.2.2.2.2.2.2.2.2.2.2.2.2.2.2.2.1, hG.2.2.2.2.2.2.2.2.2.2.2.2.2.2.2.2.2.2.2.2.2.2.2.1, hG.2.2.2.2.2.2.2.2.2.2.2.2.2.2.2.2.2.2.2.2.2.2.2.2⟩⟩
theorem sx_q_m_tk_6 {γ : Nat → Int} {A : Nat → Nat → Int} {x : Int} (hG : sx_G0 γ A) (f0 : 0 ≤ (-4) + (1 * γ 12816 + 0)) (f1 : 0 ≤ (-44) + (1 * γ 12819 + 0)) (f2 : 0 ≤ 44 + ((-1) * γ 12819 + 0)) : ∃ a ∈ sx_r_m_tk.2, ∃ w : Nat → Int, (∀ (i : Nat) p, a.1[i]? = some p → p.2.1 ≤ w i ∧ w i ≤ p.2.2) ∧ (∀ f ∈ a.2.1, 0 ≤ sx_d (sx_th γ x 0 w) f) ∧ sx_G0 (sx_gu γ (sx_th γ x 0 w) a.2.2.1) A := ⟨([], [((-4), [(12816, 1)]), ((-44), [(12819, 1)]), (44, [(12819, (-1))])], [], []), List.Mem.tail _ (List.Mem.tail _ (List.Mem.tail _ (List.Mem.tail _ (List.Mem.tail _ (List.Mem.tail _ (List.Mem.head _)))))), (fun _ => 0), fun i p hi => (by
    match i, hi with
    | n + 0, hi => simp at hi), fun f hf => (by
    simp only [List.mem_cons, List.not_mem_nil, or_false] at hf
    rcases hf with rfl | rfl | rfl
    · exact f0
    · exact f1
    · exact f2
    ), ⟨hG.1, hG.2.1, hG.2.2.1, hG.2.2.2.1, hG.2.2.2.2.1, hG.2.2.2.2.2.1, hG.2.2.2.2.2.2.1, hG.2.2.2.2.2.2.2.1, hG.2.2.2.2.2.2.2.2.1, hG.2.2.2.2.2.2.2.2.2.1, hG.2.2.2.2.2.2.2.2.2.2.1, hG.2.2.2.2.2.2.2.2.2.2.2.1, hG.2.2.2.2.2.2.2.2.2.2.2.2.1, hG.2.2.2.2.2.2.2.2.2.2.2.2.2.1, hG.2.2.2.2.2.2.2.2.2.2.2.2.2.2.1, hG.2.2.2.2.2.2.2.2.2.2.2.2.2.2.2.1, hG.2.2.2.2.2.2.2.2.2.2.2.2.2.2.2.2.1, hG.2.2.2.2.2.2.2.2.2.2.2.2.2.2.2.2.2.1, hG.2.2.2.2.2.2.2.2.2.2.2.2.2.2.2.2.2.2.1, hG.2.2.2.2.2.2.2.2.2.2.2.2.2.2.2.2.2.2.2.1, hG.2.2.2.2.2.2.2.2.2.2.2.2.2.2.2.2.2.2.2.2.1, hG.2.2.2.2.2.2.2.2.2.2.2.2.2.2.2.2.2.2.2.2.2.1, hG.2.2.2.2.2.2.2.2.2.2.2.2.2.2.2.2.2.2.2.2.2.2.1, hG.2.2.2.2.2.2.2.2.2.2.2.2.2.2.2.2.2.2.2.2.2.2.2.1, hG.2.2.2.2.2.2.2.2.2.2.2.2.2.2.2.2.2.2.2.2.2.2.2.2⟩⟩
theorem sx_q_m_tk_7 {γ : Nat → Int} {A : Nat → Nat → Int} {x : Int} (hG : sx_G0 γ A) (f0 : 0 ≤ (-4) + (1 * γ 12816 + 0)) (f1 : 0 ≤ (-46) + (1 * γ 12819 + 0)) : ∃ a ∈ sx_r_m_tk.2, ∃ w : Nat → Int, (∀ (i : Nat) p, a.1[i]? = some p → p.2.1 ≤ w i ∧ w i ≤ p.2.2) ∧ (∀ f ∈ a.2.1, 0 ≤ sx_d (sx_th γ x 0 w) f) ∧ sx_G0 (sx_gu γ (sx_th γ x 0 w) a.2.2.1) A := ⟨([], [((-4), [(12816, 1)]), ((-46), [(12819, 1)])], [], []), List.Mem.tail _ (List.Mem.tail _ (List.Mem.tail _ (List.Mem.tail _ (List.Mem.tail _ (List.Mem.tail _ (List.Mem.tail _ (List.Mem.head _))))))), (fun _ => 0), fun i p hi => (by
    match i, hi with
    | n + 0, hi => simp at hi), fun f hf => (by
    simp only [List.mem_cons, List.not_mem_nil, or_false] at hf
    rcases hf with rfl | rfl
    · exact f0
    · exact f1
    ), ⟨hG.1, hG.2.1, hG.2.2.1, hG.2.2.2.1, hG.2.2.2.2.1, hG.2.2.2.2.2.1, hG.2.2.2.2.2.2.1, hG.2.2.2.2.2.2.2.1, hG.2.2.2.2.2.2.2.2.1, hG.2.2.2.2.2.2.2.2.2.1, hG.2.2.2.2.2.2.2.2.2.2.1, hG.2.2.2.2.2.2.2.2.2.2.2.1, hG.2.2.2.2.2.2.2.2.2.2.2.2.1, hG.2.2.2.2.2.2.2.2.2.2.2.2.2.1, hG.2.2.2.2.2.2.2.2.2.2.2.2.2.2.1, hG.2.2.2.2.2.2.2.2.2.2.2.2.2.2.2.1, hG.2.2.2.2.2.2.2.2.2.2.2.2.2.2.2.2.1, hG.2.2.2.2.2.2.2.2.2.2.2.2.2.2.2.2.2.1, hG.2.2.2.2.2.2.2.2.2.2.2.2.2.2.2.2.2.2.1, hG.2.2.2.2.2.2.2.2.2.2.2.2.2.2.2.2.2.2.2.1, hG.2.2.2.2.2.2.2.2.2.2.2.2.2.2.2.2.2.2.2.2.1, hG.2.2.2.2.2.2.2.2.2.2.2.2.2.2.2.2.2.2.2.2.2.1, hG.2.2.2.2.2.2.2.2.2.2.2.2.2.2.2.2.2.2.2.2.2.2.1, hG.2.2.2.2.2.2.2.2.2.2.2.2.2.2.2.2.2.2.2.2.2.2.2.1, hG.2.2.2.2.2.2.2.2.2.2.2.2.2.2.2.2.2.2.2.2.2.2.2.2⟩⟩
theorem sx_q_m_zf0_0 {γ : Nat → Int} {A : Nat → Nat → Int} {x : Int} (hG : sx_G0 γ A) (f0 : 0 ≤ 0 + ((-1) * γ 18439 + 0)) (f1 : 0 ≤ 0 + ((-1) * γ 18446 + 0)) : ∃ a ∈ sx_r_m_zf0.2, ∃ w : Nat → Int, (∀ (i : Nat) p, a.1[i]? = some p → p.2.1 ≤ w i ∧ w i ≤ p.2.2) ∧ (∀ f ∈ a.2.1, 0 ≤ sx_d (sx_th γ x 0 w) f) ∧ sx_G0 (sx_gu γ (sx_th γ x 0 w) a.2.2.1) A := ⟨([], [(0, [(18439, (-1))]), (0, [(18446, (-1))])], [], []), List.Mem.head _, (fun _ => 0), fun i p hi => (by
    match i, hi with
    | n + 0, hi => simp at hi), fun f hf => (by
    simp only [List.mem_cons, List.not_mem_nil, or_false] at hf
    rcases hf with rfl | rfl
    · exact f0
    · exact f1
    ), ⟨hG.1, hG.2.1, hG.2.2.1, hG.2.2.2.1, hG.2.2.2.2.1, hG.2.2.2.2.2.1, hG.2.2.2.2.2.2.1, hG.2.2.2.2.2.2.2.1, hG.2.2.2.2.2.2.2.2.1, hG.2.2.2.2.2.2.2.2.2.1, hG.2.2.2.2.2.2.2.2.2.2.1, hG.2.2.2.2.2.2.2.2.2.2.2.1, hG.2.2.2.2.2.2.2.2.2.2.2.2.1, hG.2.2.2.2.2.2.2.2.2.2.2.2.2.1, hG.2.2.2.2.2.2.2.2.2.2.2.2.2.2.1, hG.2.2.2.2.2.2.2.2.2.2.2.2.2.2.2.1, hG.2.2.2.2.2.2.2.2.2.2.2.2.2.2.2.2.1, hG.2.2.2.2.2.2.2.2.2.2.2.2.2.2.2.2.2.1, hG.2.2.2.2.2.2.2.2.2.2.2.2.2.2.2.2.2.2.1, hG.2.2.2.2.2.2.2.2.2.2.2.2.2.2.2.2.2.2.2.1, hG.2.2.2.2.2.2.2.2.2.2.2.2.2.2.2.2.2.2.2.2.1, hG.2.2.2.2.2.2.2.2.2.2.2.2.2.2.2.2.2.2.2.2.2.1, hG.2.2.2.2.2.2.2.2.2.2.2.2.2.2.2.2.2.2.2.2.2.2.1, hG.2.2.2.2.2.2.2.2.2.2.2.2.2.2.2.2.2.2.2.2.2.2.2.1, hG.2.2.2.2.2.2.2.2.2.2.2.2.2.2.2.2.2.2.2.2.2.2.2.2⟩⟩
theorem sx_q_m_zf0_1 {γ : Nat → Int} {A : Nat → Nat → Int} {x : Int} (hG : sx_G0 γ A) (f0 : 0 ≤ 0 + ((-1) * γ 18439 + 0)) (f1 : 0 ≤ (-1) + (1 * γ 18446 + 0)) : ∃ a ∈ sx_r_m_zf0.2, ∃ w : Nat → Int, (∀ (i : Nat) p, a.1[i]? = some p → p.2.1 ≤ w i ∧ w i ≤ p.2.2) ∧ (∀ f ∈ a.2.1, 0 ≤ sx_d (sx_th γ x 0 w) f) ∧ sx_G0 (sx_gu γ (sx_th γ x 0 w) a.2.2.1) A := ⟨([], [(0, [(18439, (-1))]), ((-1), [(18446, 1)])], [], []), List.Mem.tail _ (List.Mem.head _), (fun _ => 0), fun i p hi => (by
    match i, hi with
    | n + 0, hi => simp at hi), fun f hf => (by
    simp only [List.mem_cons, List.not_mem_nil, or_false] at hf
    rcases hf with rfl | rfl
    · exact f0
    · exact f1
    ), ⟨hG.1, hG.2.1, hG.2.2.1, hG.2.2.2.1, hG.2.2.2.2.1, hG.2.2.2.2.2.1, hG.2.2.2.2.2.2.1, hG.2.2.2.2.2.2.2.1, hG.2.2.2.2.2.2.2.2.1, hG.2.2.2.2.2.2.2.2.2.1, hG.2.2.2.2.2.2.2.2.2.2.1, hG.2.2.2.2.2.2.2.2.2.2.2.1, hG.2.2.2.2.2.2.2.2.2.2.2.2.1, hG.2.2.2.2.2.2.2.2.2.2.2.2.2.1, hG.2.2.2.2.2.2.2.2.2.2.2.2.2.2.1, hG.2.2.2.2.2.2.2.2.2.2.2.2.2.2.2.1, hG.2.2.2.2.2.2.2.2.2.2.2.2.2.2.2.2.1, hG.2.2.2.2.2.2.2.2.2.2.2.2.2.2.2.2.2.1, hG.2.2.2.2.2.2.2.2.2.2.2.2.2.2.2.2.2.2.1, hG.2.2.2.2.2.2.2.2.2.2.2.2.2.2.2.2.2.2.2.1, hG.2.2.2.2.2.2.2.2.2.2.2.2.2.2.2.2.2.2.2.2.1, hG.2.2.2.2.2.2.2.2.2.2.2.2.2.2.2.2.2.2.2.2.2.1, hG.2.2.2.2.2.2.2.2.2.2.2.2.2.2.2.2.2.2.2.2.2.2.1, hG.2.2.2.2.2.2.2.2.2.2.2.2.2.2.2.2.2.2.2.2.2.2.2.1, hG.2.2.2.2.2.2.2.2.2.2.2.2.2.2.2.2.2.2.2.2.2.2.2.2⟩⟩
theorem sx_q_m_zf0_2 {γ : Nat → Int} {A : Nat → Nat → Int} {x : Int} (hG : sx_G0 γ A) (f0 : 0 ≤ (-1) + (1 * γ 18439 + 0)) (f1 : 0 ≤ 0 + ((-1) * γ 18446 + 0)) : ∃ a ∈ sx_r_m_zf0.2, ∃ w : Nat → Int, (∀ (i : Nat) p, a.1[i]? = some p → p.2.1 ≤ w i ∧ w i ≤ p.2.2) ∧ (∀ f ∈ a.2.1, 0 ≤ sx_d (sx_th γ x 0 w) f) ∧ sx_G0 (sx_gu γ (sx_th γ x 0 w) a.2.2.1) A := ⟨([], [((-1), [(18439, 1)]), (0, [(18446, (-1))])], [], []), List.Mem.tail _ (List.Mem.tail _ (List.Mem.head _)), (fun _ => 0), fun i p hi => (by
    match i, hi with
    | n + 0, hi => simp at hi), fun f hf => (by
    simp only [List.mem_cons, List.not_mem_nil, or_false] at hf
    rcases hf with rfl | rfl
    · exact f0
    · exact f1
    ), ⟨hG.1, hG.2.1, hG.2.2.1, hG.2.2.2.1, hG.2.2.2.2.1, hG.2.2.2.2.2.1, hG.2.2.2.2.2.2.1, hG.2.2.2.2.2.2.2.1, hG.2.2.2.2.2.2.2.2.1, hG.2.2.2.2.2.2.2.2.2.1, hG.2.2.2.2.2.2.2.2.2.2.1, hG.2.2.2.2.2.2.2.2.2.2.2.1, hG.2.2.2.2.2.2.2.2.2.2.2.2.1, hG.2.2.2.2.2.2.2.2.2.2.2.2.2.1, hG.2.2.2.2.2.2.2.2.2.2.2.2.2.2.1, hG.2.2.2.2.2.2.2.2.2.2.2.2.2.2.2.1, hG.2.2.2.2.2.2.2.2.2.2.2.2.2.2.2.2.1, hG.2.2.2.2.2.2.2.2.2.2.2.2.2.2.2.2.2.1, hG.2.2.2.2.2.2.2.2.2.2.2.2.2.2.2.2.2.2.1, hG.2.2.2.2.2.2.2.2.2.2.2.2.2.2.2.2.2.2.2.1, hG.2.2.2.2.2.2.2.2.2.2.2.2.2.2.2.2.2.2.2.2.1, hG.2.2.2.2.2.2.2.2.2.2.2.2.2.2.2.2.2.2.2.2.2.1, hG.2.2.2.2.2.2.2.2.2.2.2.2.2.2.2.2.2.2.2.2.2.2.1, hG.2.2.2.2.2.2.2.2.2.2.2.2.2.2.2.2.2.2.2.2.2.2.2.1, hG.2.2.2.2.2.2.2.2.2.2.2.2.2.2.2.2.2.2.2.2.2.2.2.2⟩⟩
theorem sx_q_m_zf0_3 {γ : Nat → Int} {A : Nat → Nat → Int} {x : Int} (hG : sx_G0 γ A) (f0 : 0 ≤ (-1) + (1 * γ 18439 + 0)) (f1 : 0 ≤ (-1) + (1 * γ 18446 + 0)) : ∃ a ∈ sx_r_m_zf0.2, ∃ w : Nat → Int, (∀ (i : Nat) p, a.1[i]? = some p → p.2.1 ≤ w i ∧ w i ≤ p.2.2) ∧ (∀ f ∈ a.2.1, 0 ≤ sx_d (sx_th γ x 0 w) f) ∧ sx_G0 (sx_gu γ (sx_th γ x 0 w) a.2.2.1) A := ⟨([], [((-1), [(18439, 1)]), ((-1), [(18446, 1)])], [], []), List.Mem.tail _ (List.Mem.tail _ (List.Mem.tail _ (List.Mem.head _))), (fun _ => 0), fun i p hi => (by
    match i, hi with
    | n + 0, hi => simp at hi), fun f hf => (by
    simp only [List.mem_cons, List.not_mem_nil, or_false] at hf
    rcases hf with rfl | rfl
    · exact f0
    · exact f1
    ), ⟨hG.1, hG.2.1, hG.2.2.1, hG.2.2.2.1, hG.2.2.2.2.1, hG.2.2.2.2.2.1, hG.2.2.2.2.2.2.1, hG.2.2.2.2.2.2.2.1, hG.2.2.2.2.2.2.2.2.1, hG.2.2.2.2.2.2.2.2.2.1, hG.2.2.2.2.2.2.2.2.2.2.1, hG.2.2.2.2.2.2.2.2.2.2.2.1, hG.2.2.2.2.2.2.2.2.2.2.2.2.1, hG.2.2.2.2.2.2.2.2.2.2.2.2.2.1, hG.2.2.2.2.2.2.2.2.2.2.2.2.2.2.1, hG.2.2.2.2.2.2.2.2.2.2.2.2.2.2.2.1, hG.2.2.2.2.2.2.2.2.2.2.2.2.2.2.2.2.1, hG.2.2.2.2.2.2.2.2.2.2.2.2.2.2.2.2.2.1, hG.2.2.2.2.2.2.2.2.2.2.2.2.2.2.2.2.2.2.1, hG.2.2.2.2.2.2.2.2.2.2.2.2.2.2.2.2.2.2.2.1, hG.2.2.2.2.2.2.2.2.2.2.2.2.2.2.2.2.2.2.2.2.1, hG.2.2.2.2.2.2.2.2.2.2.2.2.2.2.2.2.2.2.2.2.2.1, hG.2.2.2.2.2.2.2.2.2.2.2.2.2.2.2.2.2.2.2.2.2.2.1, hG.2.2.2.2.2.2.2.2.2.2.2.2.2.2.2.2.2.2.2.2.2.2.2.1, hG.2.2.2.2.2.2.2.2.2.2.2.2.2.2.2.2.2.2.2.2.2.2.2.2⟩⟩
theorem sx_q_m_zf1_0 {γ : Nat → Int} {A : Nat → Nat → Int} {x : Int} (hG : sx_G0 γ A) (f0 : 0 ≤ 0 + ((-1) * γ 18440 + 0)) (f1 : 0 ≤ 0 + ((-1) * γ 18447 + 0)) : ∃ a ∈ sx_r_m_zf1.2, ∃ w : Nat → Int, (∀ (i : Nat) p, a.1[i]? = some p → p.2.1 ≤ w i ∧ w i ≤ p.2.2) ∧ (∀ f ∈ a.2.1, 0 ≤ sx_d (sx_th γ x 0 w) f) ∧ sx_G0 (sx_gu γ (sx_th γ x 0 w) a.2.2.1) A := ⟨([], [(0, [(18440, (-1))]), (0, [(18447, (-1))])], [], []), List.Mem.head _, (fun _ => 0), fun i p hi => (by
    match i, hi with
    | n + 0, hi => simp at hi), fun f hf => (by
    simp only [List.mem_cons, List.not_mem_nil, or_false] at hf
    rcases hf with rfl | rfl
    · exact f0
    · exact f1
    ), ⟨hG.1, hG.2.1, hG.2.2.1, hG.2.2.2.1, hG.2.2.2.2.1, hG.2.2.2.2.2.1, hG.2.2.2.2.2.2.1, hG.2.2.2.2.2.2.2.1, hG.2.2.2.2.2.2.2.2.1, hG.2.2.2.2.2.2.2.2.2.1, hG.2.2.2.2.2.2.2.2.2.2.1, hG.2.2.2.2.2.2.2.2.2.2.2.1, hG.2.2.2.2.2.2.2.2.2.2.2.2.1, hG.2.2.2.2.2.2.2.2.2.2.2.2.2.1, hG.2.2.2.2.2.2.2.2.2.2.2.2.2.2.1, hG.2.2.2.2.2.2.2.2.2.2.2.2.2.2.2.1, hG.2.2.2.2.2.2.2.2.2.2.2.2.2.2.2.2.1, hG.2.2.2.2.2.2.2.2.2.2.2.2.2.2.2.2.2.1, hG.2.2.2.2.2.2.2.2.2.2.2.2.2.2.2.2.2.2.1, hG.2.2.2.2.2.2.2.2.2.2.2.2.2.2.2.2.2.2.2.1, hG.2.2.2.2.2.2.2.2.2.2.2.2.2.2.2.2.2.2.2.2.1, hG.2.2.2.2.2.2.2.2.2.2.2.2.2.2.2.2.2.2.2.2.2.1, hG.2.2.2.2.2.2.2.2.2.2.2.2.2.2.2.2.2.2.2.2.2.2.1, hG.2.2.2.2.2.2.2.2.2.2.2.2.2.2.2.2.2.2.2.2.2.2.2.1, hG.2.2.2.2.2.2.2.2.2.2.2.2.2.2.2.2.2.2.2.2.2.2.2.2⟩⟩
theorem sx_q_m_zf1_1 {γ : Nat → Int} {A : Nat → Nat → Int} {x : Int} (hG : sx_G0 γ A) (f0 : 0 ≤ 0 + ((-1) * γ 18440 + 0)) (f1 : 0 ≤ (-1) + (1 * γ 18447 + 0)) : ∃ a ∈ sx_r_m_zf1.2, ∃ w : Nat → Int, (∀ (i : Nat) p, a.1[i]? = some p → p.2.1 ≤ w i ∧ w i ≤ p.2.2) ∧ (∀ f ∈ a.2.1, 0 ≤ sx_d (sx_th γ x 0 w) f) ∧ sx_G0 (sx_gu γ (sx_th γ x 0 w) a.2.2.1) A := ⟨([], [(0, [(18440, (-1))]), ((-1), [(18447, 1)])], [], []), List.Mem.tail _ (List.Mem.head _), (fun _ => 0), fun i p hi => (by
    match i, hi with
    | n + 0, hi => simp at hi), fun f hf => (by
    simp only [List.mem_cons, List.not_mem_nil, or_false] at hf
    rcases hf with rfl | rfl
    · exact f0
    · exact f1
    ), ⟨hG.1, hG.2.1, hG.2.2.1, hG.2.2.2.1, hG.2.2.2.2.1, hG.2.2.2.2.2.1, hG.2.2.2.2.2.2.1, hG.2.2.2.2.2.2.2.1, hG.2.2.2.2.2.2.2.2.1, hG.2.2.2.2.2.2.2.2.2.1, hG.2.2.2.2.2.2.2.2.2.2.1, hG.2.2.2.2.2.2.2.2.2.2.2.1, hG.2.2.2.2.2.2.2.2.2.2.2.2.1, hG.2.2.2.2.2.2.2.2.2.2.2.2.2.1, hG.2.2.2.2.2.2.2.2.2.2.2.2.2.2.1, hG.2.2.2.2.2.2.2.2.2.2.2.2.2.2.2.1, hG.2.2.2.2.2.2.2.2.2.2.2.2.2.2.2.2.1, hG.2.2.2.2.2.2.2.2.2.2.2.2.2.2.2.2.2.1, hG.2.2.2.2.2.2.2.2.2.2.2.2.2.2.2.2.2.2.1, hG.2.2.2.2.2.2.2.2.2.2.2.2.2.2.2.2.2.2.2.1, hG.2.2.2.2.2.2.2.2.2.2.2.2.2.2.2.2.2.2.2.2.1, hG.2.2.2.2.2.2.2.2.2.2.2.2.2.2.2.2.2.2.2.2.2.1, hG.2.2.2.2.2.2.2.2.2.2.2.2.2.2.2.2.2.2.2.2.2.2.1, hG.2.2.2.2.2.2.2.2.2.2.2.2.2.2.2.2.2.2.2.2.2.2.2.1, hG.2.2.2.2.2.2.2.2.2.2.2.2.2.2.2.2.2.2.2.2.2.2.2.2⟩⟩
theorem sx_q_m_zf1_2 {γ : Nat → Int} {A : Nat → Nat → Int} {x : Int} (hG : sx_G0 γ A) (f0 : 0 ≤ (-1) + (1 * γ 18440 + 0)) (f1 : 0 ≤ 0 + ((-1) * γ 18447 + 0)) : ∃ a ∈ sx_r_m_zf1.2, ∃ w : Nat → Int, (∀ (i : Nat) p, a.1[i]? = some p → p.2.1 ≤ w i ∧ w i ≤ p.2.2) ∧ (∀ f ∈ a.2.1, 0 ≤ sx_d (sx_th γ x 0 w) f) ∧ sx_G0 (sx_gu γ (sx_th γ x 0 w) a.2.2.1) A := ⟨([], [((-1), [(18440, 1)]), (0, [(18447, (-1))])], [], []), List.Mem.tail _ (List.Mem.tail _ (List.Mem.head _)), (fun _ => 0), fun i p hi => (by
    match i, hi with
    | n + 0, hi => simp at hi), fun f hf => (by
    simp only [List.mem_cons, List.not_mem_nil, or_false] at hf
    rcases hf with rfl | rfl
    · exact f0
    · exact f1
    ), ⟨hG.1, hG.2.1, hG.2.2.1, hG.2.2.2.1, hG.2.2.2.2.1, hG.2.2.2.2.2.1, hG.2.2.2.2.2.2.1, hG.2.2.2.2.2.2.2.1, hG.2.2.2.2.2.2.2.2.1, hG.2.2.2.2.2.2.2.2.2.1, hG.2.2.2.2.2.2.2.2.2.2.1, hG.2.2.2.2.2.2.2.2.2.2.2.1, hG.2.2.2.2.2.2.2.2.2.2.2.2.1, hG.2.2.2.2.2.2.2.2.2.2.2.2.2.1, hG.2.2.2.2.2.2.2.2.2.2.2.2.2.2.1, hG.2.2.2.2.2.2.2.2.2.2.2.2.2.2.2.1, hG.2.2.2.2.2.2.2.2.2.2.2.2.2.2.2.2.1, hG.2.2.2.2.2.2.2.2.2.2.2.2.2.2.2.2.2.1, hG.2.2.2.2.2.2.2.2.2.2.2.2.2.2.2.2.2.2.1, hG.2.2.2.2.2.2.2.2.2.2.2.2.2.2.2.2.2.2.2.1, hG.2.2.2.2.2.2.2.2.2.2.2.2.2.2.2.2.2.2.2.2.1, hG.2.2.2.2.2.2.2.2.2.2.2.2.2.2.2.2.2.2.2.2.2.1, hG.2.2.2.2.2.2.2.2.2.2.2.2.2.2.2.2.2.2.2.2.2.2.1, hG.2.2.2.2.2.2.2.2.2.2.2.2.2.2.2.2.2.2.2.2.2.2.2.1, hG.2.2.2.2.2.2.2.2.2.2.2.2.2.2.2.2.2.2.2.2.2.2.2.2⟩⟩
theorem sx_q_m_zf1_3 {γ : Nat → Int} {A : Nat → Nat → Int} {x : Int} (hG : sx_G0 γ A) (f0 : 0 ≤ (-1) + (1 * γ 18440 + 0)) (f1 : 0 ≤ (-1) + (1 * γ 18447 + 0)) : ∃ a ∈ sx_r_m_zf1.2, ∃ w : Nat → Int, (∀ (i : Nat) p, a.1[i]? = some p → p.2.1 ≤ w i ∧ w i ≤ p.2.2) ∧ (∀ f ∈ a.2.1, 0 ≤ sx_d (sx_th γ x 0 w) f) ∧ sx_G0 (sx_gu γ (sx_th γ x 0 w) a.2.2.1) A := ⟨([], [((-1), [(18440, 1)]), ((-1), [(18447, 1)])], [], []), List.Mem.tail _ (List.Mem.tail _ (List.Mem.tail _ (List.Mem.head _))), (fun _ => 0), fun i p hi => (by
    match i, hi with
    | n + 0, hi => simp at hi), fun f hf => (by
    simp only [List.mem_cons, List.not_mem_nil, or_false] at hf
    rcases hf with rfl | rfl
    · exact f0
    · exact f1
    ), ⟨hG.1, hG.2.1, hG.2.2.1, hG.2.2.2.1, hG.2.2.2.2.1, hG.2.2.2.2.2.1, hG.2.2.2.2.2.2.1, hG.2.2.2.2.2.2.2.1, hG.2.2.2.2.2.2.2.2.1, hG.2.2.2.2.2.2.2.2.2.1, hG.2.2.2.2.2.2.2.2.2.2.1, hG.2.2.2.2.2.2.2.2.2.2.2.1, hG.2.2.2.2.2.2.2.2.2.2.2.2.1, hG.2.2.2.2.2.2.2.2.2.2.2.2.2.1, hG.2.2.2.2.2.2.2.2.2.2.2.2.2.2.1, hG.2.2.2.2.2.2.2.2.2.2.2.2.2.2.2.1, hG.2.2.2.2.2.2.2.2.2.2.2.2.2.2.2.2.1, hG.2.2.2.2.2.2.2.2.2.2.2.2.2.2.2.2.2.1, hG.2.2.2.2.2.2.2.2.2.2.2.2.2.2.2.2.2.2.1, hG.2.2.2.2.2.2.2.2.2.2.2.2.2.2.2.2.2.2.2.1, hG.2.2.2.2.2.2.2.2.2.2.2.2.2.2.2.2.2.2.2.2.1, hG.2.2.2.2.2.2.2.2.2.2.2.2.2.2.2.2.2.2.2.2.2.1, hG.2.2.2.2.2.2.2.2.2.2.2.2.2.2.2.2.2.2.2.2.2.2.1, hG.2.2.2.2.2.2.2.2.2.2.2.2.2.2.2.2.2.2.2.2.2.2.2.1, hG.2.2.2.2.2.2.2.2.2.2.2.2.2.2.2.2.2.2.2.2.2.2.2.2⟩⟩
theorem sx_q_m_zf2_0 {γ : Nat → Int} {A : Nat → Nat → Int} {x : Int} (hG : sx_G0 γ A) (f0 : 0 ≤ 0 + ((-1) * γ 18441 + 0)) (f1 : 0 ≤ 0 + ((-1) * γ 18448 + 0)) : ∃ a ∈ sx_r_m_zf2.2, ∃ w : Nat → Int, (∀ (i : Nat) p, a.1[i]? = some p → p.2.1 ≤ w i ∧ w i ≤ p.2.2) ∧ (∀ f ∈ a.2.1, 0 ≤ sx_d (sx_th γ x 0 w) f) ∧ sx_G0 (sx_gu γ (sx_th γ x 0 w) a.2.2.1) A := ⟨([], [(0, [(18441, (-1))]), (0, [(18448, (-1))])], [], []), List.Mem.head _, (fun _ => 0), fun i p hi => (by
    match i, hi with
    | n + 0, hi => simp at hi), fun f hf => (by
    simp only [List.mem_cons, List.not_mem_nil, or_false] at hf
    rcases hf with rfl | rfl
    · exact f0
    · exact f1
    ), ⟨hG.1, hG.2.1, hG.2.2.1, hG.2.2.2.1, hG.2.2.2.2.1, hG.2.2.2.2.2.1, hG.2.2.2.2.2.2.1, hG.2.2.2.2.2.2.2.1, hG.2.2.2.2.2.2.2.2.1, hG.2.2.2.2.2.2.2.2.2.1, hG.2.2.2.2.2.2.2.2.2.2.1, hG.2.2.2.2.2.2.2.2.2.2.2.1, hG.2.2.2.2.2.2.2.2.2.2.2.2.1, hG.2.2.2.2.2.2.2.2.2.2.2.2.2.1, hG.2.2.2.2.2.2.2.2.2.2.2.2.2.2.1, hG.2.2.2.2.2.2.2.2.2.2.2.2.2.2.2.1, hG.2.2.2.2.2.2.2.2.2.2.2.2.2.2.2.2.1, hG.2.2.2.2.2.2.2.2.2.2.2.2.2.2.2.2.2.1, hG.2.2.2.2.2.2.2.2.2.2.2.2.2.2.2.2.2.2.1, hG.2.2.2.2.2.2.2.2.2.2.2.2.2.2.2.2.2.2.2.1, hG.2.2.2.2.2.2.2.2.2.2.2.2.2.2.2.2.2.2.2.2.1, hG.2.2.2.2.2.2.2.2.2.2.2.2.2.2.2.2.2.2.2.2.2.1, hG.2.2.2.2.2.2.2.2.2.2.2.2.2.2.2.2.2.2.2.2.2.2.1, hG.2.2.2.2.2.2.2.2.2.2.2.2.2.2.2.2.2.2.2.2.2.2.2.1, hG.2.2.2.2.2.2.2.2.2.2.2.2.2.2.2.2.2.2.2.2.2.2.2.2⟩⟩
theorem sx_q_m_zf2_1 {γ : Nat → Int} {A : Nat → Nat → Int} {x : Int} (hG : sx_G0 γ A) (f0 : 0 ≤ 0 + ((-1) * γ 18441 + 0)) (f1 : 0 ≤ (-1) + (1 * γ 18448 + 0)) : ∃ a ∈ sx_r_m_zf2.2, ∃ w : Nat → Int, (∀ (i : Nat) p, a.1[i]? = some p → p.2.1 ≤ w i ∧ w i ≤ p.2.2) ∧ (∀ f ∈ a.2.1, 0 ≤ sx_d (sx_th γ x 0 w) f) ∧ sx_G0 (sx_gu γ (sx_th γ x 0 w) a.2.2.1) A := ⟨([], [(0, [(18441, (-1))]), ((-1), [(18448, 1)])], [], []), List.Mem.tail _ (List.Mem.head _), (fun _ => 0), fun i p hi => (by
    match i, hi with
    | n + 0, hi => simp at hi), fun f hf => (by
    simp only [List.mem_cons, List.not_mem_nil, or_false] at hf
    rcases hf with rfl | rfl
    · exact f0
    · exact f1
    ), ⟨hG.1, hG.2.1, hG.2.2.1, hG.2.2.2.1, hG.2.2.2.2.1, hG.2.2.2.2.2.1, hG.2.2.2.2.2.2.1, hG.2.2.2.2.2.2.2.1, hG.2.2.2.2.2.2.2.2.1, hG.2.2.2.2.2.2.2.2.2.1, hG.2.2.2.2.2.2.2.2.2.2.1, hG.2.2.2.2.2.2.2.2.2.2.2.1, hG.2.2.2.2.2.2.2.2.2.2.2.2.1, hG.2.2.2.2.2.2.2.2.2.2.2.2.2.1, hG.2.2.2.2.2.2.2.2.2.2.2.2.2.2.1, hG.2.2.2.2.2.2.2.2.2.2.2.2.2.2.2.1, hG.2.2.2.2.2.2.2.2.2.2.2.2.2.2.2.2.1, hG.2.2.2.2.2.2.2.2.2.2.2.2.2.2.2.2.2.1, hG.2.2.2.2.2.2.2.2.2.2.2.2.2.2.2.2.2.2.1, hG.2.2.2.2.2.2.2.2.2.2.2.2.2.2.2.2.2.2.2.1, hG.2.2.2.2.2.2.2.2.2.2.2.2.2.2.2.2.2.2.2.2.1, hG.2.2.2.2.2.2.2.2.2.2.2.2.2.2.2.2.2.2.2.2.2.1, hG.2.2.2.2.2.2.2.2.2.2.2.2.2.2.2.2.2.2.2.2.2.2.1, hG.2.2.2.2.2.2.2.2.2.2.2.2.2.2.2.2.2.2.2.2.2.2.2.1, hG.2.2.2.2.2.2.2.2.2.2.2.2.2.2.2.2.2.2.2.2.2.2.2.2⟩⟩
theorem sx_q_m_zf2_2 {γ : Nat → Int} {A : Nat → Nat → Int} {x : Int} (hG : sx_G0 γ A) (f0 : 0 ≤ (-1) + (1 * γ 18441 + 0)) (f1 : 0 ≤ 0 + ((-1) * γ 18448 + 0)) : ∃ a ∈ sx_r_m_zf2.2, ∃ w : Nat → Int, (∀ (i : Nat) p, a.1[i]? = some p → p.2.1 ≤ w i ∧ w i ≤ p.2.2) ∧ (∀ f ∈ a.2.1, 0 ≤ sx_d (sx_th γ x 0 w) f) ∧ sx_G0 (sx_gu γ (sx_th γ x 0 w) a.2.2.1) A := ⟨([], [((-1), [(18441, 1)]), (0, [(18448, (-1))])], [], []), List.Mem.tail _ (List.Mem.tail _ (List.Mem.head _)), (fun _ => 0), fun i p hi => (by
    match i, hi with
    | n + 0, hi => simp at hi), fun f hf => (by
    simp only [List.mem_cons, List.not_mem_nil, or_false] at hf
    rcases hf with rfl | rfl
    · exact f0
    · exact f1
    ), ⟨hG.1, hG.2.1, hG.2.2.1, hG.2.2.2.1, hG.2.2.2.2.1, hG.2.2.2.2.2.1, hG.2.2.2.2.2.2.1, hG.2.2.2.2.2.2.2.1, hG.2.2.2.2.2.2.2.2.1, hG.2.2.2.2.2.2.2.2.2.1, hG.2.2.2.2.2.2.2.2.2.2.1, hG.2.2.2.2.2.2.2.2.2.2.2.1, hG.2.2.2.2.2.2.2.2.2.2.2.2.1, hG.2.2.2.2.2.2.2.2.2.2.2.2.2.1, hG.2.2.2.2.2.2.2.2.2.2.2.2.2.2.1, hG.2.2.2.2.2.2.2.2.2.2.2.2.2.2.2.1, hG.2.2.2.2.2.2.2.2.2.2.2.2.2.2.2.2.1, hG.2.2.2.2.2.2.2.2.2.2.2.2.2.2.2.2.2.1, hG.2.2.2.2.2.2.2.2.2.2.2.2.2.2.2.2.2.2.1, hG.2.2.2.2.2.2.2.2.2.2.2.2.2.2.2.2.2.2.2.1, hG.2.2.2.2.2.2.2.2.2.2.2.2.2.2.2.2.2.2.2.2.1, hG.2.2.2.2.2.2.2.2.2.2.2.2.2.2.2.2.2.2.2.2.2.1, hG.2.2.2.2.2.2.2.2.2.2.2.2.2.2.2.2.2.2.2.2.2.2.1, hG.2.2.2.2.2.2.2.2.2.2.2.2.2.2.2.2.2.2.2.2.2.2.2.1, hG.2.2.2.2.2.2.2.2.2.2.2.2.2.2.2.2.2.2.2.2.2.2.2.2⟩⟩
theorem sx_q_m_zf2_3 {γ : Nat → Int} {A : Nat → Nat → Int} {x : Int} (hG : sx_G0 γ A) (f0 : 0 ≤ (-1) + (1 * γ 18441 + 0)) (f1 : 0 ≤ (-1) + (1 * γ 18448 + 0)) : ∃ a ∈ sx_r_m_zf2.2, ∃ w : Nat → Int, (∀ (i : Nat) p, a.1[i]? = some p → p.2.1 ≤ w i ∧ w i ≤ p.2.2) ∧ (∀ f ∈ a.2.1, 0 ≤ sx_d (sx_th γ x 0 w) f) ∧ sx_G0 (sx_gu γ (sx_th γ x 0 w) a.2.2.1) A := ⟨([], [((-1), [(18441, 1)]), ((-1), [(18448, 1)])], [], []), List.Mem.tail _ (List.Mem.tail _ (List.Mem.tail _ (List.Mem.head _))), (fun _ => 0), fun i p hi => (by
    match i, hi with
    | n + 0, hi => simp at hi), fun f hf => (by
    simp only [List.mem_cons, List.not_mem_nil, or_false] at hf
    rcases hf with rfl | rfl
    · exact f0
    · exact f1
    ), ⟨hG.1, hG.2.1, hG.2.2.1, hG.2.2.2.1, hG.2.2.2.2.1, hG.2.2.2.2.2.1, hG.2.2.2.2.2.2.1, hG.2.2.2.2.2.2.2.1, hG.2.2.2.2.2.2.2.2.1, hG.2.2.2.2.2.2.2.2.2.1, hG.2.2.2.2.2.2.2.2.2.2.1, hG.2.2.2.2.2.2.2.2.2.2.2.1, hG.2.2.2.2.2.2.2.2.2.2.2.2.1, hG.2.2.2.2.2.2.2.2.2.2.2.2.2.1, hG.2.2.2.2.2.2.2.2.2.2.2.2.2.2.1, hG.2.2.2.2.2.2.2.2.2.2.2.2.2.2.2.1, hG.2.2.2.2.2.2.2.2.2.2.2.2.2.2.2.2.1, hG.2.2.2.2.2.2.2.2.2.2.2.2.2.2.2.2.2.1, hG.2.2.2.2.2.2.2.2.2.2.2.2.2.2.2.2.2.2.1, hG.2.2.2.2.2.2.2.2.2.2.2.2.2.2.2.2.2.2.2.1, hG.2.2.2.2.2.2.2.2.2.2.2.2.2.2.2.2.2.2.2.2.1, hG.2.2.2.2.2.2.2.2.2.2.2.2.2.2.2.2.2.2.2.2.2.1, hG.2.2.2.2.2.2.2.2.2.2.2.2.2.2.2.2.2.2.2.2.2.2.1, hG.2.2.2.2.2.2.2.2.2.2.2.2.2.2.2.2.2.2.2.2.2.2.2.1, hG.2.2.2.2.2.2.2.2.2.2.2.2.2.2.2.2.2.2.2.2.2.2.2.2⟩⟩
theorem sx_q_m_zf3_0 {γ : Nat → Int} {A : Nat → Nat → Int} {x : Int} (hG : sx_G0 γ A) (f0 : 0 ≤ 0 + ((-1) * γ 18442 + 0)) (f1 : 0 ≤ 0 + ((-1) * γ 18449 + 0)) : ∃ a ∈ sx_r_m_zf3.2, ∃ w : Nat → Int, (∀ (i : Nat) p, a.1[i]? = some p → p.2.1 ≤ w i ∧ w i ≤ p.2.2) ∧ (∀ f ∈ a.2.1, 0 ≤ sx_d (sx_th γ x 0 w) f) ∧ sx_G0 (sx_gu γ (sx_th γ x 0 w) a.2.2.1) A := ⟨([], [(0, [(18442, (-1))]), (0, [(18449, (-1))])], [], []), List.Mem.head _, (fun _ => 0), fun i p hi => (by
    match i, hi with
    | n + 0, hi => simp at hi), fun f hf => (by
    simp only [List.mem_cons, List.not_mem_nil, or_false] at hf
    rcases hf with rfl | rfl
    · exact f0
    · exact f1
    ), ⟨hG.1, hG.2.1, hG.2.2.1, hG.2.2.2.1, hG.2.2.2.2.1, hG.2.2.2.2.2.1, hG.2.2.2.2.2.2.1, hG.2.2.2.2.2.2.2.1, hG.2.2.2.2.2.2.2.2.1, hG.2.2.2.2.2.2.2.2.2.1, hG.2.2.2.2.2.2.2.2.2.2.1, hG.2.2.2.2.2.2.2.2.2.2.2.1, hG.2.2.2.2.2.2.2.2.2.2.2.2.1, hG.2.2.2.2.2.2.2.2.2.2.2.2.2.1, hG.2.2.2.2.2.2.2.2.2.2.2.2.2.2.1, hG.2.2.2.2.2.2.2.2.2.2.2.2.2.2.2.1, hG.2.2.2.2.2.2.2.2.2.2.2.2.2.2.2.2.1, hG.2.2.2.2.2.2.2.2.2.2.2.2.2.2.2.2.2.1, hG.2.2.2.2.2.2.2.2.2.2.2.2.2.2.2.2.2.2.1, hG.2.2.2.2.2.2.2.2.2.2.2.2.2.2.2.2.2.2.2.1, hG.2.2.2.2.2.2.2.2.2.2.2.2.2.2.2.2.2.2.2.2.1, hG.2.2.2.2.2.2.2.2.2.2.2.2.2.2.2.2.2.2.2.2.2.1, hG.2.2.2.2.2.2.2.2.2.2.2.2.2.2.2.2.2.2.2.2.2.2.1, hG.2.2.2.2.2.2.2.2.2.2.2.2.2.2.2.2.2.2.2.2.2.2.2.1, hG.2.2.2.2.2.2.2.2.2.2.2.2.2.2.2.2.2.2.2.2.2.2.2.2⟩⟩
theorem sx_q_m_zf3_1 {γ : Nat → Int} {A : Nat → Nat → Int} {x : Int} (hG : sx_G0 γ A) (f0 : 0 ≤ 0 + ((-1) * γ 18442 + 0)) (f1 : 0 ≤ (-1) + (1 * γ 18449 + 0)) : ∃ a ∈ sx_r_m_zf3.2, ∃ w : Nat → Int, (∀ (i : Nat) p, a.1[i]? = some p → p.2.1 ≤ w i ∧ w i ≤ p.2.2) ∧ (∀ f ∈ a.2.1, 0 ≤ sx_d (sx_th γ x 0 w) f) ∧ sx_G0 (sx_gu γ (sx_th γ x 0 w) a.2.2.1) A := ⟨([], [(0, [(18442, (-1))]), ((-1), [(18449, 1)])], [], []), List.Mem.tail _ (List.Mem.head _), (fun _ => 0), fun i p hi => (by
    match i, hi with
    | n + 0, hi => simp at hi), fun f hf => (by
    simp only [List.mem_cons, List.not_mem_nil, or_false] at hf
    rcases hf with rfl | rfl
    · exact f0
    · exact f1
    ), ⟨hG.1, hG.2.1, hG.2.2.1, hG.2.2.2.1, hG.2.2.2.2.1, hG.2.2.2.2.2.1, hG.2.2.2.2.2.2.1, hG.2.2.2.2.2.2.2.1, hG.2.2.2.2.2.2.2.2.1, hG.2.2.2.2.2.2.2.2.2.1, hG.2.2.2.2.2.2.2.2.2.2.1, hG.2.2.2.2.2.2.2.2.2.2.2.1, hG.2.2.2.2.2.2.2.2.2.2.2.2.1, hG.2.2.2.2.2.2.2.2.2.2.2.2.2.1, hG.2.2.2.2.2.2.2.2.2.2.2.2.2.2.1, hG.2.2.2.2.2.2.2.2.2.2.2.2.2.2.2.1, hG.2.2.2.2.2.2.2.2.2.2.2.2.2.2.2.2.1, hG.2.2.2.2.2.2.2.2.2.2.2.2.2.2.2.2.2.1, hG.2.2.2.2.2.2.2.2.2.2.2.2.2.2.2.2.2.2.1, hG.2.2.2.2.2.2.2.2.2.2.2.2.2.2.2.2.2.2.2.1, hG.2.2.2.2.2.2.2.2.2.2.2.2.2.2.2.2.2.2.2.2.1, hG.2.2.2.2.2.2.2.2.2.2.2.2.2.2.2.2.2.2.2.2.2.1, hG.2.2.2.2.2.2.2.2.2.2.2.2.2.2.2.2.2.2.2.2.2.2.1, hG.2.2.2.2.2.2.2.2.2.2.2.2.2.2.2.2.2.2.2.2.2.2.2.1, hG.2.2.2.2.2.2.2.2.2.2.2.2.2.2.2.2.2.2.2.2.2.2.2.2⟩⟩
theorem sx_q_m_zf3_2 {γ : Nat → Int} {A : Nat → Nat → Int} {x : Int} (hG : sx_G0 γ A) (f0 : 0 ≤ (-1) + (1 * γ 18442 + 0)) (f1 : 0 ≤ 0 + ((-1) * γ 18449 + 0)) : ∃ a ∈ sx_r_m_zf3.2, ∃ w : Nat → Int, (∀ (i : Nat) p, a.1[i]? = some p → p.2.1 ≤ w i ∧ w i ≤ p.2.2) ∧ (∀ f ∈ a.2.1, 0 ≤ sx_d (sx_th γ x 0 w) f) ∧ sx_G0 (sx_gu γ (sx_th γ x 0 w) a.2.2.1) A := ⟨([], [((-1), [(18442, 1)]), (0, [(18449, (-1))])], [], []), List.Mem.tail _ (List.Mem.tail _ (List.Mem.head _)), (fun _ => 0), fun i p hi => (by
    match i, hi with
    | n + 0, hi => simp at hi), fun f hf => (by
    simp only [List.mem_cons, List.not_mem_nil, or_false] at hf
    rcases hf with rfl | rfl
    · exact f0
    · exact f1
    ), ⟨hG.1, hG.2.1, hG.2.2.1, hG.2.2.2.1, hG.2.2.2.2.1, hG.2.2.2.2.2.1, hG.2.2.2.2.2.2.1, hG.2.2.2.2.2.2.2.1, hG.2.2.2.2.2.2.2.2.1, hG.2.2.2.2.2.2.2.2.2.1, hG.2.2.2.2.2.2.2.2.2.2.1, hG.2.2.2.2.2.2.2.2.2.2.2.1, hG.2.2.2.2.2.2.2.2.2.2.2.2.1, hG.2.2.2.2.2.2.2.2.2.2.2.2.2.1, hG.2.2.2.2.2.2.2.2.2.2.2.2.2.2.1, hG.2.2.2.2.2.2.2.2.2.2.2.2.2.2.2.1, hG.2.2.2.2.2.2.2.2.2.2.2.2.2.2.2.2.1, hG.2.2.2.2.2.2.2.2.2.2.2.2.2.2.2.2.2.1, hG.2.2.2.2.2.2.2.2.2.2.2.2.2.2.2.2.2.2.1, hG.2.2.2.2.2.2.2.2.2.2.2.2.2.2.2.2.2.2.2.1, hG.2.2.2.2.2.2.2.2.2.2.2.2.2.2.2.2.2.2.2.2.1, hG.2.2.2.2.2.2.2.2.2.2.2.2.2.2.2.2.2.2.2.2.2.1, hG.2.2.2.2.2.2.2.2.2.2.2.2.2.2.2.2.2.2.2.2.2.2.1, hG.2.2.2.2.2.2.2.2.2.2.2.2.2.2.2.2.2.2.2.2.2.2.2.1, hG.2.2.2.2.2.2.2.2.2.2.2.2.2.2.2.2.2.2.2.2.2.2.2.2⟩⟩
theorem sx_q_m_zf3_3 {γ : Nat → Int} {A : Nat → Nat → Int} {x : Int} (hG : sx_G0 γ A) (f0 : 0 ≤ (-1) + (1 * γ 18442 + 0)) (f1 : 0 ≤ (-1) + (1 * γ 18449 + 0)) : ∃ a ∈ sx_r_m_zf3.2, ∃ w : Nat → Int, (∀ (i : Nat) p, a.1[i]? = some p → p.2.1 ≤ w i ∧ w i ≤ p.2.2) ∧ (∀ f ∈ a.2.1, 0 ≤ sx_d (sx_th γ x 0 w) f) ∧ sx_G0 (sx_gu γ (sx_th γ x 0 w) a.2.2.1) A := ⟨([], [((-1), [(18442, 1)]), ((-1), [(18449, 1)])], [], []), List.Mem.tail _ (List.Mem.tail _ (List.Mem.tail _ (List.Mem.head _))), (fun _ => 0), fun i p hi => (by
    match i, hi with
    | n + 0, hi => simp at hi), fun f hf => (by
    simp only [List.mem_cons, List.not_mem_nil, or_false] at hf
    rcases hf with rfl | rfl
    · exact f0
    · exact f1
    ), ⟨hG.1, hG.2.1, hG.2.2.1, hG.2.2.2.1, hG.2.2.2.2.1, hG.2.2.2.2.2.1, hG.2.2.2.2.2.2.1, hG.2.2.2.2.2.2.2.1, hG.2.2.2.2.2.2.2.2.1, hG.2.2.2.2.2.2.2.2.2.1, hG.2.2.2.2.2.2.2.2.2.2.1, hG.2.2.2.2.2.2.2.2.2.2.2.1, hG.2.2.2.2.2.2.2.2.2.2.2.2.1, hG.2.2.2.2.2.2.2.2.2.2.2.2.2.1, hG.2.2.2.2.2.2.2.2.2.2.2.2.2.2.1, hG.2.2.2.2.2.2.2.2.2.2.2.2.2.2.2.1, hG.2.2.2.2.2.2.2.2.2.2.2.2.2.2.2.2.1, hG.2.2.2.2.2.2.2.2.2.2.2.2.2.2.2.2.2.1, hG.2.2.2.2.2.2.2.2.2.2.2.2.2.2.2.2.2.2.1, hG.2.2.2.2.2.2.2.2.2.2.2.2.2.2.2.2.2.2.2.1, hG.2.2.2.2.2.2.2.2.2.2.2.2.2.2.2.2.2.2.2.2.1, hG.2.2.2.2.2.2.2.2.2.2.2.2.2.2.2.2.2.2.2.2.2.1, hG.2.2.2.2.2.2.2.2.2.2.2.2.2.2.2.2.2.2.2.2.2.2.1, hG.2.2.2.2.2.2.2.2.2.2.2.2.2.2.2.2.2.2.2.2.2.2.2.1, hG.2.2.2.2.2.2.2.2.2.2.2.2.2.2.2.2.2.2.2.2.2.2.2.2⟩⟩
theorem sx_q_m_zf4_0 {γ : Nat → Int} {A : Nat → Nat → Int} {x : Int} (hG : sx_G0 γ A) (f0 : 0 ≤ 0 + ((-1) * γ 18443 + 0)) (f1 : 0 ≤ 0 + ((-1) * γ 18450 + 0)) : ∃ a ∈ sx_r_m_zf4.2, ∃ w : Nat → Int, (∀ (i : Nat) p, a.1[i]? = some p → p.2.1 ≤ w i ∧ w i ≤ p.2.2) ∧ (∀ f ∈ a.2.1, 0 ≤ sx_d (sx_th γ x 0 w) f) ∧ sx_G0 (sx_gu γ (sx_th γ x 0 w) a.2.2.1) A := ⟨([], [(0, [(18443, (-1))]), (0, [(18450, (-1))])], [], []), List.Mem.head _, (fun _ => 0), fun i p hi => (by
    match i, hi with
    | n + 0, hi => simp at hi), fun f hf => (by
    simp only [List.mem_cons, List.not_mem_nil, or_false] at hf
    rcases hf with rfl | rfl
    · exact f0
    · exact f1
    ), ⟨hG.1, hG.2.1, hG.2.2.1, hG.2.2.2.1, hG.2.2.2.2.1, hG.2.2.2.2.2.1, hG.2.2.2.2.2.2.1, hG.2.2.2.2.2.2.2.1, hG.2.2.2.2.2.2.2.2.1, hG.2.2.2.2.2.2.2.2.2.1, hG.2.2.2.2.2.2.2.2.2.2.1, hG.2.2.2.2.2.2.2.2.2.2.2.1, hG.2.2.2.2.2.2.2.2.2.2.2.2.1, hG.2.2.2.2.2.2.2.2.2.2.2.2.2.1, hG.2.2.2.2.2.2.2.2.2.2.2.2.2.2.1, hG.2.2.2.2.2.2.2.2.2.2.2.2.2.2.2.1, hG.2.2.2.2.2.2.2.2.2.2.2.2.2.2.2.2.1, hG.2.2.2.2.2.2.2.2.2.2.2.2.2.2.2.2.2.1, hG.2.2.2.2.2.2.2.2.2.2.2.2.2.2.2.2.2.2.1, hG.2.2.2.2.2.2.2.2.2.2.2.2.2.2.2.2.2.2.2.1, hG.2.2.2.2.2.2.2.2.2.2.2.2.2.2.2.2.2.2.2.2.1, hG.2.2.2.2.2.2.2.2.2.2.2.2.2.2.2.2.2.2.2.2.2.1, hG.2.2.2.2.2.2.2.2.2.2.2.2.2.2.2.2.2.2.2.2.2.2.1, hG.2.2.2.2.2.2.2.2.2.2.2.2.2.2.2.2.2.2.2.2.2.2.2.1, hG.2.2.2.2.2.2.2.2.2.2.2.2.2.2.2.2.2.2.2.2.2.2.2.2⟩⟩
theorem sx_q_m_zf4_1 {γ : Nat → Int} {A : Nat → Nat → Int} {x : Int} (hG : sx_G0 γ A) (f0 : 0 ≤ 0 + ((-1) * γ 18443 + 0)) (f1 : 0 ≤ (-1) + (1 * γ 18450 + 0)) : ∃ a ∈ sx_r_m_zf4.2, ∃ w : Nat → Int, (∀ (i : Nat) p, a.1[i]? = some p → p.2.1 ≤ w i ∧ w i ≤ p.2.2) ∧ (∀ f ∈ a.2.1, 0 ≤ sx_d (sx_th γ x 0 w) f) ∧ sx_G0 (sx_gu γ (sx_th γ x 0 w) a.2.2.1) A := ⟨([], [(0, [(18443, (-1))]), ((-1), [(18450, 1)])], [], []), List.Mem.tail _ (List.Mem.head _), (fun _ => 0), fun i p hi => (by
    match i, hi with
    | n + 0, hi => simp at hi), fun f hf => (by
    simp only [List.mem_cons, List.not_mem_nil, or_false] at hf
    rcases hf with rfl | rfl
    · exact f0
    · exact f1
    ), ⟨hG.1, hG.2.1, hG.2.2.1, hG.2.2.2.1, hG.2.2.2.2.1, hG.2.2.2.2.2.1, hG.2.2.2.2.2.2.1, hG.2.2.2.2.2.2.2.1, hG.2.2.2.2.2.2.2.2.1, hG.2.2.2.2.2.2.2.2.2.1, hG.2.2.2.2.2.2.2.2.2.2.1, hG.2.2.2.2.2.2.2.2.2.2.2.1, hG.2.2.2.2.2.2.2.2.2.2.2.2.1, hG.2.2.2.2.2.2.2.2.2.2.2.2.2.1, hG.2.2.2.2.2.2.2.2.2.2.2.2.2.2.1, hG.2.2.2.2.2.2.2.2.2.2.2.2.2.2.2.1, hG.2.2.2.2.2.2.2.2.2.2.2.2.2.2.2.2.1, hG.2.2.2.2.2.2.2.2.2.2.2.2.2.2.2.2.2.1, hG.2.2.2.2.2.2.2.2.2.2.2.2.2.2.2.2.2.2.1, hG.2.2.2.2.2.2.2.2.2.2.2.2.2.2.2.2.2.2.2.1, hG.2.2.2.2.2.2.2.2.2.2.2.2.2.2.2.2.2.2.2.2.1, hG.2.2.2.2.2.2.2.2.2.2.2.2.2.2.2.2.2.2.2.2.2.1, hG.2.2.2.2.2.2.2.2.2.2.2.2.2.2.2.2.2.2.2.2.2.2.1, hG.2.2.2.2.2.2.2.2.2.2.2.2.2.2.2.2.2.2.2.2.2.2.2.1, hG.2.2.2.2.2.2.2.2.2.2.2.2.2.2.2.2.2.2.2.2.2.2.2.2⟩⟩
theorem sx_q_m_zf4_2 {γ : Nat → Int} {A : Nat → Nat → Int} {x : Int} (hG : sx_G0 γ A) (f0 : 0 ≤ (-1) + (1 * γ 18443 + 0)) (f1 : 0 ≤ 0 + ((-1) * γ 18450 + 0)) : ∃ a ∈ sx_r_m_zf4.2, ∃ w : Nat → Int, (∀ (i : Nat) p, a.1[i]? = some p → p.2.1 ≤ w i ∧ w i ≤ p.2.2) ∧ (∀ f ∈ a.2.1, 0 ≤ sx_d (sx_th γ x 0 w) f) ∧ sx_G0 (sx_gu γ (sx_th γ x 0 w) a.2.2.1) A := ⟨([], [((-1), [(18443, 1)]), (0, [(18450, (-1))])], [], []), List.Mem.tail _ (List.Mem.tail _ (List.Mem.head _)), (fun _ => 0), fun i p hi => (by
    match i, hi with
    | n + 0, hi => simp at hi), fun f hf => (by
    simp only [List.mem_cons, List.not_mem_nil, or_false] at hf
    rcases hf with rfl | rfl
    · exact f0
    · exact f1
    ), ⟨hG.1, hG.2.1, hG.2.2.1, hG.2.2.2.1, hG.2.2.2.2.1, hG.2.2.2.2.2.1, hG.2.2.2.2.2.2.1, hG.2.2.2.2.2.2.2.1, hG.2.2.2.2.2.2.2.2.1, hG.2.2.2.2.2.2.2.2.2.1, hG.2.2.2.2.2.2.2.2.2.2.1, hG.2.2.2.2.2.2.2.2.2.2.2.1, hG.2.2.2.2.2.2.2.2.2.2.2.2.1, hG.2.2.2.2.2.2.2.2.2.2.2.2.2.1, hG.2.2.2.2.2.2.2.2.2.2.2.2.2.2.1, hG.2.2.2.2.2.2.2.2.2.2.2.2.2.2.2.1, hG.2.2.2.2.2.2.2.2.2.2.2.2.2.2.2.2.1, hG.2.2.2.2.2.2.2.2.2.2.2.2.2.2.2.2.2.1, hG.2.2.2.2.2.2.2.2.2.2.2.2.2.2.2.2.2.2.1, hG.2.2.2.2.2.2.2.2.2.2.2.2.2.2.2.2.2.2.2.1, hG.2.2.2.2.2.2.2.2.2.2.2.2.2.2.2.2.2.2.2.2.1, hG.2.2.2.2.2.2.2.2.2.2.2.2.2.2.2.2.2.2.2.2.2.1, hG.2.2.2.2.2.2.2.2.2.2.2.2.2.2.2.2.2.2.2.2.2.2.1, hG.2.2.2.2.2.2.2.2.2.2.2.2.2.2.2.2.2.2.2.2.2.2.2.1, hG.2.2.2.2.2.2.2.2.2.2.2.2.2.2.2.2.2.2.2.2.2.2.2.2⟩⟩
theorem sx_q_m_zf4_3 {γ : Nat → Int} {A : Nat → Nat → Int} {x : Int} (hG : sx_G0 γ A) (f0 : 0 ≤ (-1) + (1 * γ 18443 + 0)) (f1 : 0 ≤ (-1) + (1 * γ 18450 + 0)) : ∃ a ∈ sx_r_m_zf4.2, ∃ w : Nat → Int, (∀ (i : Nat) p, a.1[i]? = some p → p.2.1 ≤ w i ∧ w i ≤ p.2.2) ∧ (∀ f ∈ a.2.1, 0 ≤ sx_d (sx_th γ x 0 w) f) ∧ sx_G0 (sx_gu γ (sx_th γ x 0 w) a.2.2.1) A := ⟨([], [((-1), [(18443, 1)]), ((-1), [(18450, 1)])], [], []), List.Mem.tail _ (List.Mem.tail _ (List.Mem.tail _ (List.Mem.head _))), (fun _ => 0), fun i p hi => (by
    match i, hi with
    | n + 0, hi => simp at hi), fun f hf => (by
    simp only [List.mem_cons, List.not_mem_nil, or_false] at hf
    rcases hf with rfl | rfl
    · exact f0
    · exact f1
    ), ⟨hG.1, hG.2.1, hG.2.2.1, hG.2.2.2.1, hG.2.2.2.2.1, hG.2.2.2.2.2.1, hG.2.2.2.2.2.2.1, hG.2.2.2.2.2.2.2.1, hG.2.2.2.2.2.2.2.2.1, hG.2.2.2.2.2.2.2.2.2.1, hG.2.2.2.2.2.2.2.2.2.2.1, hG.2.2.2.2.2.2.2.2.2.2.2.1, hG.2.2.2.2.2.2.2.2.2.2.2.2.1, hG.2.2.2.2.2.2.2.2.2.2.2.2.2.1, hG.2.2.2.2.2.2.2.2.2.2.2.2.2.2.1, hG.2.2.2.2.2.2.2.2.2.2.2.2.2.2.2.1, hG.2.2.2.2.2.2.2.2.2.2.2.2.2.2.2.2.1, hG.2.2.2.2.2.2.2.2.2.2.2.2.2.2.2.2.2.1, hG.2.2.2.2.2.2.2.2.2.2.2.2.2.2.2.2.2.2.1, hG.2.2.2.2.2.2.2.2.2.2.2.2.2.2.2.2.2.2.2.1, hG.2.2.2.2.2.2.2.2.2.2.2.2.2.2.2.2.2.2.2.2.1, hG.2.2.2.2.2.2.2.2.2.2.2.2.2.2.2.2.2.2.2.2.2.1, hG.2.2.2.2.2.2.2.2.2.2.2.2.2.2.2.2.2.2.2.2.2.2.1, hG.2.2.2.2.2.2.2.2.2.2.2.2.2.2.2.2.2.2.2.2.2.2.2.1, hG.2.2.2.2.2.2.2.2.2.2.2.2.2.2.2.2.2.2.2.2.2.2.2.2⟩⟩
theorem sx_q_m_zf5_0 {γ : Nat → Int} {A : Nat → Nat → Int} {x : Int} (hG : sx_G0 γ A) (f0 : 0 ≤ 0 + ((-1) * γ 18444 + 0)) (f1 : 0 ≤ 0 + ((-1) * γ 18451 + 0)) : ∃ a ∈ sx_r_m_zf5.2, ∃ w : Nat → Int, (∀ (i : Nat) p, a.1[i]? = some p → p.2.1 ≤ w i ∧ w i ≤ p.2.2) ∧ (∀ f ∈ a.2.1, 0 ≤ sx_d (sx_th γ x 0 w) f) ∧ sx_G0 (sx_gu γ (sx_th γ x 0 w) a.2.2.1) A := ⟨([], [(0, [(18444, (-1))]), (0, [(18451, (-1))])], [], []), List.Mem.head _, (fun _ => 0), fun i p hi => (by
    match i, hi with
    | n + 0, hi => simp at hi), fun f hf => (by
    simp only [List.mem_cons, List.not_mem_nil, or_false] at hf
    rcases hf with rfl | rfl
    · exact f0
    · exact f1
    ), ⟨hG.1, hG.2.1, hG.2.2.1, hG.2.2.2.1, hG.2.2.2.2.1, hG.2.2.2.2.2.1, hG.2.2.2.2.2.2.1, hG.2.2.2.2.2.2.2.1, hG.2.2.2.2.2.2.2.2.1, hG.2.2.2.2.2.2.2.2.2.1, hG.2.2.2.2.2.2.2.2.2.2.1, hG.2.2.2.2.2.2.2.2.2.2.2.1, hG.2.2.2.2.2.2.2.2.2.2.2.2.1, hG.2.2.2.2.2.2.2.2.2.2.2.2.2.1, hG.2.2.2.2.2.2.2.2.2.2.2.2.2.2.1, hG.2.2.2.2.2.2.2.2.2.2.2.2.2.2.2.1, hG.2.2.2.2.2.2.2.2.2.2.2.2.2.2.2.2.1, hG.2.2.2.2.2.2.2.2.2.2.2.2.2.2.2.2.2.1, hG.2.2.2.2.2.2.2.2.2.2.2.2.2.2.2.2.2.2.1, hG.2.2.2.2.2.2.2.2.2.2.2.2.2.2.2.2.2.2.2.1, hG.2.2.2.2.2.2.2.2.2.2.2.2.2.2.2.2.2.2.2.2.1, hG.2.2.2.2.2.2.2.2.2.2.2.2.2.2.2.2.2.2.2.2.2.1, hG.2.2.2.2.2.2.2.2.2.2.2.2.2.2.2.2.2.2.2.2.2.2.1, hG.2.2.2.2.2.2.2.2.2.2.2.2.2.2.2.2.2.2.2.2.2.2.2.1, hG.2.2.2.2.2.2.2.2.2.2.2.2.2.2.2.2.2.2.2.2.2.2.2.2⟩⟩
theorem sx_q_m_zf5_1 {γ : Nat → Int} {A : Nat → Nat → Int} {x : Int} (hG : sx_G0 γ A) (f0 : 0 ≤ 0 + ((-1) * γ 18444 + 0)) (f1 : 0 ≤ (-1) + (1 * γ 18451 + 0)) : ∃ a ∈ sx_r_m_zf5.2, ∃ w : Nat → Int, (∀ (i : Nat) p, a.1[i]? = some p → p.2.1 ≤ w i ∧ w i ≤ p.2.2) ∧ (∀ f ∈ a.2.1, 0 ≤ sx_d (sx_th γ x 0 w) f) ∧ sx_G0 (sx_gu γ (sx_th γ x 0 w) a.2.2.1) A := ⟨([], [(0, [(18444, (-1))]), ((-1), [(18451, 1)])], [], []), List.Mem.tail _ (List.Mem.head _), (fun _ => 0), fun i p hi => (by
    match i, hi with
    | n + 0, hi => simp at hi), fun f hf => (by
    simp only [List.mem_cons, List.not_mem_nil, or_false] at hf
    rcases hf with rfl | rfl
    · exact f0
    · exact f1
    ), ⟨hG.1, hG.2.1, hG.2.2.1, hG.2.2.2.1, hG.2.2.2.2.1, hG.2.2.2.2.2.1, hG.2.2.2.2.2.2.1, hG.2.2.2.2.2.2.2.1, hG.2.2.2.2.2.2.2.2.1, hG.2.2.2.2.2.2.2.2.2.1, hG.2.2.2.2.2.2.2.2.2.2.1, hG.2.2.2.2.2.2.2.2.2.2.2.1, hG.2.2.2.2.2.2.2.2.2.2.2.2.1, hG.2.2.2.2.2.2.2.2.2.2.2.2.2.1, hG.2.2.2.2.2.2.2.2.2.2.2.2.2.2.1, hG.2.2.2.2.2.2.2.2.2.2.2.2.2.2.2.1, hG.2.2.2.2.2.2.2.2.2.2.2.2.2.2.2.2.1, hG.2.2.2.2.2.2.2.2.2.2.2.2.2.2.2.2.2.1, hG.2.2.2.2.2.2.2.2.2.2.2.2.2.2.2.2.2.2.1, hG.2.2.2.2.2.2.2.2.2.2.2.2.2.2.2.2.2.2.2.1, hG.2.2.2.2.2.2.2.2.2.2.2.2.2.2.2.2.2.2.2.2.1, hG.2.2.2.2.2.2.2.2.2.2.2.2.2.2.2.2.2.2.2.2.2.1, hG.2.2.2.2.2.2.2.2.2.2.2.2.2.2.2.2.2.2.2.2.2.2.1, hG.2.2.2.2.2.2.2.2.2.2.2.2.2.2.2.2.2.2.2.2.2.2.2.1, hG.2.2.2.2.2.2.2.2.2.2.2.2.2.2.2.2.2.2.2.2.2.2.2.2⟩⟩
theorem sx_q_m_zf5_2 {γ : Nat → Int} {A : Nat → Nat → Int} {x : Int} (hG : sx_G0 γ A) (f0 : 0 ≤ (-1) + (1 * γ 18444 + 0)) (f1 : 0 ≤ 0 + ((-1) * γ 18451 + 0)) : ∃ a ∈ sx_r_m_zf5.2, ∃ w : Nat → Int, (∀ (i : Nat) p, a.1[i]? = some p → p.2.1 ≤ w i ∧ w i ≤ p.2.2) ∧ (∀ f ∈ a.2.1, 0 ≤ sx_d (sx_th γ x 0 w) f) ∧ sx_G0 (sx_gu γ (sx_th γ x 0 w) a.2.2.1) A := ⟨([], [((-1), [(18444, 1)]), (0, [(18451, (-1))])], [], []), List.Mem.tail _ (List.Mem.tail _ (List.Mem.head _)), (fun _ => 0), fun i p hi => (by
    match i, hi with
    | n + 0, hi => simp at hi), fun f hf => (by
    simp only [List.mem_cons, List.not_mem_nil, or_false] at hf
    rcases hf with rfl | rfl
    · exact f0
    · exact f1
    ), ⟨hG.1, hG.2.1, hG.2.2.1, hG.2.2.2.1, hG.2.2.2.2.1, hG.2.2.2.2.2.1, hG.2.2.2.2.2.2.1, hG.2.2.2.2.2.2.2.1, hG.2.2.2.2.2.2.2.2.1, hG.2.2.2.2.2.2.2.2.2.1, hG.2.2.2.2.2.2.2.2.2.2.1, hG.2.2.2.2.2.2.2.2.2.2.2.1, hG.2.2.2.2.2.2.2.2.2.2.2.2.1, hG.2.2.2.2.2.2.2.2.2.2.2.2.2.1, hG.2.2.2.2.2.2.2.2.2.2.2.2.2.2.1, hG.2.2.2.2.2.2.2.2.2.2.2.2.2.2.2.1, hG.2.2.2.2.2.2.2.2.2.2.2.2.2.2.2.2.1, hG.2.2.2.2.2.2.2.2.2.2.2.2.2.2.2.2.2.1, hG.2.2.2.2.2.2.2.2.2.2.2.2.2.2.2.2.2.2.1, hG.2.2.2.2.2.2.2.2.2.2.2.2.2.2.2.2.2.2.2.1, hG.2.2.2.2.2.2.2.2.2.2.2.2.2.2.2.2.2.2.2.2.1, hG.2.2.2.2.2.2.2.2.2.2.2.2.2.2.2.2.2.2.2.2.2.1, hG.2.2.2.2.2.2.2.2.2.2.2.2.2.2.2.2.2.2.2.2.2.2.1, hG.2.2.2.2.2.2.2.2.2.2.2.2.2.2.2.2.2.2.2.2.2.2.2.1, hG.2.2.2.2.2.2.2.2.2.2.2.2.2.2.2.2.2.2.2.2.2.2.2.2⟩⟩
theorem sx_q_m_zf5_3 {γ : Nat → Int} {A : Nat → Nat → Int} {x : Int} (hG : sx_G0 γ A) (f0 : 0 ≤ (-1) + (1 * γ 18444 + 0)) (f1 : 0 ≤ (-1) + (1 * γ 18451 + 0)) : ∃ a ∈ sx_r_m_zf5.2, ∃ w : Nat → Int, (∀ (i : Nat) p, a.1[i]? = some p → p.2.1 ≤ w i ∧ w i ≤ p.2.2) ∧ (∀ f ∈ a.2.1, 0 ≤ sx_d (sx_th γ x 0 w) f) ∧ sx_G0 (sx_gu γ (sx_th γ x 0 w) a.2.2.1) A := ⟨([], [((-1), [(18444, 1)]), ((-1), [(18451, 1)])], [], []), List.Mem.tail _ (List.Mem.tail _ (List.Mem.tail _ (List.Mem.head _))), (fun _ => 0), fun i p hi => (by
    match i, hi with
    | n + 0, hi => simp at hi), fun f hf => (by
    simp only [List.mem_cons, List.not_mem_nil, or_false] at hf
    rcases hf with rfl | rfl
    · exact f0
    · exact f1
    ), ⟨hG.1, hG.2.1, hG.2.2.1, hG.2.2.2.1, hG.2.2.2.2.1, hG.2.2.2.2.2.1, hG.2.2.2.2.2.2.1, hG.2.2.2.2.2.2.2.1, hG.2.2.2.2.2.2.2.2.1, hG.2.2.2.2.2.2.2.2.2.1, hG.2.2.2.2.2.2.2.2.2.2.1, hG.2.2.2.2.2.2.2.2.2.2.2.1, hG.2.2.2.2.2.2.2.2.2.2.2.2.1, hG.2.2.2.2.2.2.2.2.2.2.2.2.2.1, hG.2.2.2.2.2.2.2.2.2.2.2.2.2.2.1, hG.2.2.2.2.2.2.2.2.2.2.2.2.2.2.2.1, hG.2.2.2.2.2.2.2.2.2.2.2.2.2.2.2.2.1, hG.2.2.2.2.2.2.2.2.2.2.2.2.2.2.2.2.2.1, hG.2.2.2.2.2.2.2.2.2.2.2.2.2.2.2.2.2.2.1, hG.2.2.2.2.2.2.2.2.2.2.2.2.2.2.2.2.2.2.2.1, hG.2.2.2.2.2.2.2.2.2.2.2.2.2.2.2.2.2.2.2.2.1, hG.2.2.2.2.2.2.2.2.2.2.2.2.2.2.2.2.2.2.2.2.2.1, hG.2.2.2.2.2.2.2.2.2.2.2.2.2.2.2.2.2.2.2.2.2.2.1, hG.2.2.2.2.2.2.2.2.2.2.2.2.2.2.2.2.2.2.2.2.2.2.2.1, hG.2.2.2.2.2.2.2.2.2.2.2.2.2.2.2.2.2.2.2.2.2.2.2.2⟩⟩
theorem sx_q_m_zf6_0 {γ : Nat → Int} {A : Nat → Nat → Int} {x : Int} (hG : sx_G0 γ A) (f0 : 0 ≤ 0 + ((-1) * γ 18445 + 0)) (f1 : 0 ≤ 0 + ((-1) * γ 18452 + 0)) : ∃ a ∈ sx_r_m_zf6.2, ∃ w : Nat → Int, (∀ (i : Nat) p, a.1[i]? = some p → p.2.1 ≤ w i ∧ w i ≤ p.2.2) ∧ (∀ f ∈ a.2.1, 0 ≤ sx_d (sx_th γ x 0 w) f) ∧ sx_G0 (sx_gu γ (sx_th γ x 0 w) a.2.2.1) A := ⟨([], [(0, [(18445, (-1))]), (0, [(18452, (-1))])], [], []), List.Mem.head _, (fun _ => 0), fun i p hi => (by
    match i, hi with
    | n + 0, hi => simp at hi), fun f hf => (by
    simp only [List.mem_cons, List.not_mem_nil, or_false] at hf
    rcases hf with rfl | rfl
    · exact f0
    · exact f1
    ), ⟨hG.1, hG.2.1, hG.2.2.1, hG.2.2.2.1, hG.2.2.2.2.1, hG.2.2.2.2.2.1, hG.2.2.2.2.2.2.1, hG.2.2.2.2.2.2.2.1, hG.2.2.2.2.2.2.2.2.1, hG.2.2.2.2.2.2.2.2.2.1, hG.2.2.2.2.2.2.2.2.2.2.1, hG.2.2.2.2.2.2.2.2.2.2.2.1, hG.2.2.2.2.2.2.2.2.2.2.2.2.1, hG.2.2.2.2.2.2.2.2.2.2.2.2.2.1, hG.2.2.2.2.2.2.2.2.2.2.2.2.2.2.1, hG.2.2.2.2.2.2.2.2.2.2.2.2.2.2.2.1, hG.2.2.2.2.2.2.2.2.2.2.2.2.2.2.2.2.1, hG.2.2.2.2.2.2.2.2.2.2.2.2.2.2.2.2.2.1, hG.2.2.2.2.2.2.2.2.2.2.2.2.2.2.2.2.2.2.1, hG.2.2.2.2.2.2.2.2.2.2.2.2.2.2.2.2.2.2.2.1, hG.2.2.2.2.2.2.2.2.2.2.2.2.2.2.2.2.2.2.2.2.1, hG.2.2.2.2.2.2.2.2.2.2.2.2.2.2.2.2.2.2.2.2.2.1, hG.2.2.2.2.2.2.2.2.2.2.2.2.2.2.2.2.2.2.2.2.2.2.1, hG.2.2.2.2.2.2.2.2.2.2.2.2.2.2.2.2.2.2.2.2.2.2.2.1, hG.2.2.2.2.2.2.2.2.2.2.2.2.2.2.2.2.2.2.2.2.2.2.2.2⟩⟩
theorem sx_q_m_zf6_1 {γ : Nat → Int} {A : Nat → Nat → Int} {x : Int} (hG : sx_G0 γ A) (f0 : 0 ≤ 0 + ((-1) * γ 18445 + 0)) (f1 : 0 ≤ (-1) + (1 * γ 18452 + 0)) : ∃ a ∈ sx_r_m_zf6.2, ∃ w : Nat → Int, (∀ (i : Nat) p, a.1[i]? = some p → p.2.1 ≤ w i ∧ w i ≤ p.2.2) ∧ (∀ f ∈ a.2.1, 0 ≤ sx_d (sx_th γ x 0 w) f) ∧ sx_G0 (sx_gu γ (sx_th γ x 0 w) a.2.2.1) A := ⟨([], [(0, [(18445, (-1))]), ((-1), [(18452, 1)])], [], []), List.Mem.tail _ (List.Mem.head _), (fun _ => 0), fun i p hi => (by
    match i, hi with
    | n + 0, hi => simp at hi), fun f hf => (by
    simp only [List.mem_cons, List.not_mem_nil, or_false] at hf
    rcases hf with rfl | rfl
    · exact f0
    · exact f1
    ), ⟨hG.1, hG.2.1, hG.2.2.1, hG.2.2.2.1, hG.2.2.2.2.1, hG.2.2.2.2.2.1, hG.2.2.2.2.2.2.1, hG.2.2.2.2.2.2.2.1, hG.2.2.2.2.2.2.2.2.1, hG.2.2.2.2.2.2.2.2.2.1, hG.2.2.2.2.2.2.2.2.2.2.1, hG.2.2.2.2.2.2.2.2.2.2.2.1, hG.2.2.2.2.2.2.2.2.2.2.2.2.1, hG.2.2.2.2.2.2.2.2.2.2.2.2.2.1, hG.2.2.2.2.2.2.2.2.2.2.2.2.2.2.1, hG.2.2.2.2.2.2.2.2.2.2.2.2.2.2.2.1, hG.2.2.2.2.2.2.2.2.2.2.2.2.2.2.2.2.1, hG.2.2.2.2.2.2.2.2.2.2.2.2.2.2.2.2.2.1, hG.2.2.2.2.2.2.2.2.2.2.2.2.2.2.2.2.2.2.1, hG.2.2.2.2.2.2.2.2.2.2.2.2.2.2.2.2.2.2.2.1, hG.2.2.2.2.2.2.2.2.2.2.2.2.2.2.2.2.2.2.2.2.1, hG.2.2.2.2.2.2.2.2.2.2.2.2.2.2.2.2.2.2.2.2.2.1, hG.2.2.2.2.2.2.2.2.2.2.2.2.2.2.2.2.2.2.2.2.2.2.1, hG.2.2.2.2.2.2.2.2.2.2.2.2.2.2.2.2.2.2.2.2.2.2.2.1, hG.2.2.2.2.2.2.2.2.2.2.2.2.2.2.2.2.2.2.2.2.2.2.2.2⟩⟩
theorem sx_q_m_zf6_2 {γ : Nat → Int} {A : Nat → Nat → Int} {x : Int} (hG : sx_G0 γ A) (f0 : 0 ≤ (-1) + (1 * γ 18445 + 0)) (f1 : 0 ≤ 0 + ((-1) * γ 18452 + 0)) : ∃ a ∈ sx_r_m_zf6.2, ∃ w : Nat → Int, (∀ (i : Nat) p, a.1[i]? = some p → p.2.1 ≤ w i ∧ w i ≤ p.2.2) ∧ (∀ f ∈ a.2.1, 0 ≤ sx_d (sx_th γ x 0 w) f) ∧ sx_G0 (sx_gu γ (sx_th γ x 0 w) a.2.2.1) A := ⟨([], [((-1), [(18445, 1)]), (0, [(18452, (-1))])], [], []), List.Mem.tail _ (List.Mem.tail _ (List.Mem.head _)), (fun _ => 0), fun i p hi => (by
    match i, hi with
    | n + 0, hi => simp at hi), fun f hf => (by
    simp only [List.mem_cons, List.not_mem_nil, or_false] at hf
    rcases hf with rfl | rfl
    · exact f0
    · exact f1
    ), ⟨hG.1, hG.2.1, hG.2.2.1, hG.2.2.2.1, hG.2.2.2.2.1, hG.2.2.2.2.2.1, hG.2.2.2.2.2.2.1, hG.2.2.2.2.2.2.2.1, hG.2.2.2.2.2.2.2.2.1, hG.2.2.2.2.2.2.2.2.2.1, hG.2.2.2.2.2.2.2.2.2.2.1, hG.2.2.2.2.2.2.2.2.2.2.2.1, hG.2.2.2.2.2.2.2.2.2.2.2.2.1, hG.2.2.2.2.2.2.2.2.2.2.2.2.2.1, hG.2.2.2.2.2.2.2.2.2.2.2.2.2.2.1, hG.2.2.2.2.2.2.2.2.2.2.2.2.2.2.2.1, hG.2.2.2.2.2.2.2.2.2.2.2.2.2.2.2.2.1, hG.2.2.2.2.2.2.2.2.2.2.2.2.2.2.2.2.2.1, hG.2.2.2.2.2.2.2.2.2.2.2.2.2.2.2.2.2.2.1, hG.2.2.2.2.2.2.2.2.2.2.2.2.2.2.2.2.2.2.2.1, hG.2.2.2.2.2.2.2.2.2.2.2.2.2.2.2.2.2.2.2.2.1, hG.2.2.2.2.2.2.2.2.2.2.2.2.2.2.2.2.2.2.2.2.2.1, hG.2.2.2.2.2.2.2.2.2.2.2.2.2.2.2.2.2.2.2.2.2.2.1, hG.2.2.2.2.2.2.2.2.2.2.2.2.2.2.2.2.2.2.2.2.2.2.2.1, hG.2.2.2.2.2.2.2.2.2.2.2.2.2.2.2.2.2.2.2.2.2.2.2.2⟩⟩
theorem sx_q_m_zf6_3 {γ : Nat → Int} {A : Nat → Nat → Int} {x : Int} (hG : sx_G0 γ A) (f0 : 0 ≤ (-1) + (1 * γ 18445 + 0)) (f1 : 0 ≤ (-1) + (1 * γ 18452 + 0)) : ∃ a ∈ sx_r_m_zf6.2, ∃ w : Nat → Int, (∀ (i : Nat) p, a.1[i]? = some p → p.2.1 ≤ w i ∧ w i ≤ p.2.2) ∧ (∀ f ∈ a.2.1, 0 ≤ sx_d (sx_th γ x 0 w) f) ∧ sx_G0 (sx_gu γ (sx_th γ x 0 w) a.2.2.1) A := ⟨([], [((-1), [(18445, 1)]), ((-1), [(18452, 1)])], [], []), List.Mem.tail _ (List.Mem.tail _ (List.Mem.tail _ (List.Mem.head _))), (fun _ => 0), fun i p hi => (by
    match i, hi with
    | n + 0, hi => simp at hi), fun f hf => (by
    simp only [List.mem_cons, List.not_mem_nil, or_false] at hf
    rcases hf with rfl | rfl
    · exact f0
    · exact f1
    ), ⟨hG.1, hG.2.1, hG.2.2.1, hG.2.2.2.1, hG.2.2.2.2.1, hG.2.2.2.2.2.1, hG.2.2.2.2.2.2.1, hG.2.2.2.2.2.2.2.1, hG.2.2.2.2.2.2.2.2.1, hG.2.2.2.2.2.2.2.2.2.1, hG.2.2.2.2.2.2.2.2.2.2.1, hG.2.2.2.2.2.2.2.2.2.2.2.1, hG.2.2.2.2.2.2.2.2.2.2.2.2.1, hG.2.2.2.2.2.2.2.2.2.2.2.2.2.1, hG.2.2.2.2.2.2.2.2.2.2.2.2.2.2.1, hG.2.2.2.2.2.2.2.2.2.2.2.2.2.2.2.1, hG.2.2.2.2.2.2.2.2.2.2.2.2.2.2.2.2.1, hG.2.2.2.2.2.2.2.2.2.2.2.2.2.2.2.2.2.1, hG.2.2.2.2.2.2.2.2.2.2.2.2.2.2.2.2.2.2.1, hG.2.2.2.2.2.2.2.2.2.2.2.2.2.2.2.2.2.2.2.1, hG.2.2.2.2.2.2.2.2.2.2.2.2.2.2.2.2.2.2.2.2.1, hG.2.2.2.2.2.2.2.2.2.2.2.2.2.2.2.2.2.2.2.2.2.1, hG.2.2.2.2.2.2.2.2.2.2.2.2.2.2.2.2.2.2.2.2.2.2.1, hG.2.2.2.2.2.2.2.2.2.2.2.2.2.2.2.2.2.2.2.2.2.2.2.1, hG.2.2.2.2.2.2.2.2.2.2.2.2.2.2.2.2.2.2.2.2.2.2.2.2⟩⟩
theorem sx_q_a_kept_0 {γ : Nat → Int} {A : Nat → Nat → Int} {x y : Int} (hG : sx_G0 γ A) (f0 : 0 ≤ 0 + ((-1) * γ 18495 + (1 * x + 0))) (f1 : 0 ≤ 0 + ((-1) * γ 18495 + (1 * y + 0))) (hv : 0 + (1 * γ 18495 + 0) = ((x.toNat &&& y.toNat : Nat) : Int)) : ∃ a ∈ sx_r_a_kept.2, ∃ w : Nat → Int, (∀ (i : Nat) p, a.1[i]? = some p → p.2.1 ≤ w i ∧ w i ≤ p.2.2) ∧ (∀ f ∈ a.2.1, 0 ≤ sx_d (sx_th γ x y w) f) ∧ (∃ e, a.2.2.2.head? = some e ∧ sx_d (sx_th γ x y w) e = ((x.toNat &&& y.toNat : Nat) : Int)) ∧ sx_G0 (sx_gu γ (sx_th γ x y w) a.2.2.1) A := ⟨([], [(0, [(18495, (-1)), (19000, 1)]), (0, [(18495, (-1)), (19001, 1)])], [], [(0, [(18495, 1)])]), List.Mem.head _, (fun _ => 0), fun i p hi => (by
    match i, hi with
    | n + 0, hi => simp at hi), fun f hf => (by
    simp only [List.mem_cons, List.not_mem_nil, or_false] at hf
    rcases hf with rfl | rfl
    · exact f0
    · exact f1
    ), ⟨_, rfl, hv⟩, ⟨hG.1, hG.2.1, hG.2.2.1, hG.2.2.2.1, hG.2.2.2.2.1, hG.2.2.2.2.2.1, hG.2.2.2.2.2.2.1, hG.2.2.2.2.2.2.2.1, hG.2.2.2.2.2.2.2.2.1, hG.2.2.2.2.2.2.2.2.2.1, hG.2.2.2.2.2.2.2.2.2.2.1, hG.2.2.2.2.2.2.2.2.2.2.2.1, hG.2.2.2.2.2.2.2.2.2.2.2.2.1, hG.2.2.2.2.2.2.2.2.2.2.2.2.2.1, hG.2.2.2.2.2.2.2.2.2.2.2.2.2.2.1, hG.2.2.2.2.2.2.2.2.2.2.2.2.2.2.2.1, hG.2.2.2.2.2.2.2.2.2.2.2.2.2.2.2.2.1, hG.2.2.2.2.2.2.2.2.2.2.2.2.2.2.2.2.2.1, hG.2.2.2.2.2.2.2.2.2.2.2.2.2.2.2.2.2.2.1, hG.2.2.2.2.2.2.2.2.2.2.2.2.2.2.2.2.2.2.2.1, hG.2.2.2.2.2.2.2.2.2.2.2.2.2.2.2.2.2.2.2.2.1, hG.2.2.2.2.2.2.2.2.2.2.2.2.2.2.2.2.2.2.2.2.2.1, hG.2.2.2.2.2.2.2.2.2.2.2.2.2.2.2.2.2.2.2.2.2.2.1, hG.2.2.2.2.2.2.2.2.2.2.2.2.2.2.2.2.2.2.2.2.2.2.2.1, hG.2.2.2.2.2.2.2.2.2.2.2.2.2.2.2.2.2.2.2.2.2.2.2.2⟩⟩
theorem sx_q_a_new_0 {γ : Nat → Int} {A : Nat → Nat → Int} {x y : Int} (hG : sx_G0 γ A) (w : Nat → Int) (hw0 : 0 ≤ w 0 ∧ w 0 ≤ 255) (f0 : 0 ≤ 0 + (1 * x + ((-1) * w 0 + 0))) (f1 : 0 ≤ 0 + (1 * y + ((-1) * w 0 + 0))) (hv : 0 + (1 * w 0 + 0) = ((x.toNat &&& y.toNat : Nat) : Int)) (c9 : sx_g8 (0 + (1 * x + 0)) (0 + (1 * y + 0)) (0 + (1 * w 0 + 0))) : ∃ a ∈ sx_r_a_new.2, ∃ w : Nat → Int, (∀ (i : Nat) p, a.1[i]? = some p → p.2.1 ≤ w i ∧ w i ≤ p.2.2) ∧ (∀ f ∈ a.2.1, 0 ≤ sx_d (sx_th γ x y w) f) ∧ (∃ e, a.2.2.2.head? = some e ∧ sx_d (sx_th γ x y w) e = ((x.toNat &&& y.toNat : Nat) : Int)) ∧ sx_G0 (sx_gu γ (sx_th γ x y w) a.2.2.1) A := ⟨([(0, 0, 255)], [(0, [(19000, 1), (19002, (-1))]), (0, [(19001, 1), (19002, (-1))])], [(18490, (0, [(19000, 1)])), (18491, (0, [(19001, 1)])), (18492, (0, [(19002, 1)]))], [(0, [(19002, 1)])]), List.Mem.head _, w, fun i p hi => (by
    match i, hi with
    | 0, hi => cases hi; exact hw0
    | n + 1, hi => simp at hi), fun f hf => (by
    simp only [List.mem_cons, List.not_mem_nil, or_false] at hf
    rcases hf with rfl | rfl
    · exact f0
    · exact f1
    ), ⟨_, rfl, hv⟩, ⟨hG.1, hG.2.1, hG.2.2.1, hG.2.2.2.1, hG.2.2.2.2.1, hG.2.2.2.2.2.1, hG.2.2.2.2.2.2.1, hG.2.2.2.2.2.2.2.1, hG.2.2.2.2.2.2.2.2.1, c9, hG.2.2.2.2.2.2.2.2.2.2.1, hG.2.2.2.2.2.2.2.2.2.2.2.1, hG.2.2.2.2.2.2.2.2.2.2.2.2.1, hG.2.2.2.2.2.2.2.2.2.2.2.2.2.1, hG.2.2.2.2.2.2.2.2.2.2.2.2.2.2.1, hG.2.2.2.2.2.2.2.2.2.2.2.2.2.2.2.1, hG.2.2.2.2.2.2.2.2.2.2.2.2.2.2.2.2.1, hG.2.2.2.2.2.2.2.2.2.2.2.2.2.2.2.2.2.1, hG.2.2.2.2.2.2.2.2.2.2.2.2.2.2.2.2.2.2.1, hG.2.2.2.2.2.2.2.2.2.2.2.2.2.2.2.2.2.2.2.1, hG.2.2.2.2.2.2.2.2.2.2.2.2.2.2.2.2.2.2.2.2.1, hG.2.2.2.2.2.2.2.2.2.2.2.2.2.2.2.2.2.2.2.2.2.1, hG.2.2.2.2.2.2.2.2.2.2.2.2.2.2.2.2.2.2.2.2.2.2.1, hG.2.2.2.2.2.2.2.2.2.2.2.2.2.2.2.2.2.2.2.2.2.2.2.1, hG.2.2.2.2.2.2.2.2.2.2.2.2.2.2.2.2.2.2.2.2.2.2.2.2⟩⟩
theorem sx_q_b_kept_0 {γ : Nat → Int} {A : Nat → Nat → Int} {x : Int} (hG : sx_G0 γ A) (hv : 0 + ((-32) * γ 18510 + (1 * x + 0)) = x % 32) : ∃ a ∈ sx_r_b_kept.2, ∃ w : Nat → Int, (∀ (i : Nat) p, a.1[i]? = some p → p.2.1 ≤ w i ∧ w i ≤ p.2.2) ∧ (∀ f ∈ a.2.1, 0 ≤ sx_d (sx_th γ x 0 w) f) ∧ (∃ e, a.2.2.2.head? = some e ∧ sx_d (sx_th γ x 0 w) e = x % 32) ∧ sx_G0 (sx_gu γ (sx_th γ x 0 w) a.2.2.1) A := ⟨([], [], [], [(0, [(18510, (-32)), (19000, 1)])]), List.Mem.head _, (fun _ => 0), fun i p hi => (by
    match i, hi with
    | n + 0, hi => simp at hi), fun f hf => (by cases hf), ⟨_, rfl, hv⟩, ⟨hG.1, hG.2.1, hG.2.2.1, hG.2.2.2.1, hG.2.2.2.2.1, hG.2.2.2.2.2.1, hG.2.2.2.2.2.2.1, hG.2.2.2.2.2.2.2.1, hG.2.2.2.2.2.2.2.2.1, hG.2.2.2.2.2.2.2.2.2.1, hG.2.2.2.2.2.2.2.2.2.2.1, hG.2.2.2.2.2.2.2.2.2.2.2.1, hG.2.2.2.2.2.2.2.2.2.2.2.2.1, hG.2.2.2.2.2.2.2.2.2.2.2.2.2.1, hG.2.2.2.2.2.2.2.2.2.2.2.2.2.2.1, hG.2.2.2.2.2.2.2.2.2.2.2.2.2.2.2.1, hG.2.2.2.2.2.2.2.2.2.2.2.2.2.2.2.2.1, hG.2.2.2.2.2.2.2.2.2.2.2.2.2.2.2.2.2.1, hG.2.2.2.2.2.2.2.2.2.2.2.2.2.2.2.2.2.2.1, hG.2.2.2.2.2.2.2.2.2.2.2.2.2.2.2.2.2.2.2.1, hG.2.2.2.2.2.2.2.2.2.2.2.2.2.2.2.2.2.2.2.2.1, hG.2.2.2.2.2.2.2.2.2.2.2.2.2.2.2.2.2.2.2.2.2.1, hG.2.2.2.2.2.2.2.2.2.2.2.2.2.2.2.2.2.2.2.2.2.2.1, hG.2.2.2.2.2.2.2.2.2.2.2.2.2.2.2.2.2.2.2.2.2.2.2.1, hG.2.2.2.2.2.2.2.2.2.2.2.2.2.2.2.2.2.2.2.2.2.2.2.2⟩⟩
theorem sx_q_b_next_0 {γ : Nat → Int} {A : Nat → Nat → Int} {x : Int} (hG : sx_G0 γ A) (w : Nat → Int) (hw0 : 0 ≤ w 0 ∧ w 0 ≤ 288230376151711743) (f0 : 0 ≤ 0 + (1 * x + ((-32) * w 0 + 0))) (f1 : 0 ≤ 31 + ((-1) * x + (32 * w 0 + 0))) (hv : 0 + (1 * x + ((-32) * w 0 + 0)) = x % 32) (c19 : sx_gq (0 + (1 * x + 0)) (0 + (1 * w 0 + 0))) : ∃ a ∈ sx_r_b_next.2, ∃ w : Nat → Int, (∀ (i : Nat) p, a.1[i]? = some p → p.2.1 ≤ w i ∧ w i ≤ p.2.2) ∧ (∀ f ∈ a.2.1, 0 ≤ sx_d (sx_th γ x 0 w) f) ∧ (∃ e, a.2.2.2.head? = some e ∧ sx_d (sx_th γ x 0 w) e = x % 32) ∧ sx_G0 (sx_gu γ (sx_th γ x 0 w) a.2.2.1) A := ⟨([(0, 0, 288230376151711743)], [(0, [(19000, 1), (19002, (-32))]), (31, [(19000, (-1)), (19002, 32)])], [(18509, (0, [(19000, 1)])), (18510, (0, [(19002, 1)]))], [(0, [(19000, 1), (19002, (-32))])]), List.Mem.head _, w, fun i p hi => (by
    match i, hi with
    | 0, hi => cases hi; exact hw0
    | n + 1, hi => simp at hi), fun f hf => (by
    simp only [List.mem_cons, List.not_mem_nil, or_false] at hf
    rcases hf with rfl | rfl
    · exact f0
    · exact f1
    ), ⟨_, rfl, hv⟩, ⟨hG.1, hG.2.1, hG.2.2.1, hG.2.2.2.1, hG.2.2.2.2.1, hG.2.2.2.2.2.1, hG.2.2.2.2.2.2.1, hG.2.2.2.2.2.2.2.1, hG.2.2.2.2.2.2.2.2.1, hG.2.2.2.2.2.2.2.2.2.1, hG.2.2.2.2.2.2.2.2.2.2.1, hG.2.2.2.2.2.2.2.2.2.2.2.1, hG.2.2.2.2.2.2.2.2.2.2.2.2.1, hG.2.2.2.2.2.2.2.2.2.2.2.2.2.1, hG.2.2.2.2.2.2.2.2.2.2.2.2.2.2.1, hG.2.2.2.2.2.2.2.2.2.2.2.2.2.2.2.1, hG.2.2.2.2.2.2.2.2.2.2.2.2.2.2.2.2.1, hG.2.2.2.2.2.2.2.2.2.2.2.2.2.2.2.2.2.1, hG.2.2.2.2.2.2.2.2.2.2.2.2.2.2.2.2.2.2.1, c19, hG.2.2.2.2.2.2.2.2.2.2.2.2.2.2.2.2.2.2.2.2.1, hG.2.2.2.2.2.2.2.2.2.2.2.2.2.2.2.2.2.2.2.2.2.1, hG.2.2.2.2.2.2.2.2.2.2.2.2.2.2.2.2.2.2.2.2.2.2.1, hG.2.2.2.2.2.2.2.2.2.2.2.2.2.2.2.2.2.2.2.2.2.2.2.1, hG.2.2.2.2.2.2.2.2.2.2.2.2.2.2.2.2.2.2.2.2.2.2.2.2⟩⟩
theorem sx_q_b_new_0 {γ : Nat → Int} {A : Nat → Nat → Int} {x : Int} (hG : sx_G0 γ A) (w : Nat → Int) (hw0 : 0 ≤ w 0 ∧ w 0 ≤ 288230376151711743) (f0 : 0 ≤ 0 + (1 * x + ((-32) * w 0 + 0))) (f1 : 0 ≤ 31 + ((-1) * x + (32 * w 0 + 0))) (hv : 0 + (1 * x + ((-32) * w 0 + 0)) = x % 32) (c19 : sx_gq (0 + (1 * x + 0)) (0 + (1 * w 0 + 0))) (c20 : sx_gl (0 + (1 * x + 0)) (0 + (1 * x + 0)) (1 + 0)) : ∃ a ∈ sx_r_b_new.2, ∃ w : Nat → Int, (∀ (i : Nat) p, a.1[i]? = some p → p.2.1 ≤ w i ∧ w i ≤ p.2.2) ∧ (∀ f ∈ a.2.1, 0 ≤ sx_d (sx_th γ x 0 w) f) ∧ (∃ e, a.2.2.2.head? = some e ∧ sx_d (sx_th γ x 0 w) e = x % 32) ∧ sx_G0 (sx_gu γ (sx_th γ x 0 w) a.2.2.1) A := ⟨([(0, 0, 288230376151711743)], [(0, [(19000, 1), (19002, (-32))]), (31, [(19000, (-1)), (19002, 32)])], [(18509, (0, [(19000, 1)])), (18510, (0, [(19002, 1)])), (18511, (0, [(19000, 1)])), (18512, (0, [(19000, 1)])), (18513, (1, []))], [(0, [(19000, 1), (19002, (-32))])]), List.Mem.head _, w, fun i p hi => (by
    match i, hi with
    | 0, hi => cases hi; exact hw0
    | n + 1, hi => simp at hi), fun f hf => (by
    simp only [List.mem_cons, List.not_mem_nil, or_false] at hf
    rcases hf with rfl | rfl
    · exact f0
    · exact f1
    ), ⟨_, rfl, hv⟩, ⟨hG.1, hG.2.1, hG.2.2.1, hG.2.2.2.1, hG.2.2.2.2.1, hG.2.2.2.2.2.1, hG.2.2.2.2.2.2.1, hG.2.2.2.2.2.2.2.1, hG.2.2.2.2.2.2.2.2.1, hG.2.2.2.2.2.2.2.2.2.1, hG.2.2.2.2.2.2.2.2.2.2.1, hG.2.2.2.2.2.2.2.2.2.2.2.1, hG.2.2.2.2.2.2.2.2.2.2.2.2.1, hG.2.2.2.2.2.2.2.2.2.2.2.2.2.1, hG.2.2.2.2.2.2.2.2.2.2.2.2.2.2.1, hG.2.2.2.2.2.2.2.2.2.2.2.2.2.2.2.1, hG.2.2.2.2.2.2.2.2.2.2.2.2.2.2.2.2.1, hG.2.2.2.2.2.2.2.2.2.2.2.2.2.2.2.2.2.1, hG.2.2.2.2.2.2.2.2.2.2.2.2.2.2.2.2.2.2.1, c19, c20, hG.2.2.2.2.2.2.2.2.2.2.2.2.2.2.2.2.2.2.2.2.2.1, hG.2.2.2.2.2.2.2.2.2.2.2.2.2.2.2.2.2.2.2.2.2.2.1, hG.2.2.2.2.2.2.2.2.2.2.2.2.2.2.2.2.2.2.2.2.2.2.2.1, hG.2.2.2.2.2.2.2.2.2.2.2.2.2.2.2.2.2.2.2.2.2.2.2.2⟩⟩
theorem sx_q_d_good_0 {γ : Nat → Int} {A : Nat → Nat → Int} {x : Int} (hG : sx_G0 γ A) (f0 : 0 ≤ (-1) + ((-1) * γ 18510 + (1 * x + 0))) (hv : 0 + (1 * γ 18510 + 0) = x / 32) (c20 : sx_gl (γ 18511) (0 + (1 * γ 18510 + 0)) (γ 18513)) : ∃ a ∈ sx_r_d_good.2, ∃ w : Nat → Int, (∀ (i : Nat) p, a.1[i]? = some p → p.2.1 ≤ w i ∧ w i ≤ p.2.2) ∧ (∀ f ∈ a.2.1, 0 ≤ sx_d (sx_th γ x 0 w) f) ∧ (∃ e, a.2.2.2.head? = some e ∧ sx_d (sx_th γ x 0 w) e = x / 32) ∧ sx_G0 (sx_gu γ (sx_th γ x 0 w) a.2.2.1) A := ⟨([], [((-1), [(18510, (-1)), (19000, 1)])], [(18512, (0, [(18510, 1)]))], [(0, [(18510, 1)])]), List.Mem.head _, (fun _ => 0), fun i p hi => (by
    match i, hi with
    | n + 0, hi => simp at hi), fun f hf => (by
    simp only [List.mem_cons, List.not_mem_nil, or_false] at hf
    rcases hf with rfl
    · exact f0
    ), ⟨_, rfl, hv⟩, ⟨hG.1, hG.2.1, hG.2.2.1, hG.2.2.2.1, hG.2.2.2.2.1, hG.2.2.2.2.2.1, hG.2.2.2.2.2.2.1, hG.2.2.2.2.2.2.2.1, hG.2.2.2.2.2.2.2.2.1, hG.2.2.2.2.2.2.2.2.2.1, hG.2.2.2.2.2.2.2.2.2.2.1, hG.2.2.2.2.2.2.2.2.2.2.2.1, hG.2.2.2.2.2.2.2.2.2.2.2.2.1, hG.2.2.2.2.2.2.2.2.2.2.2.2.2.1, hG.2.2.2.2.2.2.2.2.2.2.2.2.2.2.1, hG.2.2.2.2.2.2.2.2.2.2.2.2.2.2.2.1, hG.2.2.2.2.2.2.2.2.2.2.2.2.2.2.2.2.1, hG.2.2.2.2.2.2.2.2.2.2.2.2.2.2.2.2.2.1, hG.2.2.2.2.2.2.2.2.2.2.2.2.2.2.2.2.2.2.1, hG.2.2.2.2.2.2.2.2.2.2.2.2.2.2.2.2.2.2.2.1, c20, hG.2.2.2.2.2.2.2.2.2.2.2.2.2.2.2.2.2.2.2.2.2.1, hG.2.2.2.2.2.2.2.2.2.2.2.2.2.2.2.2.2.2.2.2.2.2.1, hG.2.2.2.2.2.2.2.2.2.2.2.2.2.2.2.2.2.2.2.2.2.2.2.1, hG.2.2.2.2.2.2.2.2.2.2.2.2.2.2.2.2.2.2.2.2.2.2.2.2⟩⟩
theorem sx_q_d_bad1_0 {γ : Nat → Int} {A : Nat → Nat → Int} {x : Int} (hG : sx_G0 γ A) (f0 : 0 ≤ (-1) + ((-1) * γ 18510 + (1 * x + 0))) (hv : 0 + (1 * γ 18510 + 0) = x / 32) (c20 : sx_gl (γ 18511) (γ 18512) (0 + 0)) : ∃ a ∈ sx_r_d_bad1.2, ∃ w : Nat → Int, (∀ (i : Nat) p, a.1[i]? = some p → p.2.1 ≤ w i ∧ w i ≤ p.2.2) ∧ (∀ f ∈ a.2.1, 0 ≤ sx_d (sx_th γ x 0 w) f) ∧ (∃ e, a.2.2.2.head? = some e ∧ sx_d (sx_th γ x 0 w) e = x / 32) ∧ sx_G0 (sx_gu γ (sx_th γ x 0 w) a.2.2.1) A := ⟨([], [((-1), [(18510, (-1)), (19000, 1)])], [(18513, (0, []))], [(0, [(18510, 1)])]), List.Mem.head _, (fun _ => 0), fun i p hi => (by
    match i, hi with
    | n + 0, hi => simp at hi), fun f hf => (by
    simp only [List.mem_cons, List.not_mem_nil, or_false] at hf
    rcases hf with rfl
    · exact f0
    ), ⟨_, rfl, hv⟩, ⟨hG.1, hG.2.1, hG.2.2.1, hG.2.2.2.1, hG.2.2.2.2.1, hG.2.2.2.2.2.1, hG.2.2.2.2.2.2.1, hG.2.2.2.2.2.2.2.1, hG.2.2.2.2.2.2.2.2.1, hG.2.2.2.2.2.2.2.2.2.1, hG.2.2.2.2.2.2.2.2.2.2.1, hG.2.2.2.2.2.2.2.2.2.2.2.1, hG.2.2.2.2.2.2.2.2.2.2.2.2.1, hG.2.2.2.2.2.2.2.2.2.2.2.2.2.1, hG.2.2.2.2.2.2.2.2.2.2.2.2.2.2.1, hG.2.2.2.2.2.2.2.2.2.2.2.2.2.2.2.1, hG.2.2.2.2.2.2.2.2.2.2.2.2.2.2.2.2.1, hG.2.2.2.2.2.2.2.2.2.2.2.2.2.2.2.2.2.1, hG.2.2.2.2.2.2.2.2.2.2.2.2.2.2.2.2.2.2.1, hG.2.2.2.2.2.2.2.2.2.2.2.2.2.2.2.2.2.2.2.1, c20, hG.2.2.2.2.2.2.2.2.2.2.2.2.2.2.2.2.2.2.2.2.2.1, hG.2.2.2.2.2.2.2.2.2.2.2.2.2.2.2.2.2.2.2.2.2.2.1, hG.2.2.2.2.2.2.2.2.2.2.2.2.2.2.2.2.2.2.2.2.2.2.2.1, hG.2.2.2.2.2.2.2.2.2.2.2.2.2.2.2.2.2.2.2.2.2.2.2.2⟩⟩
theorem sx_q_d_bad2_0 {γ : Nat → Int} {A : Nat → Nat → Int} {x : Int} (hG : sx_G0 γ A) (f0 : 0 ≤ (-1) + ((-1) * γ 18510 + (1 * x + 0))) (hv : 0 + (1 * γ 18510 + 0) = x / 32) (c20 : sx_gl (γ 18511) (γ 18512) (0 + 0)) : ∃ a ∈ sx_r_d_bad2.2, ∃ w : Nat → Int, (∀ (i : Nat) p, a.1[i]? = some p → p.2.1 ≤ w i ∧ w i ≤ p.2.2) ∧ (∀ f ∈ a.2.1, 0 ≤ sx_d (sx_th γ x 0 w) f) ∧ (∃ e, a.2.2.2.head? = some e ∧ sx_d (sx_th γ x 0 w) e = x / 32) ∧ sx_G0 (sx_gu γ (sx_th γ x 0 w) a.2.2.1) A := ⟨([], [((-1), [(18510, (-1)), (19000, 1)])], [(18513, (0, []))], [(0, [(18510, 1)])]), List.Mem.head _, (fun _ => 0), fun i p hi => (by
    match i, hi with
    | n + 0, hi => simp at hi), fun f hf => (by
    simp only [List.mem_cons, List.not_mem_nil, or_false] at hf
    rcases hf with rfl
    · exact f0
    ), ⟨_, rfl, hv⟩, ⟨hG.1, hG.2.1, hG.2.2.1, hG.2.2.2.1, hG.2.2.2.2.1, hG.2.2.2.2.2.1, hG.2.2.2.2.2.2.1, hG.2.2.2.2.2.2.2.1, hG.2.2.2.2.2.2.2.2.1, hG.2.2.2.2.2.2.2.2.2.1, hG.2.2.2.2.2.2.2.2.2.2.1, hG.2.2.2.2.2.2.2.2.2.2.2.1, hG.2.2.2.2.2.2.2.2.2.2.2.2.1, hG.2.2.2.2.2.2.2.2.2.2.2.2.2.1, hG.2.2.2.2.2.2.2.2.2.2.2.2.2.2.1, hG.2.2.2.2.2.2.2.2.2.2.2.2.2.2.2.1, hG.2.2.2.2.2.2.2.2.2.2.2.2.2.2.2.2.1, hG.2.2.2.2.2.2.2.2.2.2.2.2.2.2.2.2.2.1, hG.2.2.2.2.2.2.2.2.2.2.2.2.2.2.2.2.2.2.1, hG.2.2.2.2.2.2.2.2.2.2.2.2.2.2.2.2.2.2.2.1, c20, hG.2.2.2.2.2.2.2.2.2.2.2.2.2.2.2.2.2.2.2.2.2.1, hG.2.2.2.2.2.2.2.2.2.2.2.2.2.2.2.2.2.2.2.2.2.2.1, hG.2.2.2.2.2.2.2.2.2.2.2.2.2.2.2.2.2.2.2.2.2.2.2.1, hG.2.2.2.2.2.2.2.2.2.2.2.2.2.2.2.2.2.2.2.2.2.2.2.2⟩⟩
theorem sx_q_d_new1_0 {γ : Nat → Int} {A : Nat → Nat → Int} {x : Int} (hG : sx_G0 γ A) (w : Nat → Int) (hw0 : 0 ≤ w 0 ∧ w 0 ≤ 288230376151711743) (f0 : 0 ≤ 0 + (1 * x + ((-32) * w 0 + 0))) (f1 : 0 ≤ 31 + ((-1) * x + (32 * w 0 + 0))) (f2 : 0 ≤ (-1) + (1 * x + ((-1) * w 0 + 0))) (hv : 0 + (1 * w 0 + 0) = x / 32) (c19 : sx_gq (0 + (1 * x + 0)) (0 + (1 * w 0 + 0))) : ∃ a ∈ sx_r_d_new1.2, ∃ w : Nat → Int, (∀ (i : Nat) p, a.1[i]? = some p → p.2.1 ≤ w i ∧ w i ≤ p.2.2) ∧ (∀ f ∈ a.2.1, 0 ≤ sx_d (sx_th γ x 0 w) f) ∧ (∃ e, a.2.2.2.head? = some e ∧ sx_d (sx_th γ x 0 w) e = x / 32) ∧ sx_G0 (sx_gu γ (sx_th γ x 0 w) a.2.2.1) A := ⟨([(0, 0, 288230376151711743)], [(0, [(19000, 1), (19002, (-32))]), (31, [(19000, (-1)), (19002, 32)]), ((-1), [(19000, 1), (19002, (-1))])], [(18509, (0, [(19000, 1)])), (18510, (0, [(19002, 1)]))], [(0, [(19002, 1)])]), List.Mem.head _, w, fun i p hi => (by
    match i, hi with
    | 0, hi => cases hi; exact hw0
    | n + 1, hi => simp at hi), fun f hf => (by
    simp only [List.mem_cons, List.not_mem_nil, or_false] at hf
    rcases hf with rfl | rfl | rfl
    · exact f0
    · exact f1
    · exact f2
    ), ⟨_, rfl, hv⟩, ⟨hG.1, hG.2.1, hG.2.2.1, hG.2.2.2.1, hG.2.2.2.2.1, hG.2.2.2.2.2.1, hG.2.2.2.2.2.2.1, hG.2.2.2.2.2.2.2.1, hG.2.2.2.2.2.2.2.2.1, hG.2.2.2.2.2.2.2.2.2.1, hG.2.2.2.2.2.2.2.2.2.2.1, hG.2.2.2.2.2.2.2.2.2.2.2.1, hG.2.2.2.2.2.2.2.2.2.2.2.2.1, hG.2.2.2.2.2.2.2.2.2.2.2.2.2.1, hG.2.2.2.2.2.2.2.2.2.2.2.2.2.2.1, hG.2.2.2.2.2.2.2.2.2.2.2.2.2.2.2.1, hG.2.2.2.2.2.2.2.2.2.2.2.2.2.2.2.2.1, hG.2.2.2.2.2.2.2.2.2.2.2.2.2.2.2.2.2.1, hG.2.2.2.2.2.2.2.2.2.2.2.2.2.2.2.2.2.2.1, c19, hG.2.2.2.2.2.2.2.2.2.2.2.2.2.2.2.2.2.2.2.2.1, hG.2.2.2.2.2.2.2.2.2.2.2.2.2.2.2.2.2.2.2.2.2.1, hG.2.2.2.2.2.2.2.2.2.2.2.2.2.2.2.2.2.2.2.2.2.2.1, hG.2.2.2.2.2.2.2.2.2.2.2.2.2.2.2.2.2.2.2.2.2.2.2.1, hG.2.2.2.2.2.2.2.2.2.2.2.2.2.2.2.2.2.2.2.2.2.2.2.2⟩⟩
theorem sx_q_d_new_0 {γ : Nat → Int} {A : Nat → Nat → Int} {x : Int} (hG : sx_G0 γ A) (w : Nat → Int) (hw0 : 0 ≤ w 0 ∧ w 0 ≤ 288230376151711743) (f0 : 0 ≤ 0 + (1 * x + ((-32) * w 0 + 0))) (f1 : 0 ≤ 31 + ((-1) * x + (32 * w 0 + 0))) (hv : 0 + (1 * w 0 + 0) = x / 32) (c19 : sx_gq (0 + (1 * x + 0)) (0 + (1 * w 0 + 0))) : ∃ a ∈ sx_r_d_new.2, ∃ w : Nat → Int, (∀ (i : Nat) p, a.1[i]? = some p → p.2.1 ≤ w i ∧ w i ≤ p.2.2) ∧ (∀ f ∈ a.2.1, 0 ≤ sx_d (sx_th γ x 0 w) f) ∧ (∃ e, a.2.2.2.head? = some e ∧ sx_d (sx_th γ x 0 w) e = x / 32) ∧ sx_G0 (sx_gu γ (sx_th γ x 0 w) a.2.2.1) A := ⟨([(0, 0, 288230376151711743)], [(0, [(19000, 1), (19002, (-32))]), (31, [(19000, (-1)), (19002, 32)])], [(18509, (0, [(19000, 1)])), (18510, (0, [(19002, 1)]))], [(0, [(19002, 1)])]), List.Mem.head _, w, fun i p hi => (by
    match i, hi with
    | 0, hi => cases hi; exact hw0
    | n + 1, hi => simp at hi), fun f hf => (by
    simp only [List.mem_cons, List.not_mem_nil, or_false] at hf
    rcases hf with rfl | rfl
    · exact f0
    · exact f1
    ), ⟨_, rfl, hv⟩, ⟨hG.1, hG.2.1, hG.2.2.1, hG.2.2.2.1, hG.2.2.2.2.1, hG.2.2.2.2.2.1, hG.2.2.2.2.2.2.1, hG.2.2.2.2.2.2.2.1, hG.2.2.2.2.2.2.2.2.1, hG.2.2.2.2.2.2.2.2.2.1, hG.2.2.2.2.2.2.2.2.2.2.1, hG.2.2.2.2.2.2.2.2.2.2.2.1, hG.2.2.2.2.2.2.2.2.2.2.2.2.1, hG.2.2.2.2.2.2.2.2.2.2.2.2.2.1, hG.2.2.2.2.2.2.2.2.2.2.2.2.2.2.1, hG.2.2.2.2.2.2.2.2.2.2.2.2.2.2.2.1, hG.2.2.2.2.2.2.2.2.2.2.2.2.2.2.2.2.1, hG.2.2.2.2.2.2.2.2.2.2.2.2.2.2.2.2.2.1, hG.2.2.2.2.2.2.2.2.2.2.2.2.2.2.2.2.2.2.1, c19, hG.2.2.2.2.2.2.2.2.2.2.2.2.2.2.2.2.2.2.2.2.1, hG.2.2.2.2.2.2.2.2.2.2.2.2.2.2.2.2.2.2.2.2.2.1, hG.2.2.2.2.2.2.2.2.2.2.2.2.2.2.2.2.2.2.2.2.2.2.1, hG.2.2.2.2.2.2.2.2.2.2.2.2.2.2.2.2.2.2.2.2.2.2.2.1, hG.2.2.2.2.2.2.2.2.2.2.2.2.2.2.2.2.2.2.2.2.2.2.2.2⟩⟩
