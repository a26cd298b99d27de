def lw_rg : List (Int × Int) := [(0, 255), (0, 255), (0, 255), (0, 255), (0, 255), (0, 255), (0, 255), (0, 255), (0, 255), (0, 255), (0, 255), (0, 255), (0, 255), (0, 255), (0, 255), (0, 255), (0, 7), (0, 7), (0, 7), (0, 7), (0, 7), (0, 7), (0, 7), (0, 7), (0, 7), (0, 7), (0, 7), (0, 7), (0, 7), (0, 7), (0, 7), (0, 7), (0, 7), (0, 7), (0, 7), (0, 7), (0, 7), (0, 7), (0, 7), (0, 7), (0, 1), (0, 1), (0, 1), (0, 1), (0, 1), (0, 1), (0, 1), (0, 1), (0, 1), (0, 1), (0, 1), (0, 1), (0, 255), (0, 255), (0, 255), (0, 255), (0, 255), (0, 255), (0, 2), (0, 2), ((-2147483648), 2147483647), (0, 1), (0, 1), (0, 1), (0, 1), (0, 1), (0, 1), (0, 1), (0, 1), (0, 1), (0, 1), (0, 1), (0, 1), (0, 1), (0, 1), (0, 1), (0, 1), (0, 1), (0, 1), (0, 1), (0, 1), (0, 1), (0, 1), (0, 1), (0, 1), (0, 8), (0, 1), (0, 8), (0, 255), (0, 255), (0, 1), (0, 8), (0, 255), (0, 1), (0, 255), (0, 1), (0, 1), (0, 1), (0, 1), (0, 1), (0, 1), (0, 1), (0, 1), (0, 1), (0, 1), (0, 1), (0, 1), (0, 1), (0, 1), (0, 1), (0, 1), (0, 1), (0, 1), (0, 1), (0, 1), (0, 1), (0, 1), (0, 1), (0, 1), (0, 1), (0, 12), (0, 12), (0, 1), (0, 1), (0, 255), (0, 8), (0, 127), (0, 85), (0, 51), (0, 63), (0, 51), (0, 15), (0, 15)]
theorem lw_rg_ok : ∀ k, k < 133 → sx_sr (18536 + k) = lw_rg.getD k (0, 0) := by decide +kernel
def lw_al : List Int → List (Int × Int) → Prop
  | a :: s, r :: t => (r.1 ≤ a ∧ a ≤ r.2) ∧ lw_al s t
  | [], [] => True
  | _, _ => False
theorem lw_al_i : ∀ {s : List Int} {t : List (Int × Int)}, lw_al s t → ∀ k, k < t.length → (t.getD k (0, 0)).1 ≤ s.getD k 0 ∧ s.getD k 0 ≤ (t.getD k (0, 0)).2 := by
  intro s
  induction s with
  | nil =>
    intro t h k hk
    cases t with
    | nil => exact absurd hk (Nat.not_lt_zero k)
    | cons r t => exact h.elim
  | cons a s ih =>
    intro t h k hk
    cases t with
    | nil => exact h.elim
    | cons r t =>
      cases k with
      | zero => exact h.1
      | succ k =>
        have := ih h.2 k (by simpa using hk)
        simpa using this
theorem lw_r255 {σ : Nat → Int} {c : Nat} (h : ∀ s, (sx_sr s).1 ≤ σ s ∧ σ s ≤ (sx_sr s).2) (e : sx_sr c = (0, 255)) : 0 ≤ σ c ∧ σ c ≤ 255 := by
  have z := h c
  rw [e] at z
  exact z
theorem lw_bw {ap bd ma mb mt : Nat → Int} {K M : Int} (h : lw_mr ap bd ma mb mt K M) (hK : K ≤ 8) (j : Nat) (hj : j < 8) (hb : 0 ≤ bd j ∧ bd j ≤ 255) : (bd j).toNat &&& (((2 ^ K.toNat : Nat) : Int) - 1).toNat = (bd j).toNat := by
  have e : (((2 ^ K.toNat : Nat) : Int) - 1).toNat = 2 ^ K.toNat - 1 := by omega
  rw [e]
  refine (lw_an1 (by omega)).mpr fun q hq hbq => ?_
  obtain ⟨m, m1, m2, m3, m4⟩ := (h.2.2 j q hj hq).mp hbq
  obtain ⟨a1, a2, a3, a4, a5, a6⟩ := h.1 m m1 m2
  rw [Nat.testBit_two_pow_sub_one]
  simp only [decide_eq_true_eq]
  omega
theorem lw_clj {P : Int} : sy_j 1 P (lw_pb P) (lw_j1 P) (lw_j2 P) (lw_j3 P) (lw_j4 P) (lw_j5 P) (lw_j6 P) (lw_j7 P) := by
  intro _ h1 h2
  obtain ⟨v1, v2, v3, v4, w1, w2, w3, w4, w5, w6, w7, w8, w9, w10, w11, w12, w13, w14⟩ := lw_qt h1 h2
  have hh : 1 ≤ P ∧ P ≤ 255 := ⟨h1, h2⟩
  unfold lw_j1 lw_j2 lw_j3 lw_j4 lw_j5 lw_j6 lw_j7 lw_pb
  rw [if_pos hh, if_pos hh, if_pos hh, if_pos hh, if_pos hh, if_pos hh, if_pos hh, if_pos hh]
  exact ⟨rfl, rfl, v1, rfl, rfl, rfl, rfl, rfl, v2, by omega⟩
theorem lw_clr {σ : Nat → Int} {P : Int} : sy_r (1) (0) (lw_v (lw_sz P (σ 135)) (lw_ok (σ 133) P (fun p => σ (18536 + p)) (fun p => σ (18544 + p)))) (lw_sz P (σ 135)) (σ 133) (sx_fshr P 0 % 2) (sx_fshr P 1 % 2) (sx_fshr P 2 % 2) (sx_fshr P 3 % 2) (sx_fshr P 4 % 2) (sx_fshr P 5 % 2) (sx_fshr P 6 % 2) (sx_fshr P 7 % 2) (lw_xa (σ 18536) P) (lw_xa (σ 18537) P) (lw_xa (σ 18538) P) (lw_xa (σ 18539) P) (lw_xa (σ 18540) P) (lw_xa (σ 18541) P) (lw_xa (σ 18542) P) (lw_xa (σ 18543) P) (lw_xb (σ 18544) P) (lw_xb (σ 18545) P) (lw_xb (σ 18546) P) (lw_xb (σ 18547) P) (lw_xb (σ 18548) P) (lw_xb (σ 18549) P) (lw_xb (σ 18550) P) (lw_xb (σ 18551) P) := by
  intro _
  have hv := lw_v_r (Q := (lw_ok (σ 133) P (fun p => σ (18536 + p)) (fun p => σ (18544 + p)))) (lw_sz_r (P := P) (Z := σ 135))
  have hk : ∀ j : Nat, j < 8 → (sy_ok (sy_8 (sx_fshr P 0 % 2) (sx_fshr P 1 % 2) (sx_fshr P 2 % 2) (sx_fshr P 3 % 2) (sx_fshr P 4 % 2) (sx_fshr P 5 % 2) (sx_fshr P 6 % 2) (sx_fshr P 7 % 2) j) (sy_8 (lw_xa (σ 18536) P) (lw_xa (σ 18537) P) (lw_xa (σ 18538) P) (lw_xa (σ 18539) P) (lw_xa (σ 18540) P) (lw_xa (σ 18541) P) (lw_xa (σ 18542) P) (lw_xa (σ 18543) P) j) (sy_8 (lw_xb (σ 18544) P) (lw_xb (σ 18545) P) (lw_xb (σ 18546) P) (lw_xb (σ 18547) P) (lw_xb (σ 18548) P) (lw_xb (σ 18549) P) (lw_xb (σ 18550) P) (lw_xb (σ 18551) P) j) ↔ (lw_bt P j = 0 ∨ (((fun p => σ (18536 + p)) j).toNat &&& P.toNat = 0 ∧ ((fun p => σ (18544 + p)) j).toNat &&& P.toNat = ((fun p => σ (18544 + p)) j).toNat))) := fun j hj => (by
    rcases (show j = 0 ∨ j = 1 ∨ j = 2 ∨ j = 3 ∨ j = 4 ∨ j = 5 ∨ j = 6 ∨ j = 7 by omega) with rfl | rfl | rfl | rfl | rfl | rfl | rfl | rfl <;> exact or_congr Iff.rfl (and_congr lw_xa_r.2 lw_xb_r.2))
  exact ⟨hv.2.2, fun j hj hjk hn => lw_v_0 (fun ho => hn ((hk j hj).mpr (ho j hj hjk))), fun ha => lw_v_1 lw_sz_r (fun j hj hjk => (hk j hj).mp (ha j hj hjk)), fun j hj hc => (by omega)⟩
theorem lw_clt {σ : Nat → Int} {P : Int} : sy_t (1) (0) (lw_v (lw_sz P (σ 135)) (lw_okm (σ 12805) P (fun p => σ (18552 + p)) (fun p => σ (18564 + p)) (fun p => σ (18576 + p)))) (lw_sz P (σ 135)) (σ 12805) (σ 18576) (σ 18577) (σ 18578) (σ 18579) (σ 18580) (σ 18581) (σ 18582) (σ 18583) (σ 18584) (σ 18585) (σ 18586) (σ 18587) (sx_fshr P (σ 18552) % 2) (sx_fshr P (σ 18553) % 2) (sx_fshr P (σ 18554) % 2) (sx_fshr P (σ 18555) % 2) (sx_fshr P (σ 18556) % 2) (sx_fshr P (σ 18557) % 2) (sx_fshr P (σ 18558) % 2) (sx_fshr P (σ 18559) % 2) (sx_fshr P (σ 18560) % 2) (sx_fshr P (σ 18561) % 2) (sx_fshr P (σ 18562) % 2) (sx_fshr P (σ 18563) % 2) (sx_fshr P (σ 18564) % 2) (sx_fshr P (σ 18565) % 2) (sx_fshr P (σ 18566) % 2) (sx_fshr P (σ 18567) % 2) (sx_fshr P (σ 18568) % 2) (sx_fshr P (σ 18569) % 2) (sx_fshr P (σ 18570) % 2) (sx_fshr P (σ 18571) % 2) (sx_fshr P (σ 18572) % 2) (sx_fshr P (σ 18573) % 2) (sx_fshr P (σ 18574) % 2) (sx_fshr P (σ 18575) % 2) := by
  intro _
  have hv := lw_v_r (Q := (lw_okm (σ 12805) P (fun p => σ (18552 + p)) (fun p => σ (18564 + p)) (fun p => σ (18576 + p)))) (lw_sz_r (P := P) (Z := σ 135))
  have hk : ∀ j : Nat, j < 12 → (sy_om (sy_c (σ 18576) (σ 18577) (σ 18578) (σ 18579) (σ 18580) (σ 18581) (σ 18582) (σ 18583) (σ 18584) (σ 18585) (σ 18586) (σ 18587) j) (sy_c (sx_fshr P (σ 18552) % 2) (sx_fshr P (σ 18553) % 2) (sx_fshr P (σ 18554) % 2) (sx_fshr P (σ 18555) % 2) (sx_fshr P (σ 18556) % 2) (sx_fshr P (σ 18557) % 2) (sx_fshr P (σ 18558) % 2) (sx_fshr P (σ 18559) % 2) (sx_fshr P (σ 18560) % 2) (sx_fshr P (σ 18561) % 2) (sx_fshr P (σ 18562) % 2) (sx_fshr P (σ 18563) % 2) j) (sy_c (sx_fshr P (σ 18564) % 2) (sx_fshr P (σ 18565) % 2) (sx_fshr P (σ 18566) % 2) (sx_fshr P (σ 18567) % 2) (sx_fshr P (σ 18568) % 2) (sx_fshr P (σ 18569) % 2) (sx_fshr P (σ 18570) % 2) (sx_fshr P (σ 18571) % 2) (sx_fshr P (σ 18572) % 2) (sx_fshr P (σ 18573) % 2) (sx_fshr P (σ 18574) % 2) (sx_fshr P (σ 18575) % 2) j) ↔ ((1 ≤ σ (18576 + j) → lw_bt P (σ (18552 + j)) = lw_bt P (σ (18564 + j))) ∧ (σ (18576 + j) ≤ 0 → lw_bt P (σ (18552 + j)) + lw_bt P (σ (18564 + j)) ≤ 1))) := fun j hj => (by
    rcases (show j = 0 ∨ j = 1 ∨ j = 2 ∨ j = 3 ∨ j = 4 ∨ j = 5 ∨ j = 6 ∨ j = 7 ∨ j = 8 ∨ j = 9 ∨ j = 10 ∨ j = 11 by omega) with rfl | rfl | rfl | rfl | rfl | rfl | rfl | rfl | rfl | rfl | rfl | rfl <;> exact Iff.rfl)
  exact ⟨hv.2.2, fun m hm hmM hn => lw_v_0 (fun ho => hn ((hk m hm).mpr (ho m hm hmM))), fun ha => lw_v_1 lw_sz_r (fun m hm hmM => (hk m hm).mp (ha m hm hmM)), fun m hm hc => (by omega)⟩
def lw_S (P : Int) (σ : Nat → Int) : Prop := σ 18595 = 1 ∧ σ 18596 = P ∧ σ 18623 = σ 133 ∧ σ 18625 = σ 135 ∧ σ 18657 = σ 12805 ∧ σ 18621 = 0 ∧ σ 18656 = 0 ∧ σ 18624 = ((2 ^ (σ 133).toNat : Nat) : Int) - 1 ∧ σ 18626 = lw_sz P (σ 135) ∧ σ 18622 = lw_v (lw_sz P (σ 135)) (lw_ok (σ 133) P (fun p => σ (18536 + p)) (fun p => σ (18544 + p))) ∧ σ 18658 = lw_v (lw_sz P (σ 135)) (lw_okm (σ 12805) P (fun p => σ (18552 + p)) (fun p => σ (18564 + p)) (fun p => σ (18576 + p)))
set_option maxHeartbeats 8000000 in
set_option maxRecDepth 100000 in
theorem lw_ch14 {σ : Nat → Int} {h : List rv_C} {P : Int} (hP : -2147483648 ≤ P ∧ P ≤ 2147483647) (hJ : lw_Js σ h) (hR : lw_R σ) (hM : lw_M σ) : ∃ σ' : Nat → Int, lw_Js σ' h ∧ lw_R σ' ∧ lw_M σ' ∧ lw_S P σ' ∧ (∀ s ∈ lw_RCM, σ' s = σ s) ∧ σ' 133 = σ 133 := by
  have hlo : ∀ c, c < 18536 → lw_ch σ h P c = σ c := fun c hc => if_neg (fun z => by omega)
  have hH := lw_hh hJ
  obtain ⟨g0, g1, g2, g3, g4, g5, g6, g7, g8, g9, g10, g11, g12, g13, g14, g15, g16, g17, g18, g19, g20, g21, g22, g23, g24, g25, g26, g27, g28, g29, g30, g31, g32, g33, g34, g35, g36⟩ := hH
  have hrn := hJ.2.1
  have hI := hJ.1.1
  obtain ⟨u1, u2, u3, u4, u5⟩ := id hM
  have hK8 := hrn 133
  rw [show sx_sr 133 = (0, 8) from by decide +kernel] at hK8
  have hM12 := hrn 12805
  rw [show sx_sr 12805 = (0, 12) from by decide +kernel] at hM12
  have htw := lw_two hK8.1 hK8.2
  have hpb := lw_pb_r (P := P)
  have hal : lw_al (lw_vl σ h P) lw_rg := ⟨((by have z := hrn 18536; rw [show sx_sr 18536 = (0, 255) from by decide +kernel] at z; exact z)), ((by have z := hrn 18537; rw [show sx_sr 18537 = (0, 255) from by decide +kernel] at z; exact z)), ((by have z := hrn 18538; rw [show sx_sr 18538 = (0, 255) from by decide +kernel] at z; exact z)), ((by have z := hrn 18539; rw [show sx_sr 18539 = (0, 255) from by decide +kernel] at z; exact z)), ((by have z := hrn 18540; rw [show sx_sr 18540 = (0, 255) from by decide +kernel] at z; exact z)), ((by have z := hrn 18541; rw [show sx_sr 18541 = (0, 255) from by decide +kernel] at z; exact z)), ((by have z := hrn 18542; rw [show sx_sr 18542 = (0, 255) from by decide +kernel] at z; exact z)), ((by have z := hrn 18543; rw [show sx_sr 18543 = (0, 255) from by decide +kernel] at z; exact z)), ((by have z := hrn 18544; rw [show sx_sr 18544 = (0, 255) from by decide +kernel] at z; exact z)), ((by have z := hrn 18545; rw [show sx_sr 18545 = (0, 255) from by decide +kernel] at z; exact z)), ((by have z := hrn 18546; rw [show sx_sr 18546 = (0, 255) from by decide +kernel] at z; exact z)), ((by have z := hrn 18547; rw [show sx_sr 18547 = (0, 255) from by decide +kernel] at z; exact z)), ((by have z := hrn 18548; rw [show sx_sr 18548 = (0, 255) from by decide +kernel] at z; exact z)), ((by have z := hrn 18549; rw [show sx_sr 18549 = (0, 255) from by decide +kernel] at z; exact z)), ((by have z := hrn 18550; rw [show sx_sr 18550 = (0, 255) from by decide +kernel] at z; exact z)), ((by have z := hrn 18551; rw [show sx_sr 18551 = (0, 255) from by decide +kernel] at z; exact z)), ((by have z := hrn 18552; rw [show sx_sr 18552 = (0, 7) from by decide +kernel] at z; exact z)), ((by have z := hrn 18553; rw [show sx_sr 18553 = (0, 7) from by decide +kernel] at z; exact z)), ((by have z := hrn 18554; rw [show sx_sr 18554 = (0, 7) from by decide +kernel] at z; exact z)), ((by have z := hrn 18555; rw [show sx_sr 18555 = (0, 7) from by decide +kernel] at z; exact z)), ((by have z := hrn 18556; rw [show sx_sr 18556 = (0, 7) from by decide +kernel] at z; exact z)), ((by have z := hrn 18557; rw [show sx_sr 18557 = (0, 7) from by decide +kernel] at z; exact z)), ((by have z := hrn 18558; rw [show sx_sr 18558 = (0, 7) from by decide +kernel] at z; exact z)), ((by have z := hrn 18559; rw [show sx_sr 18559 = (0, 7) from by decide +kernel] at z; exact z)), ((by have z := hrn 18560; rw [show sx_sr 18560 = (0, 7) from by decide +kernel] at z; exact z)), ((by have z := hrn 18561; rw [show sx_sr 18561 = (0, 7) from by decide +kernel] at z; exact z)), ((by have z := hrn 18562; rw [show sx_sr 18562 = (0, 7) from by decide +kernel] at z; exact z)), ((by have z := hrn 18563; rw [show sx_sr 18563 = (0, 7) from by decide +kernel] at z; exact z)), ((by have z := hrn 18564; rw [show sx_sr 18564 = (0, 7) from by decide +kernel] at z; exact z)), ((by have z := hrn 18565; rw [show sx_sr 18565 = (0, 7) from by decide +kernel] at z; exact z)), ((by have z := hrn 18566; rw [show sx_sr 18566 = (0, 7) from by decide +kernel] at z; exact z)), ((by have z := hrn 18567; rw [show sx_sr 18567 = (0, 7) from by decide +kernel] at z; exact z)), ((by have z := hrn 18568; rw [show sx_sr 18568 = (0, 7) from by decide +kernel] at z; exact z)), ((by have z := hrn 18569; rw [show sx_sr 18569 = (0, 7) from by decide +kernel] at z; exact z)), ((by have z := hrn 18570; rw [show sx_sr 18570 = (0, 7) from by decide +kernel] at z; exact z)), ((by have z := hrn 18571; rw [show sx_sr 18571 = (0, 7) from by decide +kernel] at z; exact z)), ((by have z := hrn 18572; rw [show sx_sr 18572 = (0, 7) from by decide +kernel] at z; exact z)), ((by have z := hrn 18573; rw [show sx_sr 18573 = (0, 7) from by decide +kernel] at z; exact z)), ((by have z := hrn 18574; rw [show sx_sr 18574 = (0, 7) from by decide +kernel] at z; exact z)), ((by have z := hrn 18575; rw [show sx_sr 18575 = (0, 7) from by decide +kernel] at z; exact z)), ((by have z := hrn 18576; rw [show sx_sr 18576 = (0, 1) from by decide +kernel] at z; exact z)), ((by have z := hrn 18577; rw [show sx_sr 18577 = (0, 1) from by decide +kernel] at z; exact z)), ((by have z := hrn 18578; rw [show sx_sr 18578 = (0, 1) from by decide +kernel] at z; exact z)), ((by have z := hrn 18579; rw [show sx_sr 18579 = (0, 1) from by decide +kernel] at z; exact z)), ((by have z := hrn 18580; rw [show sx_sr 18580 = (0, 1) from by decide +kernel] at z; exact z)), ((by have z := hrn 18581; rw [show sx_sr 18581 = (0, 1) from by decide +kernel] at z; exact z)), ((by have z := hrn 18582; rw [show sx_sr 18582 = (0, 1) from by decide +kernel] at z; exact z)), ((by have z := hrn 18583; rw [show sx_sr 18583 = (0, 1) from by decide +kernel] at z; exact z)), ((by have z := hrn 18584; rw [show sx_sr 18584 = (0, 1) from by decide +kernel] at z; exact z)), ((by have z := hrn 18585; rw [show sx_sr 18585 = (0, 1) from by decide +kernel] at z; exact z)), ((by have z := hrn 18586; rw [show sx_sr 18586 = (0, 1) from by decide +kernel] at z; exact z)), ((by have z := hrn 18587; rw [show sx_sr 18587 = (0, 1) from by decide +kernel] at z; exact z)), ((by have z := hrn 18588; rw [show sx_sr 18588 = (0, 255) from by decide +kernel] at z; exact z)), ((by have z := hrn 18589; rw [show sx_sr 18589 = (0, 255) from by decide +kernel] at z; exact z)), ((by have z := hrn 18590; rw [show sx_sr 18590 = (0, 255) from by decide +kernel] at z; exact z)), ((by have z := hrn 18591; rw [show sx_sr 18591 = (0, 255) from by decide +kernel] at z; exact z)), ((by have z := hrn 18592; rw [show sx_sr 18592 = (0, 255) from by decide +kernel] at z; exact z)), ((by have z := hrn 18593; rw [show sx_sr 18593 = (0, 255) from by decide +kernel] at z; exact z)), ((by have z := hrn 18594; rw [show sx_sr 18594 = (0, 2) from by decide +kernel] at z; exact z)), (⟨by decide, by decide⟩), (hP), (⟨by show (0 : Int) ≤ sx_fshr P 0 % 2; omega, by show sx_fshr P 0 % 2 ≤ (1 : Int); omega⟩), (⟨by show (0 : Int) ≤ sx_fshr P 1 % 2; omega, by show sx_fshr P 1 % 2 ≤ (1 : Int); omega⟩), (⟨by show (0 : Int) ≤ sx_fshr P 2 % 2; omega, by show sx_fshr P 2 % 2 ≤ (1 : Int); omega⟩), (⟨by show (0 : Int) ≤ sx_fshr P 3 % 2; omega, by show sx_fshr P 3 % 2 ≤ (1 : Int); omega⟩), (⟨by show (0 : Int) ≤ sx_fshr P 4 % 2; omega, by show sx_fshr P 4 % 2 ≤ (1 : Int); omega⟩), (⟨by show (0 : Int) ≤ sx_fshr P 5 % 2; omega, by show sx_fshr P 5 % 2 ≤ (1 : Int); omega⟩), (⟨by show (0 : Int) ≤ sx_fshr P 6 % 2; omega, by show sx_fshr P 6 % 2 ≤ (1 : Int); omega⟩), (⟨by show (0 : Int) ≤ sx_fshr P 7 % 2; omega, by show sx_fshr P 7 % 2 ≤ (1 : Int); omega⟩), (lw_xa_r.1), (lw_xa_r.1), (lw_xa_r.1), (lw_xa_r.1), (lw_xa_r.1), (lw_xa_r.1), (lw_xa_r.1), (lw_xa_r.1), (lw_xb_r.1), (lw_xb_r.1), (lw_xb_r.1), (lw_xb_r.1), (lw_xb_r.1), (lw_xb_r.1), (lw_xb_r.1), (lw_xb_r.1), (⟨by decide, by decide⟩), (⟨(lw_v_r lw_sz_r).1, (lw_v_r lw_sz_r).2.1⟩), (hK8), (⟨by show (0 : Int) ≤ ((2 ^ (σ 133).toNat : Nat) : Int) - 1; omega, by show ((2 ^ (σ 133).toNat : Nat) : Int) - 1 ≤ (255 : Int); omega⟩), (⟨by show (0 : Int) ≤ σ 135; omega, u3⟩), (lw_sz_r), (⟨by show (0 : Int) ≤ lw_pb P; omega, hpb.2⟩), ((by have z := hrn 18628; rw [show sx_sr 18628 = (0, 255) from by decide +kernel] at z; exact z)), ((by have z := hrn 18629; rw [show sx_sr 18629 = (0, 1) from by decide +kernel] at z; exact z)), ((by have z := hrn 18630; rw [show sx_sr 18630 = (0, 255) from by decide +kernel] at z; exact z)), ((by have z := hrn 18631; rw [show sx_sr 18631 = (0, 1) from by decide +kernel] at z; exact z)), (⟨by show (0 : Int) ≤ sx_fshr P (σ 18552) % 2; omega, by show sx_fshr P (σ 18552) % 2 ≤ (1 : Int); omega⟩), (⟨by show (0 : Int) ≤ sx_fshr P (σ 18553) % 2; omega, by show sx_fshr P (σ 18553) % 2 ≤ (1 : Int); omega⟩), (⟨by show (0 : Int) ≤ sx_fshr P (σ 18554) % 2; omega, by show sx_fshr P (σ 18554) % 2 ≤ (1 : Int); omega⟩), (⟨by show (0 : Int) ≤ sx_fshr P (σ 18555) % 2; omega, by show sx_fshr P (σ 18555) % 2 ≤ (1 : Int); omega⟩), (⟨by show (0 : Int) ≤ sx_fshr P (σ 18556) % 2; omega, by show sx_fshr P (σ 18556) % 2 ≤ (1 : Int); omega⟩), (⟨by show (0 : Int) ≤ sx_fshr P (σ 18557) % 2; omega, by show sx_fshr P (σ 18557) % 2 ≤ (1 : Int); omega⟩), (⟨by show (0 : Int) ≤ sx_fshr P (σ 18558) % 2; omega, by show sx_fshr P (σ 18558) % 2 ≤ (1 : Int); omega⟩), (⟨by show (0 : Int) ≤ sx_fshr P (σ 18559) % 2; omega, by show sx_fshr P (σ 18559) % 2 ≤ (1 : Int); omega⟩), (⟨by show (0 : Int) ≤ sx_fshr P (σ 18560) % 2; omega, by show sx_fshr P (σ 18560) % 2 ≤ (1 : Int); omega⟩), (⟨by show (0 : Int) ≤ sx_fshr P (σ 18561) % 2; omega, by show sx_fshr P (σ 18561) % 2 ≤ (1 : Int); omega⟩), (⟨by show (0 : Int) ≤ sx_fshr P (σ 18562) % 2; omega, by show sx_fshr P (σ 18562) % 2 ≤ (1 : Int); omega⟩), (⟨by show (0 : Int) ≤ sx_fshr P (σ 18563) % 2; omega, by show sx_fshr P (σ 18563) % 2 ≤ (1 : Int); omega⟩), (⟨by show (0 : Int) ≤ sx_fshr P (σ 18564) % 2; omega, by show sx_fshr P (σ 18564) % 2 ≤ (1 : Int); omega⟩), (⟨by show (0 : Int) ≤ sx_fshr P (σ 18565) % 2; omega, by show sx_fshr P (σ 18565) % 2 ≤ (1 : Int); omega⟩), (⟨by show (0 : Int) ≤ sx_fshr P (σ 18566) % 2; omega, by show sx_fshr P (σ 18566) % 2 ≤ (1 : Int); omega⟩), (⟨by show (0 : Int) ≤ sx_fshr P (σ 18567) % 2; omega, by show sx_fshr P (σ 18567) % 2 ≤ (1 : Int); omega⟩), (⟨by show (0 : Int) ≤ sx_fshr P (σ 18568) % 2; omega, by show sx_fshr P (σ 18568) % 2 ≤ (1 : Int); omega⟩), (⟨by show (0 : Int) ≤ sx_fshr P (σ 18569) % 2; omega, by show sx_fshr P (σ 18569) % 2 ≤ (1 : Int); omega⟩), (⟨by show (0 : Int) ≤ sx_fshr P (σ 18570) % 2; omega, by show sx_fshr P (σ 18570) % 2 ≤ (1 : Int); omega⟩), (⟨by show (0 : Int) ≤ sx_fshr P (σ 18571) % 2; omega, by show sx_fshr P (σ 18571) % 2 ≤ (1 : Int); omega⟩), (⟨by show (0 : Int) ≤ sx_fshr P (σ 18572) % 2; omega, by show sx_fshr P (σ 18572) % 2 ≤ (1 : Int); omega⟩), (⟨by show (0 : Int) ≤ sx_fshr P (σ 18573) % 2; omega, by show sx_fshr P (σ 18573) % 2 ≤ (1 : Int); omega⟩), (⟨by show (0 : Int) ≤ sx_fshr P (σ 18574) % 2; omega, by show sx_fshr P (σ 18574) % 2 ≤ (1 : Int); omega⟩), (⟨by show (0 : Int) ≤ sx_fshr P (σ 18575) % 2; omega, by show sx_fshr P (σ 18575) % 2 ≤ (1 : Int); omega⟩), (⟨by decide, by decide⟩), (hM12), (⟨(lw_v_r lw_sz_r).1, (lw_v_r lw_sz_r).2.1⟩), (lw_lg_r hI), (⟨by decide, by decide⟩), (⟨by decide, by decide⟩), (lw_jr1 P), (lw_jr2 P), (lw_jr3 P), (lw_jr4 P), (lw_jr5 P), (lw_jr6 P), (lw_jr7 P), True.intro⟩
  have kM : ∀ s ∈ lw_RCM, lw_ch σ h P s = σ s := by
    intro s hs
    simp only [lw_RCM, List.mem_cons, List.not_mem_nil, or_false] at hs
    rcases hs with rfl | rfl | rfl | rfl | rfl | rfl | rfl | rfl | rfl | rfl | rfl | rfl | rfl | rfl | rfl | rfl | rfl | rfl | rfl | rfl | rfl | rfl | rfl | rfl | rfl | rfl | rfl | rfl | rfl | rfl | rfl | rfl | rfl | rfl | rfl | rfl | rfl | rfl | rfl | rfl | rfl | rfl | rfl | rfl | rfl | rfl | rfl | rfl | rfl | rfl | rfl | rfl | rfl | rfl | rfl | rfl <;> rfl
  refine ⟨lw_ch σ h P, lw_re hJ hlo (fun s hs => ?_) ⟨(g0), (g1), (g2), (g3), (g4), (g5), (g6), (g7), (g8), (fun _ => ⟨rfl, rfl, rfl, rfl, rfl, rfl, rfl, rfl⟩), (fun _ => ⟨lw_xa_r.2, lw_xb_r.2, lw_bw u5 hK8.2 0 (by decide) (by have z := hrn 18544; rw [show sx_sr 18544 = (0, 255) from by decide +kernel] at z; exact z)⟩), (fun _ => ⟨lw_xa_r.2, lw_xb_r.2, lw_bw u5 hK8.2 1 (by decide) (by have z := hrn 18545; rw [show sx_sr 18545 = (0, 255) from by decide +kernel] at z; exact z)⟩), (fun _ => ⟨lw_xa_r.2, lw_xb_r.2, lw_bw u5 hK8.2 2 (by decide) (by have z := hrn 18546; rw [show sx_sr 18546 = (0, 255) from by decide +kernel] at z; exact z)⟩), (fun _ => ⟨lw_xa_r.2, lw_xb_r.2, lw_bw u5 hK8.2 3 (by decide) (by have z := hrn 18547; rw [show sx_sr 18547 = (0, 255) from by decide +kernel] at z; exact z)⟩), (fun _ => ⟨lw_xa_r.2, lw_xb_r.2, lw_bw u5 hK8.2 4 (by decide) (by have z := hrn 18548; rw [show sx_sr 18548 = (0, 255) from by decide +kernel] at z; exact z)⟩), (fun _ => ⟨lw_xa_r.2, lw_xb_r.2, lw_bw u5 hK8.2 5 (by decide) (by have z := hrn 18549; rw [show sx_sr 18549 = (0, 255) from by decide +kernel] at z; exact z)⟩), (fun _ => ⟨lw_xa_r.2, lw_xb_r.2, lw_bw u5 hK8.2 6 (by decide) (by have z := hrn 18550; rw [show sx_sr 18550 = (0, 255) from by decide +kernel] at z; exact z)⟩), (fun _ => ⟨lw_xa_r.2, lw_xb_r.2, lw_bw u5 hK8.2 7 (by decide) (by have z := hrn 18551; rw [show sx_sr 18551 = (0, 255) from by decide +kernel] at z; exact z)⟩), (fun _ => (by show ((2 ^ (σ 133).toNat : Nat) : Int) - 1 + 1 = ((2 ^ (σ 133).toNat : Nat) : Int); omega)), (fun _ => ⟨rfl, fun z1 z2 => ⟨(show lw_pb P = ((sx_pop P.toNat : Nat) : Int) from if_pos ⟨z1, z2⟩), hpb.1⟩⟩), (lw_clj), (fun _ => ⟨rfl, rfl, fun z => ⟨(u5.1 0 (by decide) z).2.1, (u5.1 0 (by decide) z).2.2.2.1⟩⟩), (fun _ => ⟨rfl, rfl, fun z => ⟨(u5.1 1 (by decide) z).2.1, (u5.1 1 (by decide) z).2.2.2.1⟩⟩), (fun _ => ⟨rfl, rfl, fun z => ⟨(u5.1 2 (by decide) z).2.1, (u5.1 2 (by decide) z).2.2.2.1⟩⟩), (fun _ => ⟨rfl, rfl, fun z => ⟨(u5.1 3 (by decide) z).2.1, (u5.1 3 (by decide) z).2.2.2.1⟩⟩), (fun _ => ⟨rfl, rfl, fun z => ⟨(u5.1 4 (by decide) z).2.1, (u5.1 4 (by decide) z).2.2.2.1⟩⟩), (fun _ => ⟨rfl, rfl, fun z => ⟨(u5.1 5 (by decide) z).2.1, (u5.1 5 (by decide) z).2.2.2.1⟩⟩), (fun _ => ⟨rfl, rfl, fun z => ⟨(u5.1 6 (by decide) z).2.1, (u5.1 6 (by decide) z).2.2.2.1⟩⟩), (fun _ => ⟨rfl, rfl, fun z => ⟨(u5.1 7 (by decide) z).2.1, (u5.1 7 (by decide) z).2.2.2.1⟩⟩), (fun _ => ⟨rfl, rfl, fun z => ⟨(u5.1 8 (by decide) z).2.1, (u5.1 8 (by decide) z).2.2.2.1⟩⟩), (fun _ => ⟨rfl, rfl, fun z => ⟨(u5.1 9 (by decide) z).2.1, (u5.1 9 (by decide) z).2.2.2.1⟩⟩), (fun _ => ⟨rfl, rfl, fun z => ⟨(u5.1 10 (by decide) z).2.1, (u5.1 10 (by decide) z).2.2.2.1⟩⟩), (fun _ => ⟨rfl, rfl, fun z => ⟨(u5.1 11 (by decide) z).2.1, (u5.1 11 (by decide) z).2.2.2.1⟩⟩), (lw_clr), (lw_clt), (fun _ z1 z2 => (if_pos ⟨z1, z2⟩).symm), (fun _ => (show (0 : Int) = ((sx_pop (0 : Int).toNat : Nat) : Int) from by decide))⟩, lw_R_cg (fun s hs => hlo s (lw_RC_lo s hs)) hR, lw_M_cg kM (Int.le_of_eq rfl) hM, ⟨rfl, rfl, rfl, rfl, rfl, rfl, rfl, rfl, rfl, (by
    show lw_v (lw_sz P (σ 135)) (lw_ok (σ 133) P (fun p => σ (18536 + p)) (fun p => σ (18544 + p))) = lw_v (lw_sz P (σ 135)) (lw_ok (σ 133) P (fun p => lw_ch σ h P (18536 + p)) (fun p => lw_ch σ h P (18544 + p)))
    exact lw_v_iff (lw_ok_cg (fun j hj => (by rcases (show j = 0 ∨ j = 1 ∨ j = 2 ∨ j = 3 ∨ j = 4 ∨ j = 5 ∨ j = 6 ∨ j = 7 by omega) with rfl | rfl | rfl | rfl | rfl | rfl | rfl | rfl <;> rfl)) (fun j hj => (by rcases (show j = 0 ∨ j = 1 ∨ j = 2 ∨ j = 3 ∨ j = 4 ∨ j = 5 ∨ j = 6 ∨ j = 7 by omega) with rfl | rfl | rfl | rfl | rfl | rfl | rfl | rfl <;> rfl)))), (by
    show lw_v (lw_sz P (σ 135)) (lw_okm (σ 12805) P (fun p => σ (18552 + p)) (fun p => σ (18564 + p)) (fun p => σ (18576 + p))) = lw_v (lw_sz P (σ 135)) (lw_okm (σ 12805) P (fun p => lw_ch σ h P (18552 + p)) (fun p => lw_ch σ h P (18564 + p)) (fun p => lw_ch σ h P (18576 + p)))
    exact lw_v_iff (lw_okm_cg (fun j hj => (by rcases (show j = 0 ∨ j = 1 ∨ j = 2 ∨ j = 3 ∨ j = 4 ∨ j = 5 ∨ j = 6 ∨ j = 7 ∨ j = 8 ∨ j = 9 ∨ j = 10 ∨ j = 11 by omega) with rfl | rfl | rfl | rfl | rfl | rfl | rfl | rfl | rfl | rfl | rfl | rfl <;> rfl)) (fun j hj => (by rcases (show j = 0 ∨ j = 1 ∨ j = 2 ∨ j = 3 ∨ j = 4 ∨ j = 5 ∨ j = 6 ∨ j = 7 ∨ j = 8 ∨ j = 9 ∨ j = 10 ∨ j = 11 by omega) with rfl | rfl | rfl | rfl | rfl | rfl | rfl | rfl | rfl | rfl | rfl | rfl <;> rfl)) (fun j hj => (by rcases (show j = 0 ∨ j = 1 ∨ j = 2 ∨ j = 3 ∨ j = 4 ∨ j = 5 ∨ j = 6 ∨ j = 7 ∨ j = 8 ∨ j = 9 ∨ j = 10 ∨ j = 11 by omega) with rfl | rfl | rfl | rfl | rfl | rfl | rfl | rfl | rfl | rfl | rfl | rfl <;> rfl))))⟩, kM, rfl⟩
  · by_cases e : s < 18669
    · have h1 := lw_al_i hal (s - 18536) (by show s - 18536 < 133; omega)
      rw [← lw_rg_ok (s - 18536) (by omega), show 18536 + (s - 18536) = s by omega] at h1
      show (sx_sr s).1 ≤ (if 18536 ≤ s ∧ s < 18669 then _ else _) ∧ (if 18536 ≤ s ∧ s < 18669 then _ else _) ≤ (sx_sr s).2
      rw [if_pos ⟨hs, e⟩]
      exact h1
    · show (sx_sr s).1 ≤ (if 18536 ≤ s ∧ s < 18669 then _ else _) ∧ (if 18536 ≤ s ∧ s < 18669 then _ else _) ≤ (sx_sr s).2
      rw [if_neg (fun z => by omega)]
      exact hrn s
theorem lw_pre14x {σ : Nat → Int} {as : List rv_A} {P : Int} (hS : lw_S P σ) (hA : lw_av as 1 = P) : ∀ τ : Nat → Int, (∀ s, s < 19000 → τ s = σ s) → (∀ s, 19000 ≤ s → s < 20000 → τ s = lw_av as (s - 19000)) → ∀ f ∈ sx_c217.2.2.2.1, 0 ≤ sx_d τ f := by
  intro τ ht ha f hf
  have t133 := ht 133 (by decide)
  have t135 := ht 135 (by decide)
  have t18595 := ht 18595 (by decide)
  have t18596 := ht 18596 (by decide)
  have t18621 := ht 18621 (by decide)
  have t18622 := ht 18622 (by decide)
  have t18623 := ht 18623 (by decide)
  have t18625 := ht 18625 (by decide)
  have t18626 := ht 18626 (by decide)
  have t19001 : τ 19001 = P := (ha 19001 (by decide) (by decide)).trans hA
  obtain ⟨s1, s2, s3, s4, s5, s6, s7, s8, s9, s10, s11⟩ := hS
  have hv := (lw_v_r (Q := (lw_ok (σ 133) P (fun p => σ (18536 + p)) (fun p => σ (18544 + p)))) (lw_sz_r (P := P) (Z := σ 135))).2.2
  replace hf : f ∈ ([((-1), [(18595, 1)]), (1, [(18595, (-1))]), (0, [(18596, 1), (19001, (-1))]), (0, [(18596, (-1)), (19001, 1)]), (0, [(133, (-1)), (18623, 1)]), (0, [(133, 1), (18623, (-1))]), (0, [(135, (-1)), (18625, 1)]), (0, [(135, 1), (18625, (-1))]), (0, [(18622, (-1)), (18626, 1)]), (0, [(18621, (-1))])] : List sx_F) := hf
  simp only [List.mem_cons, List.not_mem_nil, or_false] at hf
  rcases hf with rfl | rfl | rfl | rfl | rfl | rfl | rfl | rfl | rfl | rfl
  · show 0 ≤ (-1) + (1 * τ 18595 + 0)
    omega
  · show 0 ≤ 1 + ((-1) * τ 18595 + 0)
    omega
  · show 0 ≤ 0 + (1 * τ 18596 + ((-1) * τ 19001 + 0))
    omega
  · show 0 ≤ 0 + ((-1) * τ 18596 + (1 * τ 19001 + 0))
    omega
  · show 0 ≤ 0 + ((-1) * τ 133 + (1 * τ 18623 + 0))
    omega
  · show 0 ≤ 0 + (1 * τ 133 + ((-1) * τ 18623 + 0))
    omega
  · show 0 ≤ 0 + ((-1) * τ 135 + (1 * τ 18625 + 0))
    omega
  · show 0 ≤ 0 + (1 * τ 135 + ((-1) * τ 18625 + 0))
    omega
  · show 0 ≤ 0 + ((-1) * τ 18622 + (1 * τ 18626 + 0))
    omega
  · show 0 ≤ 0 + ((-1) * τ 18621 + 0)
    omega
theorem lw_pre14m {σ : Nat → Int} {as : List rv_A} {P : Int} (hS : lw_S P σ) (hR : lw_R σ) (hM : lw_M σ) (hA : lw_av as 1 = P) : ∀ τ : Nat → Int, (∀ s, s < 19000 → τ s = σ s) → (∀ s, 19000 ≤ s → s < 20000 → τ s = lw_av as (s - 19000)) → ∀ f ∈ sx_c313.2.2.2.1, 0 ≤ sx_d τ f := by
  intro τ ht ha f hf
  have t12804 := ht 12804 (by decide)
  have t12805 := ht 12805 (by decide)
  have t12806 := ht 12806 (by decide)
  have t18595 := ht 18595 (by decide)
  have t18596 := ht 18596 (by decide)
  have t18623 := ht 18623 (by decide)
  have t18625 := ht 18625 (by decide)
  have t18626 := ht 18626 (by decide)
  have t18656 := ht 18656 (by decide)
  have t18657 := ht 18657 (by decide)
  have t18658 := ht 18658 (by decide)
  have t19001 : τ 19001 = P := (ha 19001 (by decide) (by decide)).trans hA
  obtain ⟨s1, s2, s3, s4, s5, s6, s7, s8, s9, s10, s11⟩ := hS
  have hv := (lw_v_r (Q := (lw_okm (σ 12805) P (fun p => σ (18552 + p)) (fun p => σ (18564 + p)) (fun p => σ (18576 + p)))) (lw_sz_r (P := P) (Z := σ 135))).2.2
  have r0 := hR.1
  have m0 := hM.1
  replace hf : f ∈ ([((-1), [(18595, 1)]), (1, [(18595, (-1))]), (0, [(18596, 1), (19001, (-1))]), (0, [(18596, (-1)), (19001, 1)]), (0, [(12804, (-1)), (18623, 1)]), (0, [(12804, 1), (18623, (-1))]), (0, [(12806, (-1)), (18625, 1)]), (0, [(12806, 1), (18625, (-1))]), (0, [(12805, (-1)), (18657, 1)]), (0, [(12805, 1), (18657, (-1))]), (0, [(18626, 1), (18658, (-1))]), (0, [(18656, (-1))])] : List sx_F) := hf
  simp only [List.mem_cons, List.not_mem_nil, or_false] at hf
  rcases hf with rfl | rfl | rfl | rfl | rfl | rfl | rfl | rfl | rfl | rfl | rfl | rfl
  · show 0 ≤ (-1) + (1 * τ 18595 + 0)
    omega
  · show 0 ≤ 1 + ((-1) * τ 18595 + 0)
    omega
  · show 0 ≤ 0 + (1 * τ 18596 + ((-1) * τ 19001 + 0))
    omega
  · show 0 ≤ 0 + ((-1) * τ 18596 + (1 * τ 19001 + 0))
    omega
  · show 0 ≤ 0 + ((-1) * τ 12804 + (1 * τ 18623 + 0))
    omega
  · show 0 ≤ 0 + (1 * τ 12804 + ((-1) * τ 18623 + 0))
    omega
  · show 0 ≤ 0 + ((-1) * τ 12806 + (1 * τ 18625 + 0))
    omega
  · show 0 ≤ 0 + (1 * τ 12806 + ((-1) * τ 18625 + 0))
    omega
  · show 0 ≤ 0 + ((-1) * τ 12805 + (1 * τ 18657 + 0))
    omega
  · show 0 ≤ 0 + (1 * τ 12805 + ((-1) * τ 18657 + 0))
    omega
  · show 0 ≤ 0 + (1 * τ 18626 + ((-1) * τ 18658 + 0))
    omega
  · show 0 ≤ 0 + ((-1) * τ 18656 + 0)
    omega
def lw_lx_C (a1 z : Int) (σ σ' : Nat → Int) : Prop := (z = -1 ∧ (a1 ≤ 0 ∨ σ 18624 + 1 ≤ a1)) ∨ (z = 0 ∧ 1 ≤ a1 ∧ a1 ≤ σ 18624 ∧ σ 18622 ≤ 0) ∨ (z = 1 ∧ 1 ≤ a1 ∧ a1 ≤ σ 18624 ∧ 1 ≤ σ 18622)
theorem lw_lx_0 {as : List rv_A} {σ σ' : Nat → Int} {o : rv_O} {x : Int32} {a1 : Int} {τ : Nat → Int} (hx : o.1 = some (.inl x)) (h1 : lw_av as 1 = a1) (hb : ∀ s, (sx_sr s).1 ≤ σ s ∧ σ s ≤ (sx_sr s).2) (hW : lw_W ([], [(0, [(19001, (-1))]), (0, [(18622, (-1)), (18626, 1)]), (0, [(135, 1), (18625, (-1))]), (0, [(135, (-1)), (18625, 1)]), (0, [(133, 1), (18623, (-1))]), (0, [(133, (-1)), (18623, 1)]), (0, [(18596, (-1)), (19001, 1)]), (0, [(18596, 1), (19001, (-1))])], [(9, (1, []))], some (false, ((-1), []))) as σ σ' τ o) : lw_lx_C a1 x.toInt σ σ' := by
  unfold lw_lx_C
  have b18624 : 0 ≤ σ 18624 ∧ σ 18624 ≤ 255 := by
    have h0 := hb 18624
    rw [show sx_sr 18624 = (0, 255) from by decide +kernel] at h0
    exact h0
  have b18622 : 0 ≤ σ 18622 ∧ σ 18622 ≤ 1 := by
    have h0 := hb 18622
    rw [show sx_sr 18622 = (0, 1) from by decide +kernel] at h0
    exact h0
  obtain ⟨hs, ht, hf, hr, hm, hw⟩ := hW
  have e1 : τ 19001 = a1 := by rw [ht 19001 (by decide) (by decide)]; exact h1
  have s18622 : τ 18622 = σ 18622 := hs 18622 (by decide)
  have s18624 : τ 18624 = σ 18624 := hs 18624 (by decide)
  clear hs ht hb
  rw [hx] at hr
  obtain ⟨y, hy, hv⟩ := hr
  cases hy
  replace hv : x.toInt = (-1) + 0 := hv
  have f0 : 0 ≤ 0 + ((-1) * τ 19001 + 0) := hf _ (List.Mem.head _)
  have f1 : 0 ≤ 0 + ((-1) * τ 18622 + (1 * τ 18626 + 0)) := hf _ (List.Mem.tail _ (List.Mem.head _))
  have f2 : 0 ≤ 0 + (1 * τ 135 + ((-1) * τ 18625 + 0)) := hf _ (List.Mem.tail _ (List.Mem.tail _ (List.Mem.head _)))
  have f3 : 0 ≤ 0 + ((-1) * τ 135 + (1 * τ 18625 + 0)) := hf _ (List.Mem.tail _ (List.Mem.tail _ (List.Mem.tail _ (List.Mem.head _))))
  have f4 : 0 ≤ 0 + (1 * τ 133 + ((-1) * τ 18623 + 0)) := hf _ (List.Mem.tail _ (List.Mem.tail _ (List.Mem.tail _ (List.Mem.tail _ (List.Mem.head _)))))
  have f5 : 0 ≤ 0 + ((-1) * τ 133 + (1 * τ 18623 + 0)) := hf _ (List.Mem.tail _ (List.Mem.tail _ (List.Mem.tail _ (List.Mem.tail _ (List.Mem.tail _ (List.Mem.head _))))))
  have f6 : 0 ≤ 0 + ((-1) * τ 18596 + (1 * τ 19001 + 0)) := hf _ (List.Mem.tail _ (List.Mem.tail _ (List.Mem.tail _ (List.Mem.tail _ (List.Mem.tail _ (List.Mem.tail _ (List.Mem.head _)))))))
  have f7 : 0 ≤ 0 + (1 * τ 18596 + ((-1) * τ 19001 + 0)) := hf _ (List.Mem.tail _ (List.Mem.tail _ (List.Mem.tail _ (List.Mem.tail _ (List.Mem.tail _ (List.Mem.tail _ (List.Mem.tail _ (List.Mem.head _))))))))
  clear hf hm
  omega
theorem lw_lx_1 {as : List rv_A} {σ σ' : Nat → Int} {o : rv_O} {x : Int32} {a1 : Int} {τ : Nat → Int} (hx : o.1 = some (.inl x)) (h1 : lw_av as 1 = a1) (hb : ∀ s, (sx_sr s).1 ≤ σ s ∧ σ s ≤ (sx_sr s).2) (hW : lw_W ([], [((-1), [(19001, 1)]), ((-1), [(18624, (-1)), (19001, 1)]), (0, [(18622, (-1)), (18626, 1)]), (0, [(135, 1), (18625, (-1))]), (0, [(135, (-1)), (18625, 1)]), (0, [(133, 1), (18623, (-1))]), (0, [(133, (-1)), (18623, 1)]), (0, [(18596, (-1)), (19001, 1)]), (0, [(18596, 1), (19001, (-1))])], [(9, (1, []))], some (false, ((-1), []))) as σ σ' τ o) : lw_lx_C a1 x.toInt σ σ' := by
  unfold lw_lx_C
  have b18624 : 0 ≤ σ 18624 ∧ σ 18624 ≤ 255 := by
    have h0 := hb 18624
    rw [show sx_sr 18624 = (0, 255) from by decide +kernel] at h0
    exact h0
  have b18622 : 0 ≤ σ 18622 ∧ σ 18622 ≤ 1 := by
    have h0 := hb 18622
    rw [show sx_sr 18622 = (0, 1) from by decide +kernel] at h0
    exact h0
  obtain ⟨hs, ht, hf, hr, hm, hw⟩ := hW
  have e1 : τ 19001 = a1 := by rw [ht 19001 (by decide) (by decide)]; exact h1
  have s18622 : τ 18622 = σ 18622 := hs 18622 (by decide)
  have s18624 : τ 18624 = σ 18624 := hs 18624 (by decide)
  clear hs ht hb
  rw [hx] at hr
  obtain ⟨y, hy, hv⟩ := hr
  cases hy
  replace hv : x.toInt = (-1) + 0 := hv
  have f0 : 0 ≤ (-1) + (1 * τ 19001 + 0) := hf _ (List.Mem.head _)
  have f1 : 0 ≤ (-1) + ((-1) * τ 18624 + (1 * τ 19001 + 0)) := hf _ (List.Mem.tail _ (List.Mem.head _))
  have f2 : 0 ≤ 0 + ((-1) * τ 18622 + (1 * τ 18626 + 0)) := hf _ (List.Mem.tail _ (List.Mem.tail _ (List.Mem.head _)))
  have f3 : 0 ≤ 0 + (1 * τ 135 + ((-1) * τ 18625 + 0)) := hf _ (List.Mem.tail _ (List.Mem.tail _ (List.Mem.tail _ (List.Mem.head _))))
  have f4 : 0 ≤ 0 + ((-1) * τ 135 + (1 * τ 18625 + 0)) := hf _ (List.Mem.tail _ (List.Mem.tail _ (List.Mem.tail _ (List.Mem.tail _ (List.Mem.head _)))))
  have f5 : 0 ≤ 0 + (1 * τ 133 + ((-1) * τ 18623 + 0)) := hf _ (List.Mem.tail _ (List.Mem.tail _ (List.Mem.tail _ (List.Mem.tail _ (List.Mem.tail _ (List.Mem.head _))))))
  have f6 : 0 ≤ 0 + ((-1) * τ 133 + (1 * τ 18623 + 0)) := hf _ (List.Mem.tail _ (List.Mem.tail _ (List.Mem.tail _ (List.Mem.tail _ (List.Mem.tail _ (List.Mem.tail _ (List.Mem.head _)))))))
  have f7 : 0 ≤ 0 + ((-1) * τ 18596 + (1 * τ 19001 + 0)) := hf _ (List.Mem.tail _ (List.Mem.tail _ (List.Mem.tail _ (List.Mem.tail _ (List.Mem.tail _ (List.Mem.tail _ (List.Mem.tail _ (List.Mem.head _))))))))
  have f8 : 0 ≤ 0 + (1 * τ 18596 + ((-1) * τ 19001 + 0)) := hf _ (List.Mem.tail _ (List.Mem.tail _ (List.Mem.tail _ (List.Mem.tail _ (List.Mem.tail _ (List.Mem.tail _ (List.Mem.tail _ (List.Mem.tail _ (List.Mem.head _)))))))))
  clear hf hm
  omega
theorem lw_lx_2 {as : List rv_A} {σ σ' : Nat → Int} {o : rv_O} {x : Int32} {a1 : Int} {τ : Nat → Int} (hx : o.1 = some (.inl x)) (h1 : lw_av as 1 = a1) (hb : ∀ s, (sx_sr s).1 ≤ σ s ∧ σ s ≤ (sx_sr s).2) (hW : lw_W ([(18621, 0, 7), (18628, 0, 255), (18629, 0, 1)], [(0, [(18621, (-1)), (1000000, 1)]), (1, [(18629, (-1)), (1000002, 1)]), (1, [(18629, 1), (1000002, (-1))]), (0, [(18622, (-1))]), ((-1), [(18624, 1)]), ((-1), [(19001, 1)]), (255, [(19001, (-1))]), (0, [(18624, 1), (19001, (-1))]), (0, [(18622, (-1)), (18626, 1)]), (0, [(135, 1), (18625, (-1))]), (0, [(135, (-1)), (18625, 1)]), (0, [(133, 1), (18623, (-1))]), (0, [(133, (-1)), (18623, 1)]), (0, [(18596, (-1)), (19001, 1)]), (0, [(18596, 1), (19001, (-1))])], [(9, (0, [])), (18621, (0, [(1000000, 1)])), (18628, (0, [(1000001, 1)])), (18629, (0, [(1000002, 1)]))], some (false, (0, []))) as σ σ' τ o) : lw_lx_C a1 x.toInt σ σ' := by
  unfold lw_lx_C
  have b18624 : 0 ≤ σ 18624 ∧ σ 18624 ≤ 255 := by
    have h0 := hb 18624
    rw [show sx_sr 18624 = (0, 255) from by decide +kernel] at h0
    exact h0
  have b18622 : 0 ≤ σ 18622 ∧ σ 18622 ≤ 1 := by
    have h0 := hb 18622
    rw [show sx_sr 18622 = (0, 1) from by decide +kernel] at h0
    exact h0
  obtain ⟨hs, ht, hf, hr, hm, hw⟩ := hW
  have e1 : τ 19001 = a1 := by rw [ht 19001 (by decide) (by decide)]; exact h1
  have s18622 : τ 18622 = σ 18622 := hs 18622 (by decide)
  have s18624 : τ 18624 = σ 18624 := hs 18624 (by decide)
  clear hs ht hb
  rw [hx] at hr
  obtain ⟨y, hy, hv⟩ := hr
  cases hy
  replace hv : x.toInt = 0 + 0 := hv
  have f0 : 0 ≤ 0 + ((-1) * τ 18621 + (1 * τ 1000000 + 0)) := hf _ (List.Mem.head _)
  have f1 : 0 ≤ 1 + ((-1) * τ 18629 + (1 * τ 1000002 + 0)) := hf _ (List.Mem.tail _ (List.Mem.head _))
  have f2 : 0 ≤ 1 + (1 * τ 18629 + ((-1) * τ 1000002 + 0)) := hf _ (List.Mem.tail _ (List.Mem.tail _ (List.Mem.head _)))
  have f3 : 0 ≤ 0 + ((-1) * τ 18622 + 0) := hf _ (List.Mem.tail _ (List.Mem.tail _ (List.Mem.tail _ (List.Mem.head _))))
  have f4 : 0 ≤ (-1) + (1 * τ 18624 + 0) := hf _ (List.Mem.tail _ (List.Mem.tail _ (List.Mem.tail _ (List.Mem.tail _ (List.Mem.head _)))))
  have f5 : 0 ≤ (-1) + (1 * τ 19001 + 0) := hf _ (List.Mem.tail _ (List.Mem.tail _ (List.Mem.tail _ (List.Mem.tail _ (List.Mem.tail _ (List.Mem.head _))))))
  have f6 : 0 ≤ 255 + ((-1) * τ 19001 + 0) := hf _ (List.Mem.tail _ (List.Mem.tail _ (List.Mem.tail _ (List.Mem.tail _ (List.Mem.tail _ (List.Mem.tail _ (List.Mem.head _)))))))
  have f7 : 0 ≤ 0 + (1 * τ 18624 + ((-1) * τ 19001 + 0)) := hf _ (List.Mem.tail _ (List.Mem.tail _ (List.Mem.tail _ (List.Mem.tail _ (List.Mem.tail _ (List.Mem.tail _ (List.Mem.tail _ (List.Mem.head _))))))))
  have f8 : 0 ≤ 0 + ((-1) * τ 18622 + (1 * τ 18626 + 0)) := hf _ (List.Mem.tail _ (List.Mem.tail _ (List.Mem.tail _ (List.Mem.tail _ (List.Mem.tail _ (List.Mem.tail _ (List.Mem.tail _ (List.Mem.tail _ (List.Mem.head _)))))))))
  have f9 : 0 ≤ 0 + (1 * τ 135 + ((-1) * τ 18625 + 0)) := hf _ (List.Mem.tail _ (List.Mem.tail _ (List.Mem.tail _ (List.Mem.tail _ (List.Mem.tail _ (List.Mem.tail _ (List.Mem.tail _ (List.Mem.tail _ (List.Mem.tail _ (List.Mem.head _))))))))))
  have f10 : 0 ≤ 0 + ((-1) * τ 135 + (1 * τ 18625 + 0)) := hf _ (List.Mem.tail _ (List.Mem.tail _ (List.Mem.tail _ (List.Mem.tail _ (List.Mem.tail _ (List.Mem.tail _ (List.Mem.tail _ (List.Mem.tail _ (List.Mem.tail _ (List.Mem.tail _ (List.Mem.head _)))))))))))
  have f11 : 0 ≤ 0 + (1 * τ 133 + ((-1) * τ 18623 + 0)) := hf _ (List.Mem.tail _ (List.Mem.tail _ (List.Mem.tail _ (List.Mem.tail _ (List.Mem.tail _ (List.Mem.tail _ (List.Mem.tail _ (List.Mem.tail _ (List.Mem.tail _ (List.Mem.tail _ (List.Mem.tail _ (List.Mem.head _))))))))))))
  have f12 : 0 ≤ 0 + ((-1) * τ 133 + (1 * τ 18623 + 0)) := hf _ (List.Mem.tail _ (List.Mem.tail _ (List.Mem.tail _ (List.Mem.tail _ (List.Mem.tail _ (List.Mem.tail _ (List.Mem.tail _ (List.Mem.tail _ (List.Mem.tail _ (List.Mem.tail _ (List.Mem.tail _ (List.Mem.tail _ (List.Mem.head _)))))))))))))
  have f13 : 0 ≤ 0 + ((-1) * τ 18596 + (1 * τ 19001 + 0)) := hf _ (List.Mem.tail _ (List.Mem.tail _ (List.Mem.tail _ (List.Mem.tail _ (List.Mem.tail _ (List.Mem.tail _ (List.Mem.tail _ (List.Mem.tail _ (List.Mem.tail _ (List.Mem.tail _ (List.Mem.tail _ (List.Mem.tail _ (List.Mem.tail _ (List.Mem.head _))))))))))))))
  have f14 : 0 ≤ 0 + (1 * τ 18596 + ((-1) * τ 19001 + 0)) := hf _ (List.Mem.tail _ (List.Mem.tail _ (List.Mem.tail _ (List.Mem.tail _ (List.Mem.tail _ (List.Mem.tail _ (List.Mem.tail _ (List.Mem.tail _ (List.Mem.tail _ (List.Mem.tail _ (List.Mem.tail _ (List.Mem.tail _ (List.Mem.tail _ (List.Mem.tail _ (List.Mem.head _)))))))))))))))
  clear hf hm
  omega
theorem lw_lx_3 {as : List rv_A} {σ σ' : Nat → Int} {o : rv_O} {x : Int32} {a1 : Int} {τ : Nat → Int} (hx : o.1 = some (.inl x)) (h1 : lw_av as 1 = a1) (hb : ∀ s, (sx_sr s).1 ≤ σ s ∧ σ s ≤ (sx_sr s).2) (hW : lw_W ([(18621, 0, 8), (18628, 0, 255), (18629, 0, 1)], [(0, [(18621, (-1)), (1000000, 1)]), (1, [(18629, (-1)), (1000002, 1)]), (1, [(18629, 1), (1000002, (-1))]), ((-1), [(18622, 1)]), ((-1), [(18624, 1)]), ((-1), [(19001, 1)]), (255, [(19001, (-1))]), (0, [(18624, 1), (19001, (-1))]), (0, [(18622, (-1)), (18626, 1)]), (0, [(135, 1), (18625, (-1))]), (0, [(135, (-1)), (18625, 1)]), (0, [(133, 1), (18623, (-1))]), (0, [(133, (-1)), (18623, 1)]), (0, [(18596, (-1)), (19001, 1)]), (0, [(18596, 1), (19001, (-1))])], [(9, (0, [])), (18621, (0, [(1000000, 1)])), (18628, (0, [(1000001, 1)])), (18629, (0, [(1000002, 1)]))], some (false, (1, []))) as σ σ' τ o) : lw_lx_C a1 x.toInt σ σ' := by
  unfold lw_lx_C
  have b18624 : 0 ≤ σ 18624 ∧ σ 18624 ≤ 255 := by
    have h0 := hb 18624
    rw [show sx_sr 18624 = (0, 255) from by decide +kernel] at h0
    exact h0
  have b18622 : 0 ≤ σ 18622 ∧ σ 18622 ≤ 1 := by
    have h0 := hb 18622
    rw [show sx_sr 18622 = (0, 1) from by decide +kernel] at h0
    exact h0
  obtain ⟨hs, ht, hf, hr, hm, hw⟩ := hW
  have e1 : τ 19001 = a1 := by rw [ht 19001 (by decide) (by decide)]; exact h1
  have s18622 : τ 18622 = σ 18622 := hs 18622 (by decide)
  have s18624 : τ 18624 = σ 18624 := hs 18624 (by decide)
  clear hs ht hb
  rw [hx] at hr
  obtain ⟨y, hy, hv⟩ := hr
  cases hy
  replace hv : x.toInt = 1 + 0 := hv
  have f0 : 0 ≤ 0 + ((-1) * τ 18621 + (1 * τ 1000000 + 0)) := hf _ (List.Mem.head _)
  have f1 : 0 ≤ 1 + ((-1) * τ 18629 + (1 * τ 1000002 + 0)) := hf _ (List.Mem.tail _ (List.Mem.head _))
  have f2 : 0 ≤ 1 + (1 * τ 18629 + ((-1) * τ 1000002 + 0)) := hf _ (List.Mem.tail _ (List.Mem.tail _ (List.Mem.head _)))
  have f3 : 0 ≤ (-1) + (1 * τ 18622 + 0) := hf _ (List.Mem.tail _ (List.Mem.tail _ (List.Mem.tail _ (List.Mem.head _))))
  have f4 : 0 ≤ (-1) + (1 * τ 18624 + 0) := hf _ (List.Mem.tail _ (List.Mem.tail _ (List.Mem.tail _ (List.Mem.tail _ (List.Mem.head _)))))
  have f5 : 0 ≤ (-1) + (1 * τ 19001 + 0) := hf _ (List.Mem.tail _ (List.Mem.tail _ (List.Mem.tail _ (List.Mem.tail _ (List.Mem.tail _ (List.Mem.head _))))))
  have f6 : 0 ≤ 255 + ((-1) * τ 19001 + 0) := hf _ (List.Mem.tail _ (List.Mem.tail _ (List.Mem.tail _ (List.Mem.tail _ (List.Mem.tail _ (List.Mem.tail _ (List.Mem.head _)))))))
  have f7 : 0 ≤ 0 + (1 * τ 18624 + ((-1) * τ 19001 + 0)) := hf _ (List.Mem.tail _ (List.Mem.tail _ (List.Mem.tail _ (List.Mem.tail _ (List.Mem.tail _ (List.Mem.tail _ (List.Mem.tail _ (List.Mem.head _))))))))
  have f8 : 0 ≤ 0 + ((-1) * τ 18622 + (1 * τ 18626 + 0)) := hf _ (List.Mem.tail _ (List.Mem.tail _ (List.Mem.tail _ (List.Mem.tail _ (List.Mem.tail _ (List.Mem.tail _ (List.Mem.tail _ (List.Mem.tail _ (List.Mem.head _)))))))))
  have f9 : 0 ≤ 0 + (1 * τ 135 + ((-1) * τ 18625 + 0)) := hf _ (List.Mem.tail _ (List.Mem.tail _ (List.Mem.tail _ (List.Mem.tail _ (List.Mem.tail _ (List.Mem.tail _ (List.Mem.tail _ (List.Mem.tail _ (List.Mem.tail _ (List.Mem.head _))))))))))
  have f10 : 0 ≤ 0 + ((-1) * τ 135 + (1 * τ 18625 + 0)) := hf _ (List.Mem.tail _ (List.Mem.tail _ (List.Mem.tail _ (List.Mem.tail _ (List.Mem.tail _ (List.Mem.tail _ (List.Mem.tail _ (List.Mem.tail _ (List.Mem.tail _ (List.Mem.tail _ (List.Mem.head _)))))))))))
  have f11 : 0 ≤ 0 + (1 * τ 133 + ((-1) * τ 18623 + 0)) := hf _ (List.Mem.tail _ (List.Mem.tail _ (List.Mem.tail _ (List.Mem.tail _ (List.Mem.tail _ (List.Mem.tail _ (List.Mem.tail _ (List.Mem.tail _ (List.Mem.tail _ (List.Mem.tail _ (List.Mem.tail _ (List.Mem.head _))))))))))))
  have f12 : 0 ≤ 0 + ((-1) * τ 133 + (1 * τ 18623 + 0)) := hf _ (List.Mem.tail _ (List.Mem.tail _ (List.Mem.tail _ (List.Mem.tail _ (List.Mem.tail _ (List.Mem.tail _ (List.Mem.tail _ (List.Mem.tail _ (List.Mem.tail _ (List.Mem.tail _ (List.Mem.tail _ (List.Mem.tail _ (List.Mem.head _)))))))))))))
  have f13 : 0 ≤ 0 + ((-1) * τ 18596 + (1 * τ 19001 + 0)) := hf _ (List.Mem.tail _ (List.Mem.tail _ (List.Mem.tail _ (List.Mem.tail _ (List.Mem.tail _ (List.Mem.tail _ (List.Mem.tail _ (List.Mem.tail _ (List.Mem.tail _ (List.Mem.tail _ (List.Mem.tail _ (List.Mem.tail _ (List.Mem.tail _ (List.Mem.head _))))))))))))))
  have f14 : 0 ≤ 0 + (1 * τ 18596 + ((-1) * τ 19001 + 0)) := hf _ (List.Mem.tail _ (List.Mem.tail _ (List.Mem.tail _ (List.Mem.tail _ (List.Mem.tail _ (List.Mem.tail _ (List.Mem.tail _ (List.Mem.tail _ (List.Mem.tail _ (List.Mem.tail _ (List.Mem.tail _ (List.Mem.tail _ (List.Mem.tail _ (List.Mem.tail _ (List.Mem.head _)))))))))))))))
  clear hf hm
  omega
set_option maxHeartbeats 4000000 in
set_option maxRecDepth 100000 in
theorem lw_lx {as : List rv_A} {σ σ' : Nat → Int} {o : rv_O} {x : Int32} {a1 : Int} (hx : o.1 = some (.inl x)) (h1 : lw_av as 1 = a1) (hb : ∀ s, (sx_sr s).1 ≤ σ s ∧ σ s ≤ (sx_sr s).2) (h : lw_Qc sx_c217 as σ σ' o) : lw_lx_C a1 x.toInt σ σ' := by
  obtain ⟨g, hg, τ, hW⟩ := h
  simp only [sx_c217, List.mem_cons, List.not_mem_nil, or_false] at hg
  rcases hg with rfl | rfl | rfl | rfl
  · exact lw_lx_0 hx h1 hb hW
  · exact lw_lx_1 hx h1 hb hW
  · exact lw_lx_2 hx h1 hb hW
  · exact lw_lx_3 hx h1 hb hW
def lw_lm_C (a1 z : Int) (σ σ' : Nat → Int) : Prop := (z = -1 ∧ (a1 ≤ 0 ∨ σ 18624 + 1 ≤ a1)) ∨ (z = 0 ∧ 1 ≤ a1 ∧ a1 ≤ σ 18624 ∧ σ 18658 ≤ 0) ∨ (z = 1 ∧ 1 ≤ a1 ∧ a1 ≤ σ 18624 ∧ 1 ≤ σ 18658)
theorem lw_lm_0 {as : List rv_A} {σ σ' : Nat → Int} {o : rv_O} {x : Int32} {a1 : Int} {τ : Nat → Int} (hx : o.1 = some (.inl x)) (h1 : lw_av as 1 = a1) (hb : ∀ s, (sx_sr s).1 ≤ σ s ∧ σ s ≤ (sx_sr s).2) (hW : lw_W ([], [(0, [(19001, (-1))]), (0, [(18626, 1), (18658, (-1))]), (0, [(12805, 1), (18657, (-1))]), (0, [(12805, (-1)), (18657, 1)]), (0, [(12806, 1), (18625, (-1))]), (0, [(12806, (-1)), (18625, 1)]), (0, [(12804, 1), (18623, (-1))]), (0, [(12804, (-1)), (18623, 1)]), (0, [(18596, (-1)), (19001, 1)]), (0, [(18596, 1), (19001, (-1))])], [(12800, (1, []))], some (false, ((-1), []))) as σ σ' τ o) : lw_lm_C a1 x.toInt σ σ' := by
  unfold lw_lm_C
  have b18624 : 0 ≤ σ 18624 ∧ σ 18624 ≤ 255 := by
    have h0 := hb 18624
    rw [show sx_sr 18624 = (0, 255) from by decide +kernel] at h0
    exact h0
  have b18658 : 0 ≤ σ 18658 ∧ σ 18658 ≤ 1 := by
    have h0 := hb 18658
    rw [show sx_sr 18658 = (0, 1) from by decide +kernel] at h0
    exact h0
  obtain ⟨hs, ht, hf, hr, hm, hw⟩ := hW
  have e1 : τ 19001 = a1 := by rw [ht 19001 (by decide) (by decide)]; exact h1
  have s18624 : τ 18624 = σ 18624 := hs 18624 (by decide)
  have s18658 : τ 18658 = σ 18658 := hs 18658 (by decide)
  clear hs ht hb
  rw [hx] at hr
  obtain ⟨y, hy, hv⟩ := hr
  cases hy
  replace hv : x.toInt = (-1) + 0 := hv
  have f0 : 0 ≤ 0 + ((-1) * τ 19001 + 0) := hf _ (List.Mem.head _)
  have f1 : 0 ≤ 0 + (1 * τ 18626 + ((-1) * τ 18658 + 0)) := hf _ (List.Mem.tail _ (List.Mem.head _))
  have f2 : 0 ≤ 0 + (1 * τ 12805 + ((-1) * τ 18657 + 0)) := hf _ (List.Mem.tail _ (List.Mem.tail _ (List.Mem.head _)))
  have f3 : 0 ≤ 0 + ((-1) * τ 12805 + (1 * τ 18657 + 0)) := hf _ (List.Mem.tail _ (List.Mem.tail _ (List.Mem.tail _ (List.Mem.head _))))
  have f4 : 0 ≤ 0 + (1 * τ 12806 + ((-1) * τ 18625 + 0)) := hf _ (List.Mem.tail _ (List.Mem.tail _ (List.Mem.tail _ (List.Mem.tail _ (List.Mem.head _)))))
  have f5 : 0 ≤ 0 + ((-1) * τ 12806 + (1 * τ 18625 + 0)) := hf _ (List.Mem.tail _ (List.Mem.tail _ (List.Mem.tail _ (List.Mem.tail _ (List.Mem.tail _ (List.Mem.head _))))))
  have f6 : 0 ≤ 0 + (1 * τ 12804 + ((-1) * τ 18623 + 0)) := hf _ (List.Mem.tail _ (List.Mem.tail _ (List.Mem.tail _ (List.Mem.tail _ (List.Mem.tail _ (List.Mem.tail _ (List.Mem.head _)))))))
  have f7 : 0 ≤ 0 + ((-1) * τ 12804 + (1 * τ 18623 + 0)) := hf _ (List.Mem.tail _ (List.Mem.tail _ (List.Mem.tail _ (List.Mem.tail _ (List.Mem.tail _ (List.Mem.tail _ (List.Mem.tail _ (List.Mem.head _))))))))
  have f8 : 0 ≤ 0 + ((-1) * τ 18596 + (1 * τ 19001 + 0)) := hf _ (List.Mem.tail _ (List.Mem.tail _ (List.Mem.tail _ (List.Mem.tail _ (List.Mem.tail _ (List.Mem.tail _ (List.Mem.tail _ (List.Mem.tail _ (List.Mem.head _)))))))))
  have f9 : 0 ≤ 0 + (1 * τ 18596 + ((-1) * τ 19001 + 0)) := hf _ (List.Mem.tail _ (List.Mem.tail _ (List.Mem.tail _ (List.Mem.tail _ (List.Mem.tail _ (List.Mem.tail _ (List.Mem.tail _ (List.Mem.tail _ (List.Mem.tail _ (List.Mem.head _))))))))))
  clear hf hm
  omega
theorem lw_lm_1 {as : List rv_A} {σ σ' : Nat → Int} {o : rv_O} {x : Int32} {a1 : Int} {τ : Nat → Int} (hx : o.1 = some (.inl x)) (h1 : lw_av as 1 = a1) (hb : ∀ s, (sx_sr s).1 ≤ σ s ∧ σ s ≤ (sx_sr s).2) (hW : lw_W ([], [((-1), [(19001, 1)]), ((-1), [(18624, (-1)), (19001, 1)]), (0, [(18626, 1), (18658, (-1))]), (0, [(12805, 1), (18657, (-1))]), (0, [(12805, (-1)), (18657, 1)]), (0, [(12806, 1), (18625, (-1))]), (0, [(12806, (-1)), (18625, 1)]), (0, [(12804, 1), (18623, (-1))]), (0, [(12804, (-1)), (18623, 1)]), (0, [(18596, (-1)), (19001, 1)]), (0, [(18596, 1), (19001, (-1))])], [(12800, (1, []))], some (false, ((-1), []))) as σ σ' τ o) : lw_lm_C a1 x.toInt σ σ' := by
  unfold lw_lm_C
  have b18624 : 0 ≤ σ 18624 ∧ σ 18624 ≤ 255 := by
    have h0 := hb 18624
    rw [show sx_sr 18624 = (0, 255) from by decide +kernel] at h0
    exact h0
  have b18658 : 0 ≤ σ 18658 ∧ σ 18658 ≤ 1 := by
    have h0 := hb 18658
    rw [show sx_sr 18658 = (0, 1) from by decide +kernel] at h0
    exact h0
  obtain ⟨hs, ht, hf, hr, hm, hw⟩ := hW
  have e1 : τ 19001 = a1 := by rw [ht 19001 (by decide) (by decide)]; exact h1
  have s18624 : τ 18624 = σ 18624 := hs 18624 (by decide)
  have s18658 : τ 18658 = σ 18658 := hs 18658 (by decide)
  clear hs ht hb
  rw [hx] at hr
  obtain ⟨y, hy, hv⟩ := hr
  cases hy
  replace hv : x.toInt = (-1) + 0 := hv
  have f0 : 0 ≤ (-1) + (1 * τ 19001 + 0) := hf _ (List.Mem.head _)
  have f1 : 0 ≤ (-1) + ((-1) * τ 18624 + (1 * τ 19001 + 0)) := hf _ (List.Mem.tail _ (List.Mem.head _))
  have f2 : 0 ≤ 0 + (1 * τ 18626 + ((-1) * τ 18658 + 0)) := hf _ (List.Mem.tail _ (List.Mem.tail _ (List.Mem.head _)))
  have f3 : 0 ≤ 0 + (1 * τ 12805 + ((-1) * τ 18657 + 0)) := hf _ (List.Mem.tail _ (List.Mem.tail _ (List.Mem.tail _ (List.Mem.head _))))
  have f4 : 0 ≤ 0 + ((-1) * τ 12805 + (1 * τ 18657 + 0)) := hf _ (List.Mem.tail _ (List.Mem.tail _ (List.Mem.tail _ (List.Mem.tail _ (List.Mem.head _)))))
  have f5 : 0 ≤ 0 + (1 * τ 12806 + ((-1) * τ 18625 + 0)) := hf _ (List.Mem.tail _ (List.Mem.tail _ (List.Mem.tail _ (List.Mem.tail _ (List.Mem.tail _ (List.Mem.head _))))))
  have f6 : 0 ≤ 0 + ((-1) * τ 12806 + (1 * τ 18625 + 0)) := hf _ (List.Mem.tail _ (List.Mem.tail _ (List.Mem.tail _ (List.Mem.tail _ (List.Mem.tail _ (List.Mem.tail _ (List.Mem.head _)))))))
  have f7 : 0 ≤ 0 + (1 * τ 12804 + ((-1) * τ 18623 + 0)) := hf _ (List.Mem.tail _ (List.Mem.tail _ (List.Mem.tail _ (List.Mem.tail _ (List.Mem.tail _ (List.Mem.tail _ (List.Mem.tail _ (List.Mem.head _))))))))
  have f8 : 0 ≤ 0 + ((-1) * τ 12804 + (1 * τ 18623 + 0)) := hf _ (List.Mem.tail _ (List.Mem.tail _ (List.Mem.tail _ (List.Mem.tail _ (List.Mem.tail _ (List.Mem.tail _ (List.Mem.tail _ (List.Mem.tail _ (List.Mem.head _)))))))))
  have f9 : 0 ≤ 0 + ((-1) * τ 18596 + (1 * τ 19001 + 0)) := hf _ (List.Mem.tail _ (List.Mem.tail _ (List.Mem.tail _ (List.Mem.tail _ (List.Mem.tail _ (List.Mem.tail _ (List.Mem.tail _ (List.Mem.tail _ (List.Mem.tail _ (List.Mem.head _))))))))))
  have f10 : 0 ≤ 0 + (1 * τ 18596 + ((-1) * τ 19001 + 0)) := hf _ (List.Mem.tail _ (List.Mem.tail _ (List.Mem.tail _ (List.Mem.tail _ (List.Mem.tail _ (List.Mem.tail _ (List.Mem.tail _ (List.Mem.tail _ (List.Mem.tail _ (List.Mem.tail _ (List.Mem.head _)))))))))))
  clear hf hm
  omega
theorem lw_lm_2 {as : List rv_A} {σ σ' : Nat → Int} {o : rv_O} {x : Int32} {a1 : Int} {τ : Nat → Int} (hx : o.1 = some (.inl x)) (h1 : lw_av as 1 = a1) (hb : ∀ s, (sx_sr s).1 ≤ σ s ∧ σ s ≤ (sx_sr s).2) (hW : lw_W ([(18490, 0, 255), (18491, 0, 255), (18492, 0, 255), (18628, 0, 255), (18629, 0, 1), (18630, 0, 255), (18631, 0, 1), (18656, 0, 12)], [(1, [(18629, (-1)), (1000004, 1)]), (1, [(18629, 1), (1000004, (-1))]), (1, [(18631, (-1)), (1000006, 1)]), (1, [(18631, 1), (1000006, (-1))]), (0, [(18656, (-1)), (1000007, 1)]), ((-1), [(18624, 1)]), (0, [(18658, (-1))]), ((-1), [(19001, 1)]), (255, [(19001, (-1))]), (0, [(18624, 1), (19001, (-1))]), (0, [(18626, 1), (18658, (-1))]), (0, [(12805, 1), (18657, (-1))]), (0, [(12805, (-1)), (18657, 1)]), (0, [(12806, 1), (18625, (-1))]), (0, [(12806, (-1)), (18625, 1)]), (0, [(12804, 1), (18623, (-1))]), (0, [(12804, (-1)), (18623, 1)]), (0, [(18596, (-1)), (19001, 1)]), (0, [(18596, 1), (19001, (-1))])], [(12800, (0, [])), (18490, (0, [(1000000, 1)])), (18491, (0, [(1000001, 1)])), (18492, (0, [(1000002, 1)])), (18628, (0, [(1000003, 1)])), (18629, (0, [(1000004, 1)])), (18630, (0, [(1000005, 1)])), (18631, (0, [(1000006, 1)])), (18656, (0, [(1000007, 1)])), (18659, (0, [(18658, 1)])), (18660, (0, [])), (18661, (0, []))], some (false, (0, []))) as σ σ' τ o) : lw_lm_C a1 x.toInt σ σ' := by
  unfold lw_lm_C
  have b18624 : 0 ≤ σ 18624 ∧ σ 18624 ≤ 255 := by
    have h0 := hb 18624
    rw [show sx_sr 18624 = (0, 255) from by decide +kernel] at h0
    exact h0
  have b18658 : 0 ≤ σ 18658 ∧ σ 18658 ≤ 1 := by
    have h0 := hb 18658
    rw [show sx_sr 18658 = (0, 1) from by decide +kernel] at h0
    exact h0
  obtain ⟨hs, ht, hf, hr, hm, hw⟩ := hW
  have e1 : τ 19001 = a1 := by rw [ht 19001 (by decide) (by decide)]; exact h1
  have s18624 : τ 18624 = σ 18624 := hs 18624 (by decide)
  have s18658 : τ 18658 = σ 18658 := hs 18658 (by decide)
  clear hs ht hb
  rw [hx] at hr
  obtain ⟨y, hy, hv⟩ := hr
  cases hy
  replace hv : x.toInt = 0 + 0 := hv
  have f0 : 0 ≤ 1 + ((-1) * τ 18629 + (1 * τ 1000004 + 0)) := hf _ (List.Mem.head _)
  have f1 : 0 ≤ 1 + (1 * τ 18629 + ((-1) * τ 1000004 + 0)) := hf _ (List.Mem.tail _ (List.Mem.head _))
  have f2 : 0 ≤ 1 + ((-1) * τ 18631 + (1 * τ 1000006 + 0)) := hf _ (List.Mem.tail _ (List.Mem.tail _ (List.Mem.head _)))
  have f3 : 0 ≤ 1 + (1 * τ 18631 + ((-1) * τ 1000006 + 0)) := hf _ (List.Mem.tail _ (List.Mem.tail _ (List.Mem.tail _ (List.Mem.head _))))
  have f4 : 0 ≤ 0 + ((-1) * τ 18656 + (1 * τ 1000007 + 0)) := hf _ (List.Mem.tail _ (List.Mem.tail _ (List.Mem.tail _ (List.Mem.tail _ (List.Mem.head _)))))
  have f5 : 0 ≤ (-1) + (1 * τ 18624 + 0) := hf _ (List.Mem.tail _ (List.Mem.tail _ (List.Mem.tail _ (List.Mem.tail _ (List.Mem.tail _ (List.Mem.head _))))))
  have f6 : 0 ≤ 0 + ((-1) * τ 18658 + 0) := hf _ (List.Mem.tail _ (List.Mem.tail _ (List.Mem.tail _ (List.Mem.tail _ (List.Mem.tail _ (List.Mem.tail _ (List.Mem.head _)))))))
  have f7 : 0 ≤ (-1) + (1 * τ 19001 + 0) := hf _ (List.Mem.tail _ (List.Mem.tail _ (List.Mem.tail _ (List.Mem.tail _ (List.Mem.tail _ (List.Mem.tail _ (List.Mem.tail _ (List.Mem.head _))))))))
  have f8 : 0 ≤ 255 + ((-1) * τ 19001 + 0) := hf _ (List.Mem.tail _ (List.Mem.tail _ (List.Mem.tail _ (List.Mem.tail _ (List.Mem.tail _ (List.Mem.tail _ (List.Mem.tail _ (List.Mem.tail _ (List.Mem.head _)))))))))
  have f9 : 0 ≤ 0 + (1 * τ 18624 + ((-1) * τ 19001 + 0)) := hf _ (List.Mem.tail _ (List.Mem.tail _ (List.Mem.tail _ (List.Mem.tail _ (List.Mem.tail _ (List.Mem.tail _ (List.Mem.tail _ (List.Mem.tail _ (List.Mem.tail _ (List.Mem.head _))))))))))
  have f10 : 0 ≤ 0 + (1 * τ 18626 + ((-1) * τ 18658 + 0)) := hf _ (List.Mem.tail _ (List.Mem.tail _ (List.Mem.tail _ (List.Mem.tail _ (List.Mem.tail _ (List.Mem.tail _ (List.Mem.tail _ (List.Mem.tail _ (List.Mem.tail _ (List.Mem.tail _ (List.Mem.head _)))))))))))
  have f11 : 0 ≤ 0 + (1 * τ 12805 + ((-1) * τ 18657 + 0)) := hf _ (List.Mem.tail _ (List.Mem.tail _ (List.Mem.tail _ (List.Mem.tail _ (List.Mem.tail _ (List.Mem.tail _ (List.Mem.tail _ (List.Mem.tail _ (List.Mem.tail _ (List.Mem.tail _ (List.Mem.tail _ (List.Mem.head _))))))))))))
  have f12 : 0 ≤ 0 + ((-1) * τ 12805 + (1 * τ 18657 + 0)) := hf _ (List.Mem.tail _ (List.Mem.tail _ (List.Mem.tail _ (List.Mem.tail _ (List.Mem.tail _ (List.Mem.tail _ (List.Mem.tail _ (List.Mem.tail _ (List.Mem.tail _ (List.Mem.tail _ (List.Mem.tail _ (List.Mem.tail _ (List.Mem.head _)))))))))))))
  have f13 : 0 ≤ 0 + (1 * τ 12806 + ((-1) * τ 18625 + 0)) := hf _ (List.Mem.tail _ (List.Mem.tail _ (List.Mem.tail _ (List.Mem.tail _ (List.Mem.tail _ (List.Mem.tail _ (List.Mem.tail _ (List.Mem.tail _ (List.Mem.tail _ (List.Mem.tail _ (List.Mem.tail _ (List.Mem.tail _ (List.Mem.tail _ (List.Mem.head _))))))))))))))
  have f14 : 0 ≤ 0 + ((-1) * τ 12806 + (1 * τ 18625 + 0)) := hf _ (List.Mem.tail _ (List.Mem.tail _ (List.Mem.tail _ (List.Mem.tail _ (List.Mem.tail _ (List.Mem.tail _ (List.Mem.tail _ (List.Mem.tail _ (List.Mem.tail _ (List.Mem.tail _ (List.Mem.tail _ (List.Mem.tail _ (List.Mem.tail _ (List.Mem.tail _ (List.Mem.head _)))))))))))))))
  have f15 : 0 ≤ 0 + (1 * τ 12804 + ((-1) * τ 18623 + 0)) := hf _ (List.Mem.tail _ (List.Mem.tail _ (List.Mem.tail _ (List.Mem.tail _ (List.Mem.tail _ (List.Mem.tail _ (List.Mem.tail _ (List.Mem.tail _ (List.Mem.tail _ (List.Mem.tail _ (List.Mem.tail _ (List.Mem.tail _ (List.Mem.tail _ (List.Mem.tail _ (List.Mem.tail _ (List.Mem.head _))))))))))))))))
  have f16 : 0 ≤ 0 + ((-1) * τ 12804 + (1 * τ 18623 + 0)) := hf _ (List.Mem.tail _ (List.Mem.tail _ (List.Mem.tail _ (List.Mem.tail _ (List.Mem.tail _ (List.Mem.tail _ (List.Mem.tail _ (List.Mem.tail _ (List.Mem.tail _ (List.Mem.tail _ (List.Mem.tail _ (List.Mem.tail _ (List.Mem.tail _ (List.Mem.tail _ (List.Mem.tail _ (List.Mem.tail _ (List.Mem.head _)))))))))))))))))
  have f17 : 0 ≤ 0 + ((-1) * τ 18596 + (1 * τ 19001 + 0)) := hf _ (List.Mem.tail _ (List.Mem.tail _ (List.Mem.tail _ (List.Mem.tail _ (List.Mem.tail _ (List.Mem.tail _ (List.Mem.tail _ (List.Mem.tail _ (List.Mem.tail _ (List.Mem.tail _ (List.Mem.tail _ (List.Mem.tail _ (List.Mem.tail _ (List.Mem.tail _ (List.Mem.tail _ (List.Mem.tail _ (List.Mem.tail _ (List.Mem.head _))))))))))))))))))
  have f18 : 0 ≤ 0 + (1 * τ 18596 + ((-1) * τ 19001 + 0)) := hf _ (List.Mem.tail _ (List.Mem.tail _ (List.Mem.tail _ (List.Mem.tail _ (List.Mem.tail _ (List.Mem.tail _ (List.Mem.tail _ (List.Mem.tail _ (List.Mem.tail _ (List.Mem.tail _ (List.Mem.tail _ (List.Mem.tail _ (List.Mem.tail _ (List.Mem.tail _ (List.Mem.tail _ (List.Mem.tail _ (List.Mem.tail _ (List.Mem.tail _ (List.Mem.head _)))))))))))))))))))
  clear hf hm
  omega
theorem lw_lm_3 {as : List rv_A} {σ σ' : Nat → Int} {o : rv_O} {x : Int32} {a1 : Int} {τ : Nat → Int} (hx : o.1 = some (.inl x)) (h1 : lw_av as 1 = a1) (hb : ∀ s, (sx_sr s).1 ≤ σ s ∧ σ s ≤ (sx_sr s).2) (hW : lw_W ([(18490, 0, 255), (18491, 0, 255), (18492, 0, 255), (18628, 0, 255), (18629, 0, 1), (18630, 0, 255), (18631, 0, 1), (18656, 0, 12)], [(1, [(18629, (-1)), (1000004, 1)]), (1, [(18629, 1), (1000004, (-1))]), (1, [(18631, (-1)), (1000006, 1)]), (1, [(18631, 1), (1000006, (-1))]), (0, [(18656, (-1)), (1000007, 1)]), ((-1), [(18624, 1)]), ((-1), [(18658, 1)]), ((-1), [(19001, 1)]), (255, [(19001, (-1))]), (0, [(18624, 1), (19001, (-1))]), (0, [(18626, 1), (18658, (-1))]), (0, [(12805, 1), (18657, (-1))]), (0, [(12805, (-1)), (18657, 1)]), (0, [(12806, 1), (18625, (-1))]), (0, [(12806, (-1)), (18625, 1)]), (0, [(12804, 1), (18623, (-1))]), (0, [(12804, (-1)), (18623, 1)]), (0, [(18596, (-1)), (19001, 1)]), (0, [(18596, 1), (19001, (-1))])], [(12800, (0, [])), (18490, (0, [(1000000, 1)])), (18491, (0, [(1000001, 1)])), (18492, (0, [(1000002, 1)])), (18628, (0, [(1000003, 1)])), (18629, (0, [(1000004, 1)])), (18630, (0, [(1000005, 1)])), (18631, (0, [(1000006, 1)])), (18656, (0, [(1000007, 1)])), (18659, (0, [(18658, 1)])), (18660, (0, [])), (18661, (0, []))], some (false, (1, []))) as σ σ' τ o) : lw_lm_C a1 x.toInt σ σ' := by
  unfold lw_lm_C
  have b18624 : 0 ≤ σ 18624 ∧ σ 18624 ≤ 255 := by
    have h0 := hb 18624
    rw [show sx_sr 18624 = (0, 255) from by decide +kernel] at h0
    exact h0
  have b18658 : 0 ≤ σ 18658 ∧ σ 18658 ≤ 1 := by
    have h0 := hb 18658
    rw [show sx_sr 18658 = (0, 1) from by decide +kernel] at h0
    exact h0
  obtain ⟨hs, ht, hf, hr, hm, hw⟩ := hW
  have e1 : τ 19001 = a1 := by rw [ht 19001 (by decide) (by decide)]; exact h1
  have s18624 : τ 18624 = σ 18624 := hs 18624 (by decide)
  have s18658 : τ 18658 = σ 18658 := hs 18658 (by decide)
  clear hs ht hb
  rw [hx] at hr
  obtain ⟨y, hy, hv⟩ := hr
  cases hy
  replace hv : x.toInt = 1 + 0 := hv
  have f0 : 0 ≤ 1 + ((-1) * τ 18629 + (1 * τ 1000004 + 0)) := hf _ (List.Mem.head _)
  have f1 : 0 ≤ 1 + (1 * τ 18629 + ((-1) * τ 1000004 + 0)) := hf _ (List.Mem.tail _ (List.Mem.head _))
  have f2 : 0 ≤ 1 + ((-1) * τ 18631 + (1 * τ 1000006 + 0)) := hf _ (List.Mem.tail _ (List.Mem.tail _ (List.Mem.head _)))
  have f3 : 0 ≤ 1 + (1 * τ 18631 + ((-1) * τ 1000006 + 0)) := hf _ (List.Mem.tail _ (List.Mem.tail _ (List.Mem.tail _ (List.Mem.head _))))
  have f4 : 0 ≤ 0 + ((-1) * τ 18656 + (1 * τ 1000007 + 0)) := hf _ (List.Mem.tail _ (List.Mem.tail _ (List.Mem.tail _ (List.Mem.tail _ (List.Mem.head _)))))
  have f5 : 0 ≤ (-1) + (1 * τ 18624 + 0) := hf _ (List.Mem.tail _ (List.Mem.tail _ (List.Mem.tail _ (List.Mem.tail _ (List.Mem.tail _ (List.Mem.head _))))))
  have f6 : 0 ≤ (-1) + (1 * τ 18658 + 0) := hf _ (List.Mem.tail _ (List.Mem.tail _ (List.Mem.tail _ (List.Mem.tail _ (List.Mem.tail _ (List.Mem.tail _ (List.Mem.head _)))))))
  have f7 : 0 ≤ (-1) + (1 * τ 19001 + 0) := hf _ (List.Mem.tail _ (List.Mem.tail _ (List.Mem.tail _ (List.Mem.tail _ (List.Mem.tail _ (List.Mem.tail _ (List.Mem.tail _ (List.Mem.head _))))))))
  have f8 : 0 ≤ 255 + ((-1) * τ 19001 + 0) := hf _ (List.Mem.tail _ (List.Mem.tail _ (List.Mem.tail _ (List.Mem.tail _ (List.Mem.tail _ (List.Mem.tail _ (List.Mem.tail _ (List.Mem.tail _ (List.Mem.head _)))))))))
  have f9 : 0 ≤ 0 + (1 * τ 18624 + ((-1) * τ 19001 + 0)) := hf _ (List.Mem.tail _ (List.Mem.tail _ (List.Mem.tail _ (List.Mem.tail _ (List.Mem.tail _ (List.Mem.tail _ (List.Mem.tail _ (List.Mem.tail _ (List.Mem.tail _ (List.Mem.head _))))))))))
  have f10 : 0 ≤ 0 + (1 * τ 18626 + ((-1) * τ 18658 + 0)) := hf _ (List.Mem.tail _ (List.Mem.tail _ (List.Mem.tail _ (List.Mem.tail _ (List.Mem.tail _ (List.Mem.tail _ (List.Mem.tail _ (List.Mem.tail _ (List.Mem.tail _ (List.Mem.tail _ (List.Mem.head _)))))))))))
  have f11 : 0 ≤ 0 + (1 * τ 12805 + ((-1) * τ 18657 + 0)) := hf _ (List.Mem.tail _ (List.Mem.tail _ (List.Mem.tail _ (List.Mem.tail _ (List.Mem.tail _ (List.Mem.tail _ (List.Mem.tail _ (List.Mem.tail _ (List.Mem.tail _ (List.Mem.tail _ (List.Mem.tail _ (List.Mem.head _))))))))))))
  have f12 : 0 ≤ 0 + ((-1) * τ 12805 + (1 * τ 18657 + 0)) := hf _ (List.Mem.tail _ (List.Mem.tail _ (List.Mem.tail _ (List.Mem.tail _ (List.Mem.tail _ (List.Mem.tail _ (List.Mem.tail _ (List.Mem.tail _ (List.Mem.tail _ (List.Mem.tail _ (List.Mem.tail _ (List.Mem.tail _ (List.Mem.head _)))))))))))))
  have f13 : 0 ≤ 0 + (1 * τ 12806 + ((-1) * τ 18625 + 0)) := hf _ (List.Mem.tail _ (List.Mem.tail _ (List.Mem.tail _ (List.Mem.tail _ (List.Mem.tail _ (List.Mem.tail _ (List.Mem.tail _ (List.Mem.tail _ (List.Mem.tail _ (List.Mem.tail _ (List.Mem.tail _ (List.Mem.tail _ (List.Mem.tail _ (List.Mem.head _))))))))))))))
  have f14 : 0 ≤ 0 + ((-1) * τ 12806 + (1 * τ 18625 + 0)) := hf _ (List.Mem.tail _ (List.Mem.tail _ (List.Mem.tail _ (List.Mem.tail _ (List.Mem.tail _ (List.Mem.tail _ (List.Mem.tail _ (List.Mem.tail _ (List.Mem.tail _ (List.Mem.tail _ (List.Mem.tail _ (List.Mem.tail _ (List.Mem.tail _ (List.Mem.tail _ (List.Mem.head _)))))))))))))))
  have f15 : 0 ≤ 0 + (1 * τ 12804 + ((-1) * τ 18623 + 0)) := hf _ (List.Mem.tail _ (List.Mem.tail _ (List.Mem.tail _ (List.Mem.tail _ (List.Mem.tail _ (List.Mem.tail _ (List.Mem.tail _ (List.Mem.tail _ (List.Mem.tail _ (List.Mem.tail _ (List.Mem.tail _ (List.Mem.tail _ (List.Mem.tail _ (List.Mem.tail _ (List.Mem.tail _ (List.Mem.head _))))))))))))))))
  have f16 : 0 ≤ 0 + ((-1) * τ 12804 + (1 * τ 18623 + 0)) := hf _ (List.Mem.tail _ (List.Mem.tail _ (List.Mem.tail _ (List.Mem.tail _ (List.Mem.tail _ (List.Mem.tail _ (List.Mem.tail _ (List.Mem.tail _ (List.Mem.tail _ (List.Mem.tail _ (List.Mem.tail _ (List.Mem.tail _ (List.Mem.tail _ (List.Mem.tail _ (List.Mem.tail _ (List.Mem.tail _ (List.Mem.head _)))))))))))))))))
  have f17 : 0 ≤ 0 + ((-1) * τ 18596 + (1 * τ 19001 + 0)) := hf _ (List.Mem.tail _ (List.Mem.tail _ (List.Mem.tail _ (List.Mem.tail _ (List.Mem.tail _ (List.Mem.tail _ (List.Mem.tail _ (List.Mem.tail _ (List.Mem.tail _ (List.Mem.tail _ (List.Mem.tail _ (List.Mem.tail _ (List.Mem.tail _ (List.Mem.tail _ (List.Mem.tail _ (List.Mem.tail _ (List.Mem.tail _ (List.Mem.head _))))))))))))))))))
  have f18 : 0 ≤ 0 + (1 * τ 18596 + ((-1) * τ 19001 + 0)) := hf _ (List.Mem.tail _ (List.Mem.tail _ (List.Mem.tail _ (List.Mem.tail _ (List.Mem.tail _ (List.Mem.tail _ (List.Mem.tail _ (List.Mem.tail _ (List.Mem.tail _ (List.Mem.tail _ (List.Mem.tail _ (List.Mem.tail _ (List.Mem.tail _ (List.Mem.tail _ (List.Mem.tail _ (List.Mem.tail _ (List.Mem.tail _ (List.Mem.tail _ (List.Mem.head _)))))))))))))))))))
  clear hf hm
  omega
set_option maxHeartbeats 4000000 in
set_option maxRecDepth 100000 in
theorem lw_lm {as : List rv_A} {σ σ' : Nat → Int} {o : rv_O} {x : Int32} {a1 : Int} (hx : o.1 = some (.inl x)) (h1 : lw_av as 1 = a1) (hb : ∀ s, (sx_sr s).1 ≤ σ s ∧ σ s ≤ (sx_sr s).2) (h : lw_Qc sx_c313 as σ σ' o) : lw_lm_C a1 x.toInt σ σ' := by
  obtain ⟨g, hg, τ, hW⟩ := h
  simp only [sx_c313, List.mem_cons, List.not_mem_nil, or_false] at hg
  rcases hg with rfl | rfl | rfl | rfl
  · exact lw_lm_0 hx h1 hb hW
  · exact lw_lm_1 hx h1 hb hW
  · exact lw_lm_2 hx h1 hb hW
  · exact lw_lm_3 hx h1 hb hW
theorem lw_same14 {y1 : Int32} {o1 o2 : rv_O} {h0 : List rv_C} {σ σ1 σr σ2 : Nat → Int} {z1 z2 : Int32} {P : Int} (hz1 : o1.1 = some (.inl z1)) (hz2 : o2.1 = some (.inl z2)) (h1 : lw_Qc sx_c217 [rv_ref 0, .inl y1] σ σ1 o1) (h2 : lw_Qc sx_c313 [rv_ref 100, .inl y1] σr σ2 o2) (hP : y1.toInt = P) (hJ : lw_Js σ h0) (hJr : lw_Js σr o1.2) (hS : lw_S P σ) (hSr : lw_S P σr) (hM : lw_M σ) (hk1 : ∀ s ∈ lw_RCM, σ1 s = σ s) (hx1 : σ1 133 = σ 133) (hkr : (∀ s ∈ lw_RCM, σr s = σ1 s) ∧ σr 133 = σ1 133) : z1 = z2 := by
  have g1 := lw_lx (a1 := y1.toInt) hz1 rfl hJ.2.1 h1
  have g2 := lw_lm (a1 := y1.toInt) hz2 rfl hJr.2.1 h2
  unfold lw_lx_C at g1
  unfold lw_lm_C at g2
  obtain ⟨s1, s2, s3, s4, s5, s6, s7, s8, s9, s10, s11⟩ := hS
  obtain ⟨q1, q2, q3, q4, q5, q6, q7, q8, q9, q10, q11⟩ := hSr
  obtain ⟨u1, u2, u3, u4, u5⟩ := hM
  have hK8 := hJ.2.1 133
  rw [show sx_sr 133 = (0, 8) from by decide +kernel] at hK8
  have hK : σr 133 = σ 133 := hkr.2.trans hx1
  have hk : ∀ s ∈ lw_RCM, σr s = σ s := fun s hs => (hkr.1 s hs).trans (hk1 s hs)
  have hW : σr 18624 = σ 18624 := by rw [q8, s8, hK]
  apply Int32.toInt_inj.mp
  by_cases hp : 0 ≤ P
  · have he : σr 18658 = σ 18622 := by
      rw [q11, s10, hk 135 (by decide), hk 12805 (by decide)]
      refine lw_v_iff (Iff.trans ?_ (lw_law_eq u5 hK8.2 hp (fun j hj => (by rcases (show j = 0 ∨ j = 1 ∨ j = 2 ∨ j = 3 ∨ j = 4 ∨ j = 5 ∨ j = 6 ∨ j = 7 by omega) with rfl | rfl | rfl | rfl | rfl | rfl | rfl | rfl <;> exact lw_r255 hJ.2.1 (by decide +kernel))) (fun j hj => (by rcases (show j = 0 ∨ j = 1 ∨ j = 2 ∨ j = 3 ∨ j = 4 ∨ j = 5 ∨ j = 6 ∨ j = 7 by omega) with rfl | rfl | rfl | rfl | rfl | rfl | rfl | rfl <;> exact lw_r255 hJ.2.1 (by decide +kernel)))).symm)
      constructor
      · intro h m hm hmM
        have h3 := h m hm hmM
        dsimp only at h3
        rw [hk (18576 + m) (by rcases (show m = 0 ∨ m = 1 ∨ m = 2 ∨ m = 3 ∨ m = 4 ∨ m = 5 ∨ m = 6 ∨ m = 7 ∨ m = 8 ∨ m = 9 ∨ m = 10 ∨ m = 11 by omega) with rfl | rfl | rfl | rfl | rfl | rfl | rfl | rfl | rfl | rfl | rfl | rfl <;> decide), hk (18552 + m) (by rcases (show m = 0 ∨ m = 1 ∨ m = 2 ∨ m = 3 ∨ m = 4 ∨ m = 5 ∨ m = 6 ∨ m = 7 ∨ m = 8 ∨ m = 9 ∨ m = 10 ∨ m = 11 by omega) with rfl | rfl | rfl | rfl | rfl | rfl | rfl | rfl | rfl | rfl | rfl | rfl <;> decide), hk (18564 + m) (by rcases (show m = 0 ∨ m = 1 ∨ m = 2 ∨ m = 3 ∨ m = 4 ∨ m = 5 ∨ m = 6 ∨ m = 7 ∨ m = 8 ∨ m = 9 ∨ m = 10 ∨ m = 11 by omega) with rfl | rfl | rfl | rfl | rfl | rfl | rfl | rfl | rfl | rfl | rfl | rfl <;> decide)] at h3
        exact h3
      · intro h m hm hmM
        dsimp only
        rw [hk (18576 + m) (by rcases (show m = 0 ∨ m = 1 ∨ m = 2 ∨ m = 3 ∨ m = 4 ∨ m = 5 ∨ m = 6 ∨ m = 7 ∨ m = 8 ∨ m = 9 ∨ m = 10 ∨ m = 11 by omega) with rfl | rfl | rfl | rfl | rfl | rfl | rfl | rfl | rfl | rfl | rfl | rfl <;> decide), hk (18552 + m) (by rcases (show m = 0 ∨ m = 1 ∨ m = 2 ∨ m = 3 ∨ m = 4 ∨ m = 5 ∨ m = 6 ∨ m = 7 ∨ m = 8 ∨ m = 9 ∨ m = 10 ∨ m = 11 by omega) with rfl | rfl | rfl | rfl | rfl | rfl | rfl | rfl | rfl | rfl | rfl | rfl <;> decide), hk (18564 + m) (by rcases (show m = 0 ∨ m = 1 ∨ m = 2 ∨ m = 3 ∨ m = 4 ∨ m = 5 ∨ m = 6 ∨ m = 7 ∨ m = 8 ∨ m = 9 ∨ m = 10 ∨ m = 11 by omega) with rfl | rfl | rfl | rfl | rfl | rfl | rfl | rfl | rfl | rfl | rfl | rfl <;> decide)]
        exact h m hm hmM
    omega
  · omega
