set_option maxHeartbeats 1000000 in
theorem lw_ux_198 {as : List rv_A} {σ σ' : Nat → Int} {o : rv_O} {x : Int32} {a1 a2 a3 : Int} {τ : Nat → Int} (hx : o.1 = some (.inl x)) (h1 : lw_av as 1 = a1) (h2 : lw_av as 2 = a2) (h3 : lw_av as 3 = a3) (ho1 : sy_or (σ' 18588) (σ' 18589) (σ' 18590)) (ho2 : sy_or (σ' 18591) (σ' 18592) (σ' 18593)) (hW : lw_W ([(18548, 128, 255), (18551, 16, 255), (18590, 16, 255), (18593, 128, 255)], [(0, [(18548, (-1)), (1000000, 1)]), (0, [(18551, (-1)), (1000001, 1)]), ((-1), [(133, 1)]), (11, [(134, (-1))]), ((-7), [(19001, 1)]), (7, [(19001, (-1))]), ((-4), [(19002, 1)]), (4, [(19002, (-1))]), ((-1), [(19003, 1)]), (0, [(1000000, 1), (1000003, (-1))]), (0, [(1000000, (-1)), (1000003, 1)]), (0, [(1000001, 1), (1000002, (-1))]), (0, [(1000001, (-1)), (1000002, 1)]), ((-1), [(19001, 1), (19002, (-1))]), ((-1), [(133, 1), (19002, (-1))]), ((-1), [(133, 1), (19001, (-1))])], [(9, (0, [])), (134, (1, [(134, 1)])), (7048, ((-2), [])), (7049, ((-2), [])), (8069, (0, [])), (11396, ((-2), [])), (18548, (0, [(1000000, 1)])), (18551, (0, [(1000001, 1)])), (18588, (0, [(18551, 1)])), (18589, (16, [])), (18590, (0, [(1000002, 1)])), (18591, (0, [(18548, 1)])), (18592, (128, [])), (18593, (0, [(1000003, 1)])), (18594, (2, []))], some (false, (1, []))) as σ σ' τ o) : lw_ux_C a1 a2 a3 x.toInt σ σ' := by
  unfold lw_ux_C
  obtain ⟨hs, ht, hf, hr, hm, hw⟩ := hW
  have e1 : τ 19001 = a1 := by rw [ht 19001 (by decide) (by decide)]; exact h1
  have e2 : τ 19002 = a2 := by rw [ht 19002 (by decide) (by decide)]; exact h2
  have e3 : τ 19003 = a3 := by rw [ht 19003 (by decide) (by decide)]; exact h3
  rw [hx] at hr
  obtain ⟨y, hy, hv⟩ := hr
  cases hy
  replace hv : x.toInt = 1 + 0 := hv
  have f0 : 0 ≤ 0 + ((-1) * τ 18548 + (1 * τ 1000000 + 0)) := hf _ (List.Mem.head _)
  have f1 : 0 ≤ 0 + ((-1) * τ 18551 + (1 * τ 1000001 + 0)) := hf _ (List.Mem.tail _ (List.Mem.head _))
  have f2 : 0 ≤ (-1) + (1 * τ 133 + 0) := hf _ (List.Mem.tail _ (List.Mem.tail _ (List.Mem.head _)))
  have f3 : 0 ≤ 11 + ((-1) * τ 134 + 0) := hf _ (List.Mem.tail _ (List.Mem.tail _ (List.Mem.tail _ (List.Mem.head _))))
  have f4 : 0 ≤ (-7) + (1 * τ 19001 + 0) := hf _ (List.Mem.tail _ (List.Mem.tail _ (List.Mem.tail _ (List.Mem.tail _ (List.Mem.head _)))))
  have f5 : 0 ≤ 7 + ((-1) * τ 19001 + 0) := hf _ (List.Mem.tail _ (List.Mem.tail _ (List.Mem.tail _ (List.Mem.tail _ (List.Mem.tail _ (List.Mem.head _))))))
  have f6 : 0 ≤ (-4) + (1 * τ 19002 + 0) := hf _ (List.Mem.tail _ (List.Mem.tail _ (List.Mem.tail _ (List.Mem.tail _ (List.Mem.tail _ (List.Mem.tail _ (List.Mem.head _)))))))
  have f7 : 0 ≤ 4 + ((-1) * τ 19002 + 0) := hf _ (List.Mem.tail _ (List.Mem.tail _ (List.Mem.tail _ (List.Mem.tail _ (List.Mem.tail _ (List.Mem.tail _ (List.Mem.tail _ (List.Mem.head _))))))))
  have f8 : 0 ≤ (-1) + (1 * τ 19003 + 0) := hf _ (List.Mem.tail _ (List.Mem.tail _ (List.Mem.tail _ (List.Mem.tail _ (List.Mem.tail _ (List.Mem.tail _ (List.Mem.tail _ (List.Mem.tail _ (List.Mem.head _)))))))))
  have f9 : 0 ≤ 0 + (1 * τ 1000000 + ((-1) * τ 1000003 + 0)) := hf _ (List.Mem.tail _ (List.Mem.tail _ (List.Mem.tail _ (List.Mem.tail _ (List.Mem.tail _ (List.Mem.tail _ (List.Mem.tail _ (List.Mem.tail _ (List.Mem.tail _ (List.Mem.head _))))))))))
  have f10 : 0 ≤ 0 + ((-1) * τ 1000000 + (1 * τ 1000003 + 0)) := hf _ (List.Mem.tail _ (List.Mem.tail _ (List.Mem.tail _ (List.Mem.tail _ (List.Mem.tail _ (List.Mem.tail _ (List.Mem.tail _ (List.Mem.tail _ (List.Mem.tail _ (List.Mem.tail _ (List.Mem.head _)))))))))))
  have f11 : 0 ≤ 0 + (1 * τ 1000001 + ((-1) * τ 1000002 + 0)) := hf _ (List.Mem.tail _ (List.Mem.tail _ (List.Mem.tail _ (List.Mem.tail _ (List.Mem.tail _ (List.Mem.tail _ (List.Mem.tail _ (List.Mem.tail _ (List.Mem.tail _ (List.Mem.tail _ (List.Mem.tail _ (List.Mem.head _))))))))))))
  have f12 : 0 ≤ 0 + ((-1) * τ 1000001 + (1 * τ 1000002 + 0)) := hf _ (List.Mem.tail _ (List.Mem.tail _ (List.Mem.tail _ (List.Mem.tail _ (List.Mem.tail _ (List.Mem.tail _ (List.Mem.tail _ (List.Mem.tail _ (List.Mem.tail _ (List.Mem.tail _ (List.Mem.tail _ (List.Mem.tail _ (List.Mem.head _)))))))))))))
  have f13 : 0 ≤ (-1) + (1 * τ 19001 + ((-1) * τ 19002 + 0)) := hf _ (List.Mem.tail _ (List.Mem.tail _ (List.Mem.tail _ (List.Mem.tail _ (List.Mem.tail _ (List.Mem.tail _ (List.Mem.tail _ (List.Mem.tail _ (List.Mem.tail _ (List.Mem.tail _ (List.Mem.tail _ (List.Mem.tail _ (List.Mem.tail _ (List.Mem.head _))))))))))))))
  have f14 : 0 ≤ (-1) + (1 * τ 133 + ((-1) * τ 19002 + 0)) := hf _ (List.Mem.tail _ (List.Mem.tail _ (List.Mem.tail _ (List.Mem.tail _ (List.Mem.tail _ (List.Mem.tail _ (List.Mem.tail _ (List.Mem.tail _ (List.Mem.tail _ (List.Mem.tail _ (List.Mem.tail _ (List.Mem.tail _ (List.Mem.tail _ (List.Mem.tail _ (List.Mem.head _)))))))))))))))
  have f15 : 0 ≤ (-1) + (1 * τ 133 + ((-1) * τ 19001 + 0)) := hf _ (List.Mem.tail _ (List.Mem.tail _ (List.Mem.tail _ (List.Mem.tail _ (List.Mem.tail _ (List.Mem.tail _ (List.Mem.tail _ (List.Mem.tail _ (List.Mem.tail _ (List.Mem.tail _ (List.Mem.tail _ (List.Mem.tail _ (List.Mem.tail _ (List.Mem.tail _ (List.Mem.tail _ (List.Mem.head _))))))))))))))))
  have mX1 : σ' 18588 = σ 18551 := lw_id (hs 18551 (by decide)) (hm 18588 (by decide))
  have mY1 : σ' 18589 = 16 := (hm 18589 (by decide)).trans rfl
  have mO1 : σ' 18590 = 0 + (1 * τ 1000002 + 0) := hm 18590 (by decide)
  have mA1 : σ' 18551 = 0 + (1 * τ 1000001 + 0) := hm 18551 (by decide)
  unfold sy_or at ho1
  rw [mX1, mY1, show (16 : Int).toNat = 2 ^ 4 from rfl] at ho1
  have mX2 : σ' 18591 = σ 18548 := lw_id (hs 18548 (by decide)) (hm 18591 (by decide))
  have mY2 : σ' 18592 = 128 := (hm 18592 (by decide)).trans rfl
  have mO2 : σ' 18593 = 0 + (1 * τ 1000003 + 0) := hm 18593 (by decide)
  have mA2 : σ' 18548 = 0 + (1 * τ 1000000 + 0) := hm 18548 (by decide)
  unfold sy_or at ho2
  rw [mX2, mY2, show (128 : Int).toNat = 2 ^ 7 from rfl] at ho2
  have ti : lw_ti a1.toNat a2.toNat (fun p => σ (18544 + p)) (fun p => σ' (18544 + p)) := by
    rw [show a1.toNat = 7 by omega, show a2.toNat = 4 by omega]
    intro p hp
    rcases (show p = 0 ∨ p = 1 ∨ p = 2 ∨ p = 3 ∨ p = 4 ∨ p = 5 ∨ p = 6 ∨ p = 7 by omega) with rfl | rfl | rfl | rfl | rfl | rfl | rfl | rfl
    · show σ' 18544 = if (0 : Nat) = 7 then _ else if (0 : Nat) = 4 then _ else _
      rw [if_neg (by decide), if_neg (by decide)]
      exact lw_id (hs _ (by decide)) (hm _ (by decide))
    · show σ' 18545 = if (1 : Nat) = 7 then _ else if (1 : Nat) = 4 then _ else _
      rw [if_neg (by decide), if_neg (by decide)]
      exact lw_id (hs _ (by decide)) (hm _ (by decide))
    · show σ' 18546 = if (2 : Nat) = 7 then _ else if (2 : Nat) = 4 then _ else _
      rw [if_neg (by decide), if_neg (by decide)]
      exact lw_id (hs _ (by decide)) (hm _ (by decide))
    · show σ' 18547 = if (3 : Nat) = 7 then _ else if (3 : Nat) = 4 then _ else _
      rw [if_neg (by decide), if_neg (by decide)]
      exact lw_id (hs _ (by decide)) (hm _ (by decide))
    · show σ' 18548 = if (4 : Nat) = 7 then _ else if (4 : Nat) = 4 then _ else _
      rw [if_neg (by decide), if_pos rfl]
      show σ' 18548 = (((σ 18548).toNat ||| 2 ^ 7 : Nat) : Int)
      omega
    · show σ' 18549 = if (5 : Nat) = 7 then _ else if (5 : Nat) = 4 then _ else _
      rw [if_neg (by decide), if_neg (by decide)]
      exact lw_id (hs _ (by decide)) (hm _ (by decide))
    · show σ' 18550 = if (6 : Nat) = 7 then _ else if (6 : Nat) = 4 then _ else _
      rw [if_neg (by decide), if_neg (by decide)]
      exact lw_id (hs _ (by decide)) (hm _ (by decide))
    · show σ' 18551 = if (7 : Nat) = 7 then _ else _
      rw [if_pos rfl]
      show σ' 18551 = (((σ 18551).toNat ||| 2 ^ 4 : Nat) : Int)
      omega
  exact Or.inl ⟨by omega, by omega, by omega, by omega, by omega, Or.inl ⟨by omega, ti, (fun p hp => (by rcases (show p = 0 ∨ p = 1 ∨ p = 2 ∨ p = 3 ∨ p = 4 ∨ p = 5 ∨ p = 6 ∨ p = 7 by omega) with rfl | rfl | rfl | rfl | rfl | rfl | rfl | rfl <;> exact lw_id (hs _ (by decide)) (hm _ (by decide))))⟩⟩
set_option maxHeartbeats 1000000 in
theorem lw_ux_199 {as : List rv_A} {σ σ' : Nat → Int} {o : rv_O} {x : Int32} {a1 a2 a3 : Int} {τ : Nat → Int} (hx : o.1 = some (.inl x)) (h1 : lw_av as 1 = a1) (h2 : lw_av as 2 = a2) (h3 : lw_av as 3 = a3) (ho1 : sy_or (σ' 18588) (σ' 18589) (σ' 18590)) (ho2 : sy_or (σ' 18591) (σ' 18592) (σ' 18593)) (hW : lw_W ([(18541, 128, 255), (18543, 32, 255), (18590, 32, 255), (18593, 128, 255)], [(0, [(18541, (-1)), (1000000, 1)]), (0, [(18543, (-1)), (1000001, 1)]), ((-1), [(133, 1)]), (11, [(134, (-1))]), ((-7), [(19001, 1)]), (7, [(19001, (-1))]), ((-5), [(19002, 1)]), (5, [(19002, (-1))]), (0, [(19003, (-1))]), (0, [(1000000, 1), (1000003, (-1))]), (0, [(1000000, (-1)), (1000003, 1)]), (0, [(1000001, 1), (1000002, (-1))]), (0, [(1000001, (-1)), (1000002, 1)]), ((-1), [(19001, 1), (19002, (-1))]), ((-1), [(133, 1), (19002, (-1))]), ((-1), [(133, 1), (19001, (-1))])], [(9, (0, [])), (134, (1, [(134, 1)])), (7048, ((-2), [])), (7049, ((-2), [])), (8069, (0, [])), (11396, ((-2), [])), (18541, (0, [(1000000, 1)])), (18543, (0, [(1000001, 1)])), (18588, (0, [(18543, 1)])), (18589, (32, [])), (18590, (0, [(1000002, 1)])), (18591, (0, [(18541, 1)])), (18592, (128, [])), (18593, (0, [(1000003, 1)])), (18594, (2, []))], some (false, (1, []))) as σ σ' τ o) : lw_ux_C a1 a2 a3 x.toInt σ σ' := by
  unfold lw_ux_C
  obtain ⟨hs, ht, hf, hr, hm, hw⟩ := hW
  have e1 : τ 19001 = a1 := by rw [ht 19001 (by decide) (by decide)]; exact h1
  have e2 : τ 19002 = a2 := by rw [ht 19002 (by decide) (by decide)]; exact h2
  have e3 : τ 19003 = a3 := by rw [ht 19003 (by decide) (by decide)]; exact h3
  rw [hx] at hr
  obtain ⟨y, hy, hv⟩ := hr
  cases hy
  replace hv : x.toInt = 1 + 0 := hv
  have f0 : 0 ≤ 0 + ((-1) * τ 18541 + (1 * τ 1000000 + 0)) := hf _ (List.Mem.head _)
  have f1 : 0 ≤ 0 + ((-1) * τ 18543 + (1 * τ 1000001 + 0)) := hf _ (List.Mem.tail _ (List.Mem.head _))
  have f2 : 0 ≤ (-1) + (1 * τ 133 + 0) := hf _ (List.Mem.tail _ (List.Mem.tail _ (List.Mem.head _)))
  have f3 : 0 ≤ 11 + ((-1) * τ 134 + 0) := hf _ (List.Mem.tail _ (List.Mem.tail _ (List.Mem.tail _ (List.Mem.head _))))
  have f4 : 0 ≤ (-7) + (1 * τ 19001 + 0) := hf _ (List.Mem.tail _ (List.Mem.tail _ (List.Mem.tail _ (List.Mem.tail _ (List.Mem.head _)))))
  have f5 : 0 ≤ 7 + ((-1) * τ 19001 + 0) := hf _ (List.Mem.tail _ (List.Mem.tail _ (List.Mem.tail _ (List.Mem.tail _ (List.Mem.tail _ (List.Mem.head _))))))
  have f6 : 0 ≤ (-5) + (1 * τ 19002 + 0) := hf _ (List.Mem.tail _ (List.Mem.tail _ (List.Mem.tail _ (List.Mem.tail _ (List.Mem.tail _ (List.Mem.tail _ (List.Mem.head _)))))))
  have f7 : 0 ≤ 5 + ((-1) * τ 19002 + 0) := hf _ (List.Mem.tail _ (List.Mem.tail _ (List.Mem.tail _ (List.Mem.tail _ (List.Mem.tail _ (List.Mem.tail _ (List.Mem.tail _ (List.Mem.head _))))))))
  have f8 : 0 ≤ 0 + ((-1) * τ 19003 + 0) := hf _ (List.Mem.tail _ (List.Mem.tail _ (List.Mem.tail _ (List.Mem.tail _ (List.Mem.tail _ (List.Mem.tail _ (List.Mem.tail _ (List.Mem.tail _ (List.Mem.head _)))))))))
  have f9 : 0 ≤ 0 + (1 * τ 1000000 + ((-1) * τ 1000003 + 0)) := hf _ (List.Mem.tail _ (List.Mem.tail _ (List.Mem.tail _ (List.Mem.tail _ (List.Mem.tail _ (List.Mem.tail _ (List.Mem.tail _ (List.Mem.tail _ (List.Mem.tail _ (List.Mem.head _))))))))))
  have f10 : 0 ≤ 0 + ((-1) * τ 1000000 + (1 * τ 1000003 + 0)) := hf _ (List.Mem.tail _ (List.Mem.tail _ (List.Mem.tail _ (List.Mem.tail _ (List.Mem.tail _ (List.Mem.tail _ (List.Mem.tail _ (List.Mem.tail _ (List.Mem.tail _ (List.Mem.tail _ (List.Mem.head _)))))))))))
  have f11 : 0 ≤ 0 + (1 * τ 1000001 + ((-1) * τ 1000002 + 0)) := hf _ (List.Mem.tail _ (List.Mem.tail _ (List.Mem.tail _ (List.Mem.tail _ (List.Mem.tail _ (List.Mem.tail _ (List.Mem.tail _ (List.Mem.tail _ (List.Mem.tail _ (List.Mem.tail _ (List.Mem.tail _ (List.Mem.head _))))))))))))
  have f12 : 0 ≤ 0 + ((-1) * τ 1000001 + (1 * τ 1000002 + 0)) := hf _ (List.Mem.tail _ (List.Mem.tail _ (List.Mem.tail _ (List.Mem.tail _ (List.Mem.tail _ (List.Mem.tail _ (List.Mem.tail _ (List.Mem.tail _ (List.Mem.tail _ (List.Mem.tail _ (List.Mem.tail _ (List.Mem.tail _ (List.Mem.head _)))))))))))))
  have f13 : 0 ≤ (-1) + (1 * τ 19001 + ((-1) * τ 19002 + 0)) := hf _ (List.Mem.tail _ (List.Mem.tail _ (List.Mem.tail _ (List.Mem.tail _ (List.Mem.tail _ (List.Mem.tail _ (List.Mem.tail _ (List.Mem.tail _ (List.Mem.tail _ (List.Mem.tail _ (List.Mem.tail _ (List.Mem.tail _ (List.Mem.tail _ (List.Mem.head _))))))))))))))
  have f14 : 0 ≤ (-1) + (1 * τ 133 + ((-1) * τ 19002 + 0)) := hf _ (List.Mem.tail _ (List.Mem.tail _ (List.Mem.tail _ (List.Mem.tail _ (List.Mem.tail _ (List.Mem.tail _ (List.Mem.tail _ (List.Mem.tail _ (List.Mem.tail _ (List.Mem.tail _ (List.Mem.tail _ (List.Mem.tail _ (List.Mem.tail _ (List.Mem.tail _ (List.Mem.head _)))))))))))))))
  have f15 : 0 ≤ (-1) + (1 * τ 133 + ((-1) * τ 19001 + 0)) := hf _ (List.Mem.tail _ (List.Mem.tail _ (List.Mem.tail _ (List.Mem.tail _ (List.Mem.tail _ (List.Mem.tail _ (List.Mem.tail _ (List.Mem.tail _ (List.Mem.tail _ (List.Mem.tail _ (List.Mem.tail _ (List.Mem.tail _ (List.Mem.tail _ (List.Mem.tail _ (List.Mem.tail _ (List.Mem.head _))))))))))))))))
  have mX1 : σ' 18588 = σ 18543 := lw_id (hs 18543 (by decide)) (hm 18588 (by decide))
  have mY1 : σ' 18589 = 32 := (hm 18589 (by decide)).trans rfl
  have mO1 : σ' 18590 = 0 + (1 * τ 1000002 + 0) := hm 18590 (by decide)
  have mA1 : σ' 18543 = 0 + (1 * τ 1000001 + 0) := hm 18543 (by decide)
  unfold sy_or at ho1
  rw [mX1, mY1, show (32 : Int).toNat = 2 ^ 5 from rfl] at ho1
  have mX2 : σ' 18591 = σ 18541 := lw_id (hs 18541 (by decide)) (hm 18591 (by decide))
  have mY2 : σ' 18592 = 128 := (hm 18592 (by decide)).trans rfl
  have mO2 : σ' 18593 = 0 + (1 * τ 1000003 + 0) := hm 18593 (by decide)
  have mA2 : σ' 18541 = 0 + (1 * τ 1000000 + 0) := hm 18541 (by decide)
  unfold sy_or at ho2
  rw [mX2, mY2, show (128 : Int).toNat = 2 ^ 7 from rfl] at ho2
  have ti : lw_ti a1.toNat a2.toNat (fun p => σ (18536 + p)) (fun p => σ' (18536 + p)) := by
    rw [show a1.toNat = 7 by omega, show a2.toNat = 5 by omega]
    intro p hp
    rcases (show p = 0 ∨ p = 1 ∨ p = 2 ∨ p = 3 ∨ p = 4 ∨ p = 5 ∨ p = 6 ∨ p = 7 by omega) with rfl | rfl | rfl | rfl | rfl | rfl | rfl | rfl
    · show σ' 18536 = if (0 : Nat) = 7 then _ else if (0 : Nat) = 5 then _ else _
      rw [if_neg (by decide), if_neg (by decide)]
      exact lw_id (hs _ (by decide)) (hm _ (by decide))
    · show σ' 18537 = if (1 : Nat) = 7 then _ else if (1 : Nat) = 5 then _ else _
      rw [if_neg (by decide), if_neg (by decide)]
      exact lw_id (hs _ (by decide)) (hm _ (by decide))
    · show σ' 18538 = if (2 : Nat) = 7 then _ else if (2 : Nat) = 5 then _ else _
      rw [if_neg (by decide), if_neg (by decide)]
      exact lw_id (hs _ (by decide)) (hm _ (by decide))
    · show σ' 18539 = if (3 : Nat) = 7 then _ else if (3 : Nat) = 5 then _ else _
      rw [if_neg (by decide), if_neg (by decide)]
      exact lw_id (hs _ (by decide)) (hm _ (by decide))
    · show σ' 18540 = if (4 : Nat) = 7 then _ else if (4 : Nat) = 5 then _ else _
      rw [if_neg (by decide), if_neg (by decide)]
      exact lw_id (hs _ (by decide)) (hm _ (by decide))
    · show σ' 18541 = if (5 : Nat) = 7 then _ else if (5 : Nat) = 5 then _ else _
      rw [if_neg (by decide), if_pos rfl]
      show σ' 18541 = (((σ 18541).toNat ||| 2 ^ 7 : Nat) : Int)
      omega
    · show σ' 18542 = if (6 : Nat) = 7 then _ else if (6 : Nat) = 5 then _ else _
      rw [if_neg (by decide), if_neg (by decide)]
      exact lw_id (hs _ (by decide)) (hm _ (by decide))
    · show σ' 18543 = if (7 : Nat) = 7 then _ else _
      rw [if_pos rfl]
      show σ' 18543 = (((σ 18543).toNat ||| 2 ^ 5 : Nat) : Int)
      omega
  exact Or.inl ⟨by omega, by omega, by omega, by omega, by omega, Or.inr ⟨by omega, ti, (fun p hp => (by rcases (show p = 0 ∨ p = 1 ∨ p = 2 ∨ p = 3 ∨ p = 4 ∨ p = 5 ∨ p = 6 ∨ p = 7 by omega) with rfl | rfl | rfl | rfl | rfl | rfl | rfl | rfl <;> exact lw_id (hs _ (by decide)) (hm _ (by decide))))⟩⟩
set_option maxHeartbeats 1000000 in
theorem lw_ux_200 {as : List rv_A} {σ σ' : Nat → Int} {o : rv_O} {x : Int32} {a1 a2 a3 : Int} {τ : Nat → Int} (hx : o.1 = some (.inl x)) (h1 : lw_av as 1 = a1) (h2 : lw_av as 2 = a2) (h3 : lw_av as 3 = a3) (ho1 : sy_or (σ' 18588) (σ' 18589) (σ' 18590)) (ho2 : sy_or (σ' 18591) (σ' 18592) (σ' 18593)) (hW : lw_W ([(18549, 128, 255), (18551, 32, 255), (18590, 32, 255), (18593, 128, 255)], [(0, [(18549, (-1)), (1000000, 1)]), (0, [(18551, (-1)), (1000001, 1)]), ((-1), [(133, 1)]), (11, [(134, (-1))]), ((-7), [(19001, 1)]), (7, [(19001, (-1))]), ((-5), [(19002, 1)]), (5, [(19002, (-1))]), ((-1), [(19003, 1)]), (0, [(1000000, 1), (1000003, (-1))]), (0, [(1000000, (-1)), (1000003, 1)]), (0, [(1000001, 1), (1000002, (-1))]), (0, [(1000001, (-1)), (1000002, 1)]), ((-1), [(19001, 1), (19002, (-1))]), ((-1), [(133, 1), (19002, (-1))]), ((-1), [(133, 1), (19001, (-1))])], [(9, (0, [])), (134, (1, [(134, 1)])), (7048, ((-2), [])), (7049, ((-2), [])), (8069, (0, [])), (11396, ((-2), [])), (18549, (0, [(1000000, 1)])), (18551, (0, [(1000001, 1)])), (18588, (0, [(18551, 1)])), (18589, (32, [])), (18590, (0, [(1000002, 1)])), (18591, (0, [(18549, 1)])), (18592, (128, [])), (18593, (0, [(1000003, 1)])), (18594, (2, []))], some (false, (1, []))) as σ σ' τ o) : lw_ux_C a1 a2 a3 x.toInt σ σ' := by
  unfold lw_ux_C
  obtain ⟨hs, ht, hf, hr, hm, hw⟩ := hW
  have e1 : τ 19001 = a1 := by rw [ht 19001 (by decide) (by decide)]; exact h1
  have e2 : τ 19002 = a2 := by rw [ht 19002 (by decide) (by decide)]; exact h2
  have e3 : τ 19003 = a3 := by rw [ht 19003 (by decide) (by decide)]; exact h3
  rw [hx] at hr
  obtain ⟨y, hy, hv⟩ := hr
  cases hy
  replace hv : x.toInt = 1 + 0 := hv
  have f0 : 0 ≤ 0 + ((-1) * τ 18549 + (1 * τ 1000000 + 0)) := hf _ (List.Mem.head _)
  have f1 : 0 ≤ 0 + ((-1) * τ 18551 + (1 * τ 1000001 + 0)) := hf _ (List.Mem.tail _ (List.Mem.head _))
  have f2 : 0 ≤ (-1) + (1 * τ 133 + 0) := hf _ (List.Mem.tail _ (List.Mem.tail _ (List.Mem.head _)))
  have f3 : 0 ≤ 11 + ((-1) * τ 134 + 0) := hf _ (List.Mem.tail _ (List.Mem.tail _ (List.Mem.tail _ (List.Mem.head _))))
  have f4 : 0 ≤ (-7) + (1 * τ 19001 + 0) := hf _ (List.Mem.tail _ (List.Mem.tail _ (List.Mem.tail _ (List.Mem.tail _ (List.Mem.head _)))))
  have f5 : 0 ≤ 7 + ((-1) * τ 19001 + 0) := hf _ (List.Mem.tail _ (List.Mem.tail _ (List.Mem.tail _ (List.Mem.tail _ (List.Mem.tail _ (List.Mem.head _))))))
  have f6 : 0 ≤ (-5) + (1 * τ 19002 + 0) := hf _ (List.Mem.tail _ (List.Mem.tail _ (List.Mem.tail _ (List.Mem.tail _ (List.Mem.tail _ (List.Mem.tail _ (List.Mem.head _)))))))
  have f7 : 0 ≤ 5 + ((-1) * τ 19002 + 0) := hf _ (List.Mem.tail _ (List.Mem.tail _ (List.Mem.tail _ (List.Mem.tail _ (List.Mem.tail _ (List.Mem.tail _ (List.Mem.tail _ (List.Mem.head _))))))))
  have f8 : 0 ≤ (-1) + (1 * τ 19003 + 0) := hf _ (List.Mem.tail _ (List.Mem.tail _ (List.Mem.tail _ (List.Mem.tail _ (List.Mem.tail _ (List.Mem.tail _ (List.Mem.tail _ (List.Mem.tail _ (List.Mem.head _)))))))))
  have f9 : 0 ≤ 0 + (1 * τ 1000000 + ((-1) * τ 1000003 + 0)) := hf _ (List.Mem.tail _ (List.Mem.tail _ (List.Mem.tail _ (List.Mem.tail _ (List.Mem.tail _ (List.Mem.tail _ (List.Mem.tail _ (List.Mem.tail _ (List.Mem.tail _ (List.Mem.head _))))))))))
  have f10 : 0 ≤ 0 + ((-1) * τ 1000000 + (1 * τ 1000003 + 0)) := hf _ (List.Mem.tail _ (List.Mem.tail _ (List.Mem.tail _ (List.Mem.tail _ (List.Mem.tail _ (List.Mem.tail _ (List.Mem.tail _ (List.Mem.tail _ (List.Mem.tail _ (List.Mem.tail _ (List.Mem.head _)))))))))))
  have f11 : 0 ≤ 0 + (1 * τ 1000001 + ((-1) * τ 1000002 + 0)) := hf _ (List.Mem.tail _ (List.Mem.tail _ (List.Mem.tail _ (List.Mem.tail _ (List.Mem.tail _ (List.Mem.tail _ (List.Mem.tail _ (List.Mem.tail _ (List.Mem.tail _ (List.Mem.tail _ (List.Mem.tail _ (List.Mem.head _))))))))))))
  have f12 : 0 ≤ 0 + ((-1) * τ 1000001 + (1 * τ 1000002 + 0)) := hf _ (List.Mem.tail _ (List.Mem.tail _ (List.Mem.tail _ (List.Mem.tail _ (List.Mem.tail _ (List.Mem.tail _ (List.Mem.tail _ (List.Mem.tail _ (List.Mem.tail _ (List.Mem.tail _ (List.Mem.tail _ (List.Mem.tail _ (List.Mem.head _)))))))))))))
  have f13 : 0 ≤ (-1) + (1 * τ 19001 + ((-1) * τ 19002 + 0)) := hf _ (List.Mem.tail _ (List.Mem.tail _ (List.Mem.tail _ (List.Mem.tail _ (List.Mem.tail _ (List.Mem.tail _ (List.Mem.tail _ (List.Mem.tail _ (List.Mem.tail _ (List.Mem.tail _ (List.Mem.tail _ (List.Mem.tail _ (List.Mem.tail _ (List.Mem.head _))))))))))))))
  have f14 : 0 ≤ (-1) + (1 * τ 133 + ((-1) * τ 19002 + 0)) := hf _ (List.Mem.tail _ (List.Mem.tail _ (List.Mem.tail _ (List.Mem.tail _ (List.Mem.tail _ (List.Mem.tail _ (List.Mem.tail _ (List.Mem.tail _ (List.Mem.tail _ (List.Mem.tail _ (List.Mem.tail _ (List.Mem.tail _ (List.Mem.tail _ (List.Mem.tail _ (List.Mem.head _)))))))))))))))
  have f15 : 0 ≤ (-1) + (1 * τ 133 + ((-1) * τ 19001 + 0)) := hf _ (List.Mem.tail _ (List.Mem.tail _ (List.Mem.tail _ (List.Mem.tail _ (List.Mem.tail _ (List.Mem.tail _ (List.Mem.tail _ (List.Mem.tail _ (List.Mem.tail _ (List.Mem.tail _ (List.Mem.tail _ (List.Mem.tail _ (List.Mem.tail _ (List.Mem.tail _ (List.Mem.tail _ (List.Mem.head _))))))))))))))))
  have mX1 : σ' 18588 = σ 18551 := lw_id (hs 18551 (by decide)) (hm 18588 (by decide))
  have mY1 : σ' 18589 = 32 := (hm 18589 (by decide)).trans rfl
  have mO1 : σ' 18590 = 0 + (1 * τ 1000002 + 0) := hm 18590 (by decide)
  have mA1 : σ' 18551 = 0 + (1 * τ 1000001 + 0) := hm 18551 (by decide)
  unfold sy_or at ho1
  rw [mX1, mY1, show (32 : Int).toNat = 2 ^ 5 from rfl] at ho1
  have mX2 : σ' 18591 = σ 18549 := lw_id (hs 18549 (by decide)) (hm 18591 (by decide))
  have mY2 : σ' 18592 = 128 := (hm 18592 (by decide)).trans rfl
  have mO2 : σ' 18593 = 0 + (1 * τ 1000003 + 0) := hm 18593 (by decide)
  have mA2 : σ' 18549 = 0 + (1 * τ 1000000 + 0) := hm 18549 (by decide)
  unfold sy_or at ho2
  rw [mX2, mY2, show (128 : Int).toNat = 2 ^ 7 from rfl] at ho2
  have ti : lw_ti a1.toNat a2.toNat (fun p => σ (18544 + p)) (fun p => σ' (18544 + p)) := by
    rw [show a1.toNat = 7 by omega, show a2.toNat = 5 by omega]
    intro p hp
    rcases (show p = 0 ∨ p = 1 ∨ p = 2 ∨ p = 3 ∨ p = 4 ∨ p = 5 ∨ p = 6 ∨ p = 7 by omega) with rfl | rfl | rfl | rfl | rfl | rfl | rfl | rfl
    · show σ' 18544 = if (0 : Nat) = 7 then _ else if (0 : Nat) = 5 then _ else _
      rw [if_neg (by decide), if_neg (by decide)]
      exact lw_id (hs _ (by decide)) (hm _ (by decide))
    · show σ' 18545 = if (1 : Nat) = 7 then _ else if (1 : Nat) = 5 then _ else _
      rw [if_neg (by decide), if_neg (by decide)]
      exact lw_id (hs _ (by decide)) (hm _ (by decide))
    · show σ' 18546 = if (2 : Nat) = 7 then _ else if (2 : Nat) = 5 then _ else _
      rw [if_neg (by decide), if_neg (by decide)]
      exact lw_id (hs _ (by decide)) (hm _ (by decide))
    · show σ' 18547 = if (3 : Nat) = 7 then _ else if (3 : Nat) = 5 then _ else _
      rw [if_neg (by decide), if_neg (by decide)]
      exact lw_id (hs _ (by decide)) (hm _ (by decide))
    · show σ' 18548 = if (4 : Nat) = 7 then _ else if (4 : Nat) = 5 then _ else _
      rw [if_neg (by decide), if_neg (by decide)]
      exact lw_id (hs _ (by decide)) (hm _ (by decide))
    · show σ' 18549 = if (5 : Nat) = 7 then _ else if (5 : Nat) = 5 then _ else _
      rw [if_neg (by decide), if_pos rfl]
      show σ' 18549 = (((σ 18549).toNat ||| 2 ^ 7 : Nat) : Int)
      omega
    · show σ' 18550 = if (6 : Nat) = 7 then _ else if (6 : Nat) = 5 then _ else _
      rw [if_neg (by decide), if_neg (by decide)]
      exact lw_id (hs _ (by decide)) (hm _ (by decide))
    · show σ' 18551 = if (7 : Nat) = 7 then _ else _
      rw [if_pos rfl]
      show σ' 18551 = (((σ 18551).toNat ||| 2 ^ 5 : Nat) : Int)
      omega
  exact Or.inl ⟨by omega, by omega, by omega, by omega, by omega, Or.inl ⟨by omega, ti, (fun p hp => (by rcases (show p = 0 ∨ p = 1 ∨ p = 2 ∨ p = 3 ∨ p = 4 ∨ p = 5 ∨ p = 6 ∨ p = 7 by omega) with rfl | rfl | rfl | rfl | rfl | rfl | rfl | rfl <;> exact lw_id (hs _ (by decide)) (hm _ (by decide))))⟩⟩
set_option maxHeartbeats 1000000 in
theorem lw_ux_201 {as : List rv_A} {σ σ' : Nat → Int} {o : rv_O} {x : Int32} {a1 a2 a3 : Int} {τ : Nat → Int} (hx : o.1 = some (.inl x)) (h1 : lw_av as 1 = a1) (h2 : lw_av as 2 = a2) (h3 : lw_av as 3 = a3) (ho1 : sy_or (σ' 18588) (σ' 18589) (σ' 18590)) (ho2 : sy_or (σ' 18591) (σ' 18592) (σ' 18593)) (hW : lw_W ([(18542, 128, 255), (18543, 64, 255), (18590, 64, 255), (18593, 128, 255)], [(0, [(18542, (-1)), (1000000, 1)]), (0, [(18543, (-1)), (1000001, 1)]), ((-1), [(133, 1)]), (11, [(134, (-1))]), ((-7), [(19001, 1)]), (7, [(19001, (-1))]), ((-6), [(19002, 1)]), (6, [(19002, (-1))]), (0, [(19003, (-1))]), (0, [(1000000, 1), (1000003, (-1))]), (0, [(1000000, (-1)), (1000003, 1)]), (0, [(1000001, 1), (1000002, (-1))]), (0, [(1000001, (-1)), (1000002, 1)]), ((-1), [(19001, 1), (19002, (-1))]), ((-1), [(133, 1), (19002, (-1))]), ((-1), [(133, 1), (19001, (-1))])], [(9, (0, [])), (134, (1, [(134, 1)])), (7048, ((-2), [])), (7049, ((-2), [])), (8069, (0, [])), (11396, ((-2), [])), (18542, (0, [(1000000, 1)])), (18543, (0, [(1000001, 1)])), (18588, (0, [(18543, 1)])), (18589, (64, [])), (18590, (0, [(1000002, 1)])), (18591, (0, [(18542, 1)])), (18592, (128, [])), (18593, (0, [(1000003, 1)])), (18594, (2, []))], some (false, (1, []))) as σ σ' τ o) : lw_ux_C a1 a2 a3 x.toInt σ σ' := by
  unfold lw_ux_C
  obtain ⟨hs, ht, hf, hr, hm, hw⟩ := hW
  have e1 : τ 19001 = a1 := by rw [ht 19001 (by decide) (by decide)]; exact h1
  have e2 : τ 19002 = a2 := by rw [ht 19002 (by decide) (by decide)]; exact h2
  have e3 : τ 19003 = a3 := by rw [ht 19003 (by decide) (by decide)]; exact h3
  rw [hx] at hr
  obtain ⟨y, hy, hv⟩ := hr
  cases hy
  replace hv : x.toInt = 1 + 0 := hv
  have f0 : 0 ≤ 0 + ((-1) * τ 18542 + (1 * τ 1000000 + 0)) := hf _ (List.Mem.head _)
  have f1 : 0 ≤ 0 + ((-1) * τ 18543 + (1 * τ 1000001 + 0)) := hf _ (List.Mem.tail _ (List.Mem.head _))
  have f2 : 0 ≤ (-1) + (1 * τ 133 + 0) := hf _ (List.Mem.tail _ (List.Mem.tail _ (List.Mem.head _)))
  have f3 : 0 ≤ 11 + ((-1) * τ 134 + 0) := hf _ (List.Mem.tail _ (List.Mem.tail _ (List.Mem.tail _ (List.Mem.head _))))
  have f4 : 0 ≤ (-7) + (1 * τ 19001 + 0) := hf _ (List.Mem.tail _ (List.Mem.tail _ (List.Mem.tail _ (List.Mem.tail _ (List.Mem.head _)))))
  have f5 : 0 ≤ 7 + ((-1) * τ 19001 + 0) := hf _ (List.Mem.tail _ (List.Mem.tail _ (List.Mem.tail _ (List.Mem.tail _ (List.Mem.tail _ (List.Mem.head _))))))
  have f6 : 0 ≤ (-6) + (1 * τ 19002 + 0) := hf _ (List.Mem.tail _ (List.Mem.tail _ (List.Mem.tail _ (List.Mem.tail _ (List.Mem.tail _ (List.Mem.tail _ (List.Mem.head _)))))))
  have f7 : 0 ≤ 6 + ((-1) * τ 19002 + 0) := hf _ (List.Mem.tail _ (List.Mem.tail _ (List.Mem.tail _ (List.Mem.tail _ (List.Mem.tail _ (List.Mem.tail _ (List.Mem.tail _ (List.Mem.head _))))))))
  have f8 : 0 ≤ 0 + ((-1) * τ 19003 + 0) := hf _ (List.Mem.tail _ (List.Mem.tail _ (List.Mem.tail _ (List.Mem.tail _ (List.Mem.tail _ (List.Mem.tail _ (List.Mem.tail _ (List.Mem.tail _ (List.Mem.head _)))))))))
  have f9 : 0 ≤ 0 + (1 * τ 1000000 + ((-1) * τ 1000003 + 0)) := hf _ (List.Mem.tail _ (List.Mem.tail _ (List.Mem.tail _ (List.Mem.tail _ (List.Mem.tail _ (List.Mem.tail _ (List.Mem.tail _ (List.Mem.tail _ (List.Mem.tail _ (List.Mem.head _))))))))))
  have f10 : 0 ≤ 0 + ((-1) * τ 1000000 + (1 * τ 1000003 + 0)) := hf _ (List.Mem.tail _ (List.Mem.tail _ (List.Mem.tail _ (List.Mem.tail _ (List.Mem.tail _ (List.Mem.tail _ (List.Mem.tail _ (List.Mem.tail _ (List.Mem.tail _ (List.Mem.tail _ (List.Mem.head _)))))))))))
  have f11 : 0 ≤ 0 + (1 * τ 1000001 + ((-1) * τ 1000002 + 0)) := hf _ (List.Mem.tail _ (List.Mem.tail _ (List.Mem.tail _ (List.Mem.tail _ (List.Mem.tail _ (List.Mem.tail _ (List.Mem.tail _ (List.Mem.tail _ (List.Mem.tail _ (List.Mem.tail _ (List.Mem.tail _ (List.Mem.head _))))))))))))
  have f12 : 0 ≤ 0 + ((-1) * τ 1000001 + (1 * τ 1000002 + 0)) := hf _ (List.Mem.tail _ (List.Mem.tail _ (List.Mem.tail _ (List.Mem.tail _ (List.Mem.tail _ (List.Mem.tail _ (List.Mem.tail _ (List.Mem.tail _ (List.Mem.tail _ (List.Mem.tail _ (List.Mem.tail _ (List.Mem.tail _ (List.Mem.head _)))))))))))))
  have f13 : 0 ≤ (-1) + (1 * τ 19001 + ((-1) * τ 19002 + 0)) := hf _ (List.Mem.tail _ (List.Mem.tail _ (List.Mem.tail _ (List.Mem.tail _ (List.Mem.tail _ (List.Mem.tail _ (List.Mem.tail _ (List.Mem.tail _ (List.Mem.tail _ (List.Mem.tail _ (List.Mem.tail _ (List.Mem.tail _ (List.Mem.tail _ (List.Mem.head _))))))))))))))
  have f14 : 0 ≤ (-1) + (1 * τ 133 + ((-1) * τ 19002 + 0)) := hf _ (List.Mem.tail _ (List.Mem.tail _ (List.Mem.tail _ (List.Mem.tail _ (List.Mem.tail _ (List.Mem.tail _ (List.Mem.tail _ (List.Mem.tail _ (List.Mem.tail _ (List.Mem.tail _ (List.Mem.tail _ (List.Mem.tail _ (List.Mem.tail _ (List.Mem.tail _ (List.Mem.head _)))))))))))))))
  have f15 : 0 ≤ (-1) + (1 * τ 133 + ((-1) * τ 19001 + 0)) := hf _ (List.Mem.tail _ (List.Mem.tail _ (List.Mem.tail _ (List.Mem.tail _ (List.Mem.tail _ (List.Mem.tail _ (List.Mem.tail _ (List.Mem.tail _ (List.Mem.tail _ (List.Mem.tail _ (List.Mem.tail _ (List.Mem.tail _ (List.Mem.tail _ (List.Mem.tail _ (List.Mem.tail _ (List.Mem.head _))))))))))))))))
  have mX1 : σ' 18588 = σ 18543 := lw_id (hs 18543 (by decide)) (hm 18588 (by decide))
  have mY1 : σ' 18589 = 64 := (hm 18589 (by decide)).trans rfl
  have mO1 : σ' 18590 = 0 + (1 * τ 1000002 + 0) := hm 18590 (by decide)
  have mA1 : σ' 18543 = 0 + (1 * τ 1000001 + 0) := hm 18543 (by decide)
  unfold sy_or at ho1
  rw [mX1, mY1, show (64 : Int).toNat = 2 ^ 6 from rfl] at ho1
  have mX2 : σ' 18591 = σ 18542 := lw_id (hs 18542 (by decide)) (hm 18591 (by decide))
  have mY2 : σ' 18592 = 128 := (hm 18592 (by decide)).trans rfl
  have mO2 : σ' 18593 = 0 + (1 * τ 1000003 + 0) := hm 18593 (by decide)
  have mA2 : σ' 18542 = 0 + (1 * τ 1000000 + 0) := hm 18542 (by decide)
  unfold sy_or at ho2
  rw [mX2, mY2, show (128 : Int).toNat = 2 ^ 7 from rfl] at ho2
  have ti : lw_ti a1.toNat a2.toNat (fun p => σ (18536 + p)) (fun p => σ' (18536 + p)) := by
    rw [show a1.toNat = 7 by omega, show a2.toNat = 6 by omega]
    intro p hp
    rcases (show p = 0 ∨ p = 1 ∨ p = 2 ∨ p = 3 ∨ p = 4 ∨ p = 5 ∨ p = 6 ∨ p = 7 by omega) with rfl | rfl | rfl | rfl | rfl | rfl | rfl | rfl
    · show σ' 18536 = if (0 : Nat) = 7 then _ else if (0 : Nat) = 6 then _ else _
      rw [if_neg (by decide), if_neg (by decide)]
      exact lw_id (hs _ (by decide)) (hm _ (by decide))
    · show σ' 18537 = if (1 : Nat) = 7 then _ else if (1 : Nat) = 6 then _ else _
      rw [if_neg (by decide), if_neg (by decide)]
      exact lw_id (hs _ (by decide)) (hm _ (by decide))
    · show σ' 18538 = if (2 : Nat) = 7 then _ else if (2 : Nat) = 6 then _ else _
      rw [if_neg (by decide), if_neg (by decide)]
      exact lw_id (hs _ (by decide)) (hm _ (by decide))
    · show σ' 18539 = if (3 : Nat) = 7 then _ else if (3 : Nat) = 6 then _ else _
      rw [if_neg (by decide), if_neg (by decide)]
      exact lw_id (hs _ (by decide)) (hm _ (by decide))
    · show σ' 18540 = if (4 : Nat) = 7 then _ else if (4 : Nat) = 6 then _ else _
      rw [if_neg (by decide), if_neg (by decide)]
      exact lw_id (hs _ (by decide)) (hm _ (by decide))
    · show σ' 18541 = if (5 : Nat) = 7 then _ else if (5 : Nat) = 6 then _ else _
      rw [if_neg (by decide), if_neg (by decide)]
      exact lw_id (hs _ (by decide)) (hm _ (by decide))
    · show σ' 18542 = if (6 : Nat) = 7 then _ else if (6 : Nat) = 6 then _ else _
      rw [if_neg (by decide), if_pos rfl]
      show σ' 18542 = (((σ 18542).toNat ||| 2 ^ 7 : Nat) : Int)
      omega
    · show σ' 18543 = if (7 : Nat) = 7 then _ else _
      rw [if_pos rfl]
      show σ' 18543 = (((σ 18543).toNat ||| 2 ^ 6 : Nat) : Int)
      omega
  exact Or.inl ⟨by omega, by omega, by omega, by omega, by omega, Or.inr ⟨by omega, ti, (fun p hp => (by rcases (show p = 0 ∨ p = 1 ∨ p = 2 ∨ p = 3 ∨ p = 4 ∨ p = 5 ∨ p = 6 ∨ p = 7 by omega) with rfl | rfl | rfl | rfl | rfl | rfl | rfl | rfl <;> exact lw_id (hs _ (by decide)) (hm _ (by decide))))⟩⟩
set_option maxHeartbeats 1000000 in
theorem lw_ux_202 {as : List rv_A} {σ σ' : Nat → Int} {o : rv_O} {x : Int32} {a1 a2 a3 : Int} {τ : Nat → Int} (hx : o.1 = some (.inl x)) (h1 : lw_av as 1 = a1) (h2 : lw_av as 2 = a2) (h3 : lw_av as 3 = a3) (ho1 : sy_or (σ' 18588) (σ' 18589) (σ' 18590)) (ho2 : sy_or (σ' 18591) (σ' 18592) (σ' 18593)) (hW : lw_W ([(18550, 128, 255), (18551, 64, 255), (18590, 64, 255), (18593, 128, 255)], [(0, [(18550, (-1)), (1000000, 1)]), (0, [(18551, (-1)), (1000001, 1)]), ((-1), [(133, 1)]), (11, [(134, (-1))]), ((-7), [(19001, 1)]), (7, [(19001, (-1))]), ((-6), [(19002, 1)]), (6, [(19002, (-1))]), ((-1), [(19003, 1)]), (0, [(1000000, 1), (1000003, (-1))]), (0, [(1000000, (-1)), (1000003, 1)]), (0, [(1000001, 1), (1000002, (-1))]), (0, [(1000001, (-1)), (1000002, 1)]), ((-1), [(19001, 1), (19002, (-1))]), ((-1), [(133, 1), (19002, (-1))]), ((-1), [(133, 1), (19001, (-1))])], [(9, (0, [])), (134, (1, [(134, 1)])), (7048, ((-2), [])), (7049, ((-2), [])), (8069, (0, [])), (11396, ((-2), [])), (18550, (0, [(1000000, 1)])), (18551, (0, [(1000001, 1)])), (18588, (0, [(18551, 1)])), (18589, (64, [])), (18590, (0, [(1000002, 1)])), (18591, (0, [(18550, 1)])), (18592, (128, [])), (18593, (0, [(1000003, 1)])), (18594, (2, []))], some (false, (1, []))) as σ σ' τ o) : lw_ux_C a1 a2 a3 x.toInt σ σ' := by
  unfold lw_ux_C
  obtain ⟨hs, ht, hf, hr, hm, hw⟩ := hW
  have e1 : τ 19001 = a1 := by rw [ht 19001 (by decide) (by decide)]; exact h1
  have e2 : τ 19002 = a2 := by rw [ht 19002 (by decide) (by decide)]; exact h2
  have e3 : τ 19003 = a3 := by rw [ht 19003 (by decide) (by decide)]; exact h3
  rw [hx] at hr
  obtain ⟨y, hy, hv⟩ := hr
  cases hy
  replace hv : x.toInt = 1 + 0 := hv
  have f0 : 0 ≤ 0 + ((-1) * τ 18550 + (1 * τ 1000000 + 0)) := hf _ (List.Mem.head _)
  have f1 : 0 ≤ 0 + ((-1) * τ 18551 + (1 * τ 1000001 + 0)) := hf _ (List.Mem.tail _ (List.Mem.head _))
  have f2 : 0 ≤ (-1) + (1 * τ 133 + 0) := hf _ (List.Mem.tail _ (List.Mem.tail _ (List.Mem.head _)))
  have f3 : 0 ≤ 11 + ((-1) * τ 134 + 0) := hf _ (List.Mem.tail _ (List.Mem.tail _ (List.Mem.tail _ (List.Mem.head _))))
  have f4 : 0 ≤ (-7) + (1 * τ 19001 + 0) := hf _ (List.Mem.tail _ (List.Mem.tail _ (List.Mem.tail _ (List.Mem.tail _ (List.Mem.head _)))))
  have f5 : 0 ≤ 7 + ((-1) * τ 19001 + 0) := hf _ (List.Mem.tail _ (List.Mem.tail _ (List.Mem.tail _ (List.Mem.tail _ (List.Mem.tail _ (List.Mem.head _))))))
  have f6 : 0 ≤ (-6) + (1 * τ 19002 + 0) := hf _ (List.Mem.tail _ (List.Mem.tail _ (List.Mem.tail _ (List.Mem.tail _ (List.Mem.tail _ (List.Mem.tail _ (List.Mem.head _)))))))
  have f7 : 0 ≤ 6 + ((-1) * τ 19002 + 0) := hf _ (List.Mem.tail _ (List.Mem.tail _ (List.Mem.tail _ (List.Mem.tail _ (List.Mem.tail _ (List.Mem.tail _ (List.Mem.tail _ (List.Mem.head _))))))))
  have f8 : 0 ≤ (-1) + (1 * τ 19003 + 0) := hf _ (List.Mem.tail _ (List.Mem.tail _ (List.Mem.tail _ (List.Mem.tail _ (List.Mem.tail _ (List.Mem.tail _ (List.Mem.tail _ (List.Mem.tail _ (List.Mem.head _)))))))))
  have f9 : 0 ≤ 0 + (1 * τ 1000000 + ((-1) * τ 1000003 + 0)) := hf _ (List.Mem.tail _ (List.Mem.tail _ (List.Mem.tail _ (List.Mem.tail _ (List.Mem.tail _ (List.Mem.tail _ (List.Mem.tail _ (List.Mem.tail _ (List.Mem.tail _ (List.Mem.head _))))))))))
  have f10 : 0 ≤ 0 + ((-1) * τ 1000000 + (1 * τ 1000003 + 0)) := hf _ (List.Mem.tail _ (List.Mem.tail _ (List.Mem.tail _ (List.Mem.tail _ (List.Mem.tail _ (List.Mem.tail _ (List.Mem.tail _ (List.Mem.tail _ (List.Mem.tail _ (List.Mem.tail _ (List.Mem.head _)))))))))))
  have f11 : 0 ≤ 0 + (1 * τ 1000001 + ((-1) * τ 1000002 + 0)) := hf _ (List.Mem.tail _ (List.Mem.tail _ (List.Mem.tail _ (List.Mem.tail _ (List.Mem.tail _ (List.Mem.tail _ (List.Mem.tail _ (List.Mem.tail _ (List.Mem.tail _ (List.Mem.tail _ (List.Mem.tail _ (List.Mem.head _))))))))))))
  have f12 : 0 ≤ 0 + ((-1) * τ 1000001 + (1 * τ 1000002 + 0)) := hf _ (List.Mem.tail _ (List.Mem.tail _ (List.Mem.tail _ (List.Mem.tail _ (List.Mem.tail _ (List.Mem.tail _ (List.Mem.tail _ (List.Mem.tail _ (List.Mem.tail _ (List.Mem.tail _ (List.Mem.tail _ (List.Mem.tail _ (List.Mem.head _)))))))))))))
  have f13 : 0 ≤ (-1) + (1 * τ 19001 + ((-1) * τ 19002 + 0)) := hf _ (List.Mem.tail _ (List.Mem.tail _ (List.Mem.tail _ (List.Mem.tail _ (List.Mem.tail _ (List.Mem.tail _ (List.Mem.tail _ (List.Mem.tail _ (List.Mem.tail _ (List.Mem.tail _ (List.Mem.tail _ (List.Mem.tail _ (List.Mem.tail _ (List.Mem.head _))))))))))))))
  have f14 : 0 ≤ (-1) + (1 * τ 133 + ((-1) * τ 19002 + 0)) := hf _ (List.Mem.tail _ (List.Mem.tail _ (List.Mem.tail _ (List.Mem.tail _ (List.Mem.tail _ (List.Mem.tail _ (List.Mem.tail _ (List.Mem.tail _ (List.Mem.tail _ (List.Mem.tail _ (List.Mem.tail _ (List.Mem.tail _ (List.Mem.tail _ (List.Mem.tail _ (List.Mem.head _)))))))))))))))
  have f15 : 0 ≤ (-1) + (1 * τ 133 + ((-1) * τ 19001 + 0)) := hf _ (List.Mem.tail _ (List.Mem.tail _ (List.Mem.tail _ (List.Mem.tail _ (List.Mem.tail _ (List.Mem.tail _ (List.Mem.tail _ (List.Mem.tail _ (List.Mem.tail _ (List.Mem.tail _ (List.Mem.tail _ (List.Mem.tail _ (List.Mem.tail _ (List.Mem.tail _ (List.Mem.tail _ (List.Mem.head _))))))))))))))))
  have mX1 : σ' 18588 = σ 18551 := lw_id (hs 18551 (by decide)) (hm 18588 (by decide))
  have mY1 : σ' 18589 = 64 := (hm 18589 (by decide)).trans rfl
  have mO1 : σ' 18590 = 0 + (1 * τ 1000002 + 0) := hm 18590 (by decide)
  have mA1 : σ' 18551 = 0 + (1 * τ 1000001 + 0) := hm 18551 (by decide)
  unfold sy_or at ho1
  rw [mX1, mY1, show (64 : Int).toNat = 2 ^ 6 from rfl] at ho1
  have mX2 : σ' 18591 = σ 18550 := lw_id (hs 18550 (by decide)) (hm 18591 (by decide))
  have mY2 : σ' 18592 = 128 := (hm 18592 (by decide)).trans rfl
  have mO2 : σ' 18593 = 0 + (1 * τ 1000003 + 0) := hm 18593 (by decide)
  have mA2 : σ' 18550 = 0 + (1 * τ 1000000 + 0) := hm 18550 (by decide)
  unfold sy_or at ho2
  rw [mX2, mY2, show (128 : Int).toNat = 2 ^ 7 from rfl] at ho2
  have ti : lw_ti a1.toNat a2.toNat (fun p => σ (18544 + p)) (fun p => σ' (18544 + p)) := by
    rw [show a1.toNat = 7 by omega, show a2.toNat = 6 by omega]
    intro p hp
    rcases (show p = 0 ∨ p = 1 ∨ p = 2 ∨ p = 3 ∨ p = 4 ∨ p = 5 ∨ p = 6 ∨ p = 7 by omega) with rfl | rfl | rfl | rfl | rfl | rfl | rfl | rfl
    · show σ' 18544 = if (0 : Nat) = 7 then _ else if (0 : Nat) = 6 then _ else _
      rw [if_neg (by decide), if_neg (by decide)]
      exact lw_id (hs _ (by decide)) (hm _ (by decide))
    · show σ' 18545 = if (1 : Nat) = 7 then _ else if (1 : Nat) = 6 then _ else _
      rw [if_neg (by decide), if_neg (by decide)]
      exact lw_id (hs _ (by decide)) (hm _ (by decide))
    · show σ' 18546 = if (2 : Nat) = 7 then _ else if (2 : Nat) = 6 then _ else _
      rw [if_neg (by decide), if_neg (by decide)]
      exact lw_id (hs _ (by decide)) (hm _ (by decide))
    · show σ' 18547 = if (3 : Nat) = 7 then _ else if (3 : Nat) = 6 then _ else _
      rw [if_neg (by decide), if_neg (by decide)]
      exact lw_id (hs _ (by decide)) (hm _ (by decide))
    · show σ' 18548 = if (4 : Nat) = 7 then _ else if (4 : Nat) = 6 then _ else _
      rw [if_neg (by decide), if_neg (by decide)]
      exact lw_id (hs _ (by decide)) (hm _ (by decide))
    · show σ' 18549 = if (5 : Nat) = 7 then _ else if (5 : Nat) = 6 then _ else _
      rw [if_neg (by decide), if_neg (by decide)]
      exact lw_id (hs _ (by decide)) (hm _ (by decide))
    · show σ' 18550 = if (6 : Nat) = 7 then _ else if (6 : Nat) = 6 then _ else _
      rw [if_neg (by decide), if_pos rfl]
      show σ' 18550 = (((σ 18550).toNat ||| 2 ^ 7 : Nat) : Int)
      omega
    · show σ' 18551 = if (7 : Nat) = 7 then _ else _
      rw [if_pos rfl]
      show σ' 18551 = (((σ 18551).toNat ||| 2 ^ 6 : Nat) : Int)
      omega
  exact Or.inl ⟨by omega, by omega, by omega, by omega, by omega, Or.inl ⟨by omega, ti, (fun p hp => (by rcases (show p = 0 ∨ p = 1 ∨ p = 2 ∨ p = 3 ∨ p = 4 ∨ p = 5 ∨ p = 6 ∨ p = 7 by omega) with rfl | rfl | rfl | rfl | rfl | rfl | rfl | rfl <;> exact lw_id (hs _ (by decide)) (hm _ (by decide))))⟩⟩
set_option maxHeartbeats 8000000 in
set_option maxRecDepth 100000 in
theorem lw_ux {as : List rv_A} {σ σ' : Nat → Int} {o : rv_O} {x : Int32} {a1 a2 a3 : Int} (hx : o.1 = some (.inl x)) (h1 : lw_av as 1 = a1) (h2 : lw_av as 2 = a2) (h3 : lw_av as 3 = a3) (ho1 : sy_or (σ' 18588) (σ' 18589) (σ' 18590)) (ho2 : sy_or (σ' 18591) (σ' 18592) (σ' 18593)) (h : lw_Qc sx_c219 as σ σ' o) : lw_ux_C a1 a2 a3 x.toInt σ σ' := by
  obtain ⟨g, hg, τ, hW⟩ := h
  simp only [sx_c219, List.mem_cons, List.not_mem_nil, or_false] at hg
  rcases hg with rfl | rfl | rfl | rfl | rfl | rfl | rfl | rfl | rfl | rfl | rfl | rfl | rfl | rfl | rfl | rfl | rfl | rfl | rfl | rfl | rfl | rfl | rfl | rfl | rfl | rfl | rfl | rfl | rfl | rfl | rfl | rfl | rfl | rfl | rfl | rfl | rfl | rfl | rfl | rfl | rfl | rfl | rfl | rfl | rfl | rfl | rfl | rfl | rfl | rfl | rfl | rfl | rfl | rfl | rfl | rfl | rfl | rfl | rfl | rfl | rfl | rfl | rfl | rfl | rfl | rfl | rfl | rfl | rfl | rfl | rfl | rfl | rfl | rfl | rfl | rfl | rfl | rfl | rfl | rfl | rfl | rfl | rfl | rfl | rfl | rfl | rfl | rfl | rfl | rfl | rfl | rfl | rfl | rfl | rfl | rfl | rfl | rfl | rfl | rfl | rfl | rfl | rfl | rfl | rfl | rfl | rfl | rfl | rfl | rfl | rfl | rfl | rfl | rfl | rfl | rfl | rfl | rfl | rfl | rfl | rfl | rfl | rfl | rfl | rfl | rfl | rfl | rfl | rfl | rfl | rfl | rfl | rfl | rfl | rfl | rfl | rfl | rfl | rfl | rfl | rfl | rfl | rfl | rfl | rfl | rfl | rfl | rfl | rfl | rfl | rfl | rfl | rfl | rfl | rfl | rfl | rfl | rfl | rfl | rfl | rfl | rfl | rfl | rfl | rfl | rfl | rfl | rfl | rfl | rfl | rfl | rfl | rfl | rfl | rfl | rfl | rfl | rfl | rfl | rfl | rfl | rfl | rfl | rfl | rfl | rfl | rfl | rfl | rfl | rfl | rfl | rfl | rfl | rfl | rfl | rfl | rfl | rfl | rfl | rfl | rfl | rfl | rfl
  · exact lw_ux_0 hx h1 h2 h3 ho1 ho2 hW
  · exact lw_ux_1 hx h1 h2 h3 ho1 ho2 hW
  · exact lw_ux_2 hx h1 h2 h3 ho1 ho2 hW
  · exact lw_ux_3 hx h1 h2 h3 ho1 ho2 hW
  · exact lw_ux_4 hx h1 h2 h3 ho1 ho2 hW
  · exact lw_ux_5 hx h1 h2 h3 ho1 ho2 hW
  · exact lw_ux_6 hx h1 h2 h3 ho1 ho2 hW
  · exact lw_ux_7 hx h1 h2 h3 ho1 ho2 hW
  · exact lw_ux_8 hx h1 h2 h3 ho1 ho2 hW
  · exact lw_ux_9 hx h1 h2 h3 ho1 ho2 hW
  · exact lw_ux_10 hx h1 h2 h3 ho1 ho2 hW
  · exact lw_ux_11 hx h1 h2 h3 ho1 ho2 hW
  · exact lw_ux_12 hx h1 h2 h3 ho1 ho2 hW
  · exact lw_ux_13 hx h1 h2 h3 ho1 ho2 hW
  · exact lw_ux_14 hx h1 h2 h3 ho1 ho2 hW
  · exact lw_ux_15 hx h1 h2 h3 ho1 ho2 hW
  · exact lw_ux_16 hx h1 h2 h3 ho1 ho2 hW
  · exact lw_ux_17 hx h1 h2 h3 ho1 ho2 hW
  · exact lw_ux_18 hx h1 h2 h3 ho1 ho2 hW
  · exact lw_ux_19 hx h1 h2 h3 ho1 ho2 hW
  · exact lw_ux_20 hx h1 h2 h3 ho1 ho2 hW
  · exact lw_ux_21 hx h1 h2 h3 ho1 ho2 hW
  · exact lw_ux_22 hx h1 h2 h3 ho1 ho2 hW
  · exact lw_ux_23 hx h1 h2 h3 ho1 ho2 hW
  · exact lw_ux_24 hx h1 h2 h3 ho1 ho2 hW
  · exact lw_ux_25 hx h1 h2 h3 ho1 ho2 hW
  · exact lw_ux_26 hx h1 h2 h3 ho1 ho2 hW
  · exact lw_ux_27 hx h1 h2 h3 ho1 ho2 hW
  · exact lw_ux_28 hx h1 h2 h3 ho1 ho2 hW
  · exact lw_ux_29 hx h1 h2 h3 ho1 ho2 hW
  · exact lw_ux_30 hx h1 h2 h3 ho1 ho2 hW
  · exact lw_ux_31 hx h1 h2 h3 ho1 ho2 hW
  · exact lw_ux_32 hx h1 h2 h3 ho1 ho2 hW
  · exact lw_ux_33 hx h1 h2 h3 ho1 ho2 hW
  · exact lw_ux_34 hx h1 h2 h3 ho1 ho2 hW
  · exact lw_ux_35 hx h1 h2 h3 ho1 ho2 hW
  · exact lw_ux_36 hx h1 h2 h3 ho1 ho2 hW
  · exact lw_ux_37 hx h1 h2 h3 ho1 ho2 hW
  · exact lw_ux_38 hx h1 h2 h3 ho1 ho2 hW
  · exact lw_ux_39 hx h1 h2 h3 ho1 ho2 hW
  · exact lw_ux_40 hx h1 h2 h3 ho1 ho2 hW
  · exact lw_ux_41 hx h1 h2 h3 ho1 ho2 hW
  · exact lw_ux_42 hx h1 h2 h3 ho1 ho2 hW
  · exact lw_ux_43 hx h1 h2 h3 ho1 ho2 hW
  · exact lw_ux_44 hx h1 h2 h3 ho1 ho2 hW
  · exact lw_ux_45 hx h1 h2 h3 ho1 ho2 hW
  · exact lw_ux_46 hx h1 h2 h3 ho1 ho2 hW
  · exact lw_ux_47 hx h1 h2 h3 ho1 ho2 hW
  · exact lw_ux_48 hx h1 h2 h3 ho1 ho2 hW
  · exact lw_ux_49 hx h1 h2 h3 ho1 ho2 hW
  · exact lw_ux_50 hx h1 h2 h3 ho1 ho2 hW
  · exact lw_ux_51 hx h1 h2 h3 ho1 ho2 hW
  · exact lw_ux_52 hx h1 h2 h3 ho1 ho2 hW
  · exact lw_ux_53 hx h1 h2 h3 ho1 ho2 hW
  · exact lw_ux_54 hx h1 h2 h3 ho1 ho2 hW
  · exact lw_ux_55 hx h1 h2 h3 ho1 ho2 hW
  · exact lw_ux_56 hx h1 h2 h3 ho1 ho2 hW
  · exact lw_ux_57 hx h1 h2 h3 ho1 ho2 hW
  · exact lw_ux_58 hx h1 h2 h3 ho1 ho2 hW
  · exact lw_ux_59 hx h1 h2 h3 ho1 ho2 hW
  · exact lw_ux_60 hx h1 h2 h3 ho1 ho2 hW
  · exact lw_ux_61 hx h1 h2 h3 ho1 ho2 hW
  · exact lw_ux_62 hx h1 h2 h3 ho1 ho2 hW
  · exact lw_ux_63 hx h1 h2 h3 ho1 ho2 hW
  · exact lw_ux_64 hx h1 h2 h3 ho1 ho2 hW
  · exact lw_ux_65 hx h1 h2 h3 ho1 ho2 hW
  · exact lw_ux_66 hx h1 h2 h3 ho1 ho2 hW
  · exact lw_ux_67 hx h1 h2 h3 ho1 ho2 hW
  · exact lw_ux_68 hx h1 h2 h3 ho1 ho2 hW
  · exact lw_ux_69 hx h1 h2 h3 ho1 ho2 hW
  · exact lw_ux_70 hx h1 h2 h3 ho1 ho2 hW
  · exact lw_ux_71 hx h1 h2 h3 ho1 ho2 hW
  · exact lw_ux_72 hx h1 h2 h3 ho1 ho2 hW
  · exact lw_ux_73 hx h1 h2 h3 ho1 ho2 hW
  · exact lw_ux_74 hx h1 h2 h3 ho1 ho2 hW
  · exact lw_ux_75 hx h1 h2 h3 ho1 ho2 hW
  · exact lw_ux_76 hx h1 h2 h3 ho1 ho2 hW
  · exact lw_ux_77 hx h1 h2 h3 ho1 ho2 hW
  · exact lw_ux_78 hx h1 h2 h3 ho1 ho2 hW
  · exact lw_ux_79 hx h1 h2 h3 ho1 ho2 hW
  · exact lw_ux_80 hx h1 h2 h3 ho1 ho2 hW
  · exact lw_ux_81 hx h1 h2 h3 ho1 ho2 hW
  · exact lw_ux_82 hx h1 h2 h3 ho1 ho2 hW
  · exact lw_ux_83 hx h1 h2 h3 ho1 ho2 hW
  · exact lw_ux_84 hx h1 h2 h3 ho1 ho2 hW
  · exact lw_ux_85 hx h1 h2 h3 ho1 ho2 hW
  · exact lw_ux_86 hx h1 h2 h3 ho1 ho2 hW
  · exact lw_ux_87 hx h1 h2 h3 ho1 ho2 hW
  · exact lw_ux_88 hx h1 h2 h3 ho1 ho2 hW
  · exact lw_ux_89 hx h1 h2 h3 ho1 ho2 hW
  · exact lw_ux_90 hx h1 h2 h3 ho1 ho2 hW
  · exact lw_ux_91 hx h1 h2 h3 ho1 ho2 hW
  · exact lw_ux_92 hx h1 h2 h3 ho1 ho2 hW
  · exact lw_ux_93 hx h1 h2 h3 ho1 ho2 hW
  · exact lw_ux_94 hx h1 h2 h3 ho1 ho2 hW
  · exact lw_ux_95 hx h1 h2 h3 ho1 ho2 hW
  · exact lw_ux_96 hx h1 h2 h3 ho1 ho2 hW
  · exact lw_ux_97 hx h1 h2 h3 ho1 ho2 hW
  · exact lw_ux_98 hx h1 h2 h3 ho1 ho2 hW
  · exact lw_ux_99 hx h1 h2 h3 ho1 ho2 hW
  · exact lw_ux_100 hx h1 h2 h3 ho1 ho2 hW
  · exact lw_ux_101 hx h1 h2 h3 ho1 ho2 hW
  · exact lw_ux_102 hx h1 h2 h3 ho1 ho2 hW
  · exact lw_ux_103 hx h1 h2 h3 ho1 ho2 hW
  · exact lw_ux_104 hx h1 h2 h3 ho1 ho2 hW
  · exact lw_ux_105 hx h1 h2 h3 ho1 ho2 hW
  · exact lw_ux_106 hx h1 h2 h3 ho1 ho2 hW
  · exact lw_ux_107 hx h1 h2 h3 ho1 ho2 hW
  · exact lw_ux_108 hx h1 h2 h3 ho1 ho2 hW
  · exact lw_ux_109 hx h1 h2 h3 ho1 ho2 hW
  · exact lw_ux_110 hx h1 h2 h3 ho1 ho2 hW
  · exact lw_ux_111 hx h1 h2 h3 ho1 ho2 hW
  · exact lw_ux_112 hx h1 h2 h3 ho1 ho2 hW
  · exact lw_ux_113 hx h1 h2 h3 ho1 ho2 hW
  · exact lw_ux_114 hx h1 h2 h3 ho1 ho2 hW
  · exact lw_ux_115 hx h1 h2 h3 ho1 ho2 hW
  · exact lw_ux_116 hx h1 h2 h3 ho1 ho2 hW
  · exact lw_ux_117 hx h1 h2 h3 ho1 ho2 hW
  · exact lw_ux_118 hx h1 h2 h3 ho1 ho2 hW
  · exact lw_ux_119 hx h1 h2 h3 ho1 ho2 hW
  · exact lw_ux_120 hx h1 h2 h3 ho1 ho2 hW
  · exact lw_ux_121 hx h1 h2 h3 ho1 ho2 hW
  · exact lw_ux_122 hx h1 h2 h3 ho1 ho2 hW
  · exact lw_ux_123 hx h1 h2 h3 ho1 ho2 hW
  · exact lw_ux_124 hx h1 h2 h3 ho1 ho2 hW
  · exact lw_ux_125 hx h1 h2 h3 ho1 ho2 hW
  · exact lw_ux_126 hx h1 h2 h3 ho1 ho2 hW
  · exact lw_ux_127 hx h1 h2 h3 ho1 ho2 hW
  · exact lw_ux_128 hx h1 h2 h3 ho1 ho2 hW
  · exact lw_ux_129 hx h1 h2 h3 ho1 ho2 hW
  · exact lw_ux_130 hx h1 h2 h3 ho1 ho2 hW
  · exact lw_ux_131 hx h1 h2 h3 ho1 ho2 hW
  · exact lw_ux_132 hx h1 h2 h3 ho1 ho2 hW
  · exact lw_ux_133 hx h1 h2 h3 ho1 ho2 hW
  · exact lw_ux_134 hx h1 h2 h3 ho1 ho2 hW
  · exact lw_ux_135 hx h1 h2 h3 ho1 ho2 hW
  · exact lw_ux_136 hx h1 h2 h3 ho1 ho2 hW
  · exact lw_ux_137 hx h1 h2 h3 ho1 ho2 hW
  · exact lw_ux_138 hx h1 h2 h3 ho1 ho2 hW
  · exact lw_ux_139 hx h1 h2 h3 ho1 ho2 hW
  · exact lw_ux_140 hx h1 h2 h3 ho1 ho2 hW
  · exact lw_ux_141 hx h1 h2 h3 ho1 ho2 hW
  · exact lw_ux_142 hx h1 h2 h3 ho1 ho2 hW
  · exact lw_ux_143 hx h1 h2 h3 ho1 ho2 hW
  · exact lw_ux_144 hx h1 h2 h3 ho1 ho2 hW
  · exact lw_ux_145 hx h1 h2 h3 ho1 ho2 hW
  · exact lw_ux_146 hx h1 h2 h3 ho1 ho2 hW
  · exact lw_ux_147 hx h1 h2 h3 ho1 ho2 hW
  · exact lw_ux_148 hx h1 h2 h3 ho1 ho2 hW
  · exact lw_ux_149 hx h1 h2 h3 ho1 ho2 hW
  · exact lw_ux_150 hx h1 h2 h3 ho1 ho2 hW
  · exact lw_ux_151 hx h1 h2 h3 ho1 ho2 hW
  · exact lw_ux_152 hx h1 h2 h3 ho1 ho2 hW
  · exact lw_ux_153 hx h1 h2 h3 ho1 ho2 hW
  · exact lw_ux_154 hx h1 h2 h3 ho1 ho2 hW
  · exact lw_ux_155 hx h1 h2 h3 ho1 ho2 hW
  · exact lw_ux_156 hx h1 h2 h3 ho1 ho2 hW
  · exact lw_ux_157 hx h1 h2 h3 ho1 ho2 hW
  · exact lw_ux_158 hx h1 h2 h3 ho1 ho2 hW
  · exact lw_ux_159 hx h1 h2 h3 ho1 ho2 hW
  · exact lw_ux_160 hx h1 h2 h3 ho1 ho2 hW
  · exact lw_ux_161 hx h1 h2 h3 ho1 ho2 hW
  · exact lw_ux_162 hx h1 h2 h3 ho1 ho2 hW
  · exact lw_ux_163 hx h1 h2 h3 ho1 ho2 hW
  · exact lw_ux_164 hx h1 h2 h3 ho1 ho2 hW
  · exact lw_ux_165 hx h1 h2 h3 ho1 ho2 hW
  · exact lw_ux_166 hx h1 h2 h3 ho1 ho2 hW
  · exact lw_ux_167 hx h1 h2 h3 ho1 ho2 hW
  · exact lw_ux_168 hx h1 h2 h3 ho1 ho2 hW
  · exact lw_ux_169 hx h1 h2 h3 ho1 ho2 hW
  · exact lw_ux_170 hx h1 h2 h3 ho1 ho2 hW
  · exact lw_ux_171 hx h1 h2 h3 ho1 ho2 hW
  · exact lw_ux_172 hx h1 h2 h3 ho1 ho2 hW
  · exact lw_ux_173 hx h1 h2 h3 ho1 ho2 hW
  · exact lw_ux_174 hx h1 h2 h3 ho1 ho2 hW
  · exact lw_ux_175 hx h1 h2 h3 ho1 ho2 hW
  · exact lw_ux_176 hx h1 h2 h3 ho1 ho2 hW
  · exact lw_ux_177 hx h1 h2 h3 ho1 ho2 hW
  · exact lw_ux_178 hx h1 h2 h3 ho1 ho2 hW
  · exact lw_ux_179 hx h1 h2 h3 ho1 ho2 hW
  · exact lw_ux_180 hx h1 h2 h3 ho1 ho2 hW
  · exact lw_ux_181 hx h1 h2 h3 ho1 ho2 hW
  · exact lw_ux_182 hx h1 h2 h3 ho1 ho2 hW
  · exact lw_ux_183 hx h1 h2 h3 ho1 ho2 hW
  · exact lw_ux_184 hx h1 h2 h3 ho1 ho2 hW
  · exact lw_ux_185 hx h1 h2 h3 ho1 ho2 hW
  · exact lw_ux_186 hx h1 h2 h3 ho1 ho2 hW
  · exact lw_ux_187 hx h1 h2 h3 ho1 ho2 hW
  · exact lw_ux_188 hx h1 h2 h3 ho1 ho2 hW
  · exact lw_ux_189 hx h1 h2 h3 ho1 ho2 hW
  · exact lw_ux_190 hx h1 h2 h3 ho1 ho2 hW
  · exact lw_ux_191 hx h1 h2 h3 ho1 ho2 hW
  · exact lw_ux_192 hx h1 h2 h3 ho1 ho2 hW
  · exact lw_ux_193 hx h1 h2 h3 ho1 ho2 hW
  · exact lw_ux_194 hx h1 h2 h3 ho1 ho2 hW
  · exact lw_ux_195 hx h1 h2 h3 ho1 ho2 hW
  · exact lw_ux_196 hx h1 h2 h3 ho1 ho2 hW
  · exact lw_ux_197 hx h1 h2 h3 ho1 ho2 hW
  · exact lw_ux_198 hx h1 h2 h3 ho1 ho2 hW
  · exact lw_ux_199 hx h1 h2 h3 ho1 ho2 hW
  · exact lw_ux_200 hx h1 h2 h3 ho1 ho2 hW
  · exact lw_ux_201 hx h1 h2 h3 ho1 ho2 hW
  · exact lw_ux_202 hx h1 h2 h3 ho1 ho2 hW
def lw_um_C (a1 a2 a3 z : Int) (σ σ' : Nat → Int) : Prop := ((z = 1 ∧ 0 ≤ σ 12805 ∧ σ 12805 ≤ 11 ∧ 0 ≤ a1 ∧ a1 < σ 12804 ∧ 0 ≤ a2 ∧ a2 < σ 12804 ∧ a1 ≠ a2 ∧ σ' 12805 = σ 12805 + 1 ∧ (∀ m, m < 12 → σ' (18552 + m) = if m = (σ 12805).toNat then a1 else σ (18552 + m)) ∧ (∀ m, m < 12 → σ' (18564 + m) = if m = (σ 12805).toNat then a2 else σ (18564 + m)) ∧ (∀ m, m < 12 → σ' (18576 + m) = if m = (σ 12805).toNat then a3 else σ (18576 + m))) ∨ (z = 0 ∧ σ' 12805 = σ 12805 ∧ (∀ p, p < 12 → σ' (18552 + p) = σ (18552 + p)) ∧ (∀ p, p < 12 → σ' (18564 + p) = σ (18564 + p)) ∧ (∀ p, p < 12 → σ' (18576 + p) = σ (18576 + p))))
set_option maxHeartbeats 1000000 in
theorem lw_um_0 {as : List rv_A} {σ σ' : Nat → Int} {o : rv_O} {x : Int32} {a1 a2 a3 : Int} {τ : Nat → Int} (hx : o.1 = some (.inl x)) (h1 : lw_av as 1 = a1) (h2 : lw_av as 2 = a2) (h3 : lw_av as 3 = a3) (hb : ∀ s, (sx_sr s).1 ≤ σ s ∧ σ s ≤ (sx_sr s).2) (hW : lw_W ([], [((-1), [(12804, 1)]), ((-12), [(12805, 1)]), (0, [(19001, 1)]), (6, [(19001, (-1))]), ((-1), [(19002, 1)]), (7, [(19002, (-1))]), ((-1), [(19001, (-1)), (19002, 1)]), ((-1), [(12804, 1), (19002, (-1))]), ((-1), [(12804, 1), (19001, (-1))])], [(12800, (4, []))], some (false, (0, []))) as σ σ' τ o) : lw_um_C a1 a2 a3 x.toInt σ σ' := by
  unfold lw_um_C
  obtain ⟨hs, ht, hf, hr, hm, hw⟩ := hW
  have e1 : τ 19001 = a1 := by rw [ht 19001 (by decide) (by decide)]; exact h1
  have e2 : τ 19002 = a2 := by rw [ht 19002 (by decide) (by decide)]; exact h2
  have e3 : τ 19003 = a3 := by rw [ht 19003 (by decide) (by decide)]; exact h3
  rw [hx] at hr
  obtain ⟨y, hy, hv⟩ := hr
  cases hy
  replace hv : x.toInt = 0 + 0 := hv
  have hb0 := hb 12805
  rw [show sx_sr 12805 = (0, 12) from by decide +kernel] at hb0
  have s12805 : τ 12805 = σ 12805 := hs 12805 (by decide)
  have s12804 : τ 12804 = σ 12804 := hs 12804 (by decide)
  exact Or.inr ⟨by omega, lw_id s12805 (hm 12805 (by decide)), (fun p hp => (by rcases (show p = 0 ∨ p = 1 ∨ p = 2 ∨ p = 3 ∨ p = 4 ∨ p = 5 ∨ p = 6 ∨ p = 7 ∨ p = 8 ∨ p = 9 ∨ p = 10 ∨ p = 11 by omega) with rfl | rfl | rfl | rfl | rfl | rfl | rfl | rfl | rfl | rfl | rfl | rfl <;> exact lw_id (hs _ (by decide)) (hm _ (by decide)))), (fun p hp => (by rcases (show p = 0 ∨ p = 1 ∨ p = 2 ∨ p = 3 ∨ p = 4 ∨ p = 5 ∨ p = 6 ∨ p = 7 ∨ p = 8 ∨ p = 9 ∨ p = 10 ∨ p = 11 by omega) with rfl | rfl | rfl | rfl | rfl | rfl | rfl | rfl | rfl | rfl | rfl | rfl <;> exact lw_id (hs _ (by decide)) (hm _ (by decide)))), (fun p hp => (by rcases (show p = 0 ∨ p = 1 ∨ p = 2 ∨ p = 3 ∨ p = 4 ∨ p = 5 ∨ p = 6 ∨ p = 7 ∨ p = 8 ∨ p = 9 ∨ p = 10 ∨ p = 11 by omega) with rfl | rfl | rfl | rfl | rfl | rfl | rfl | rfl | rfl | rfl | rfl | rfl <;> exact lw_id (hs _ (by decide)) (hm _ (by decide))))⟩
set_option maxHeartbeats 1000000 in
theorem lw_um_1 {as : List rv_A} {σ σ' : Nat → Int} {o : rv_O} {x : Int32} {a1 a2 a3 : Int} {τ : Nat → Int} (hx : o.1 = some (.inl x)) (h1 : lw_av as 1 = a1) (h2 : lw_av as 2 = a2) (h3 : lw_av as 3 = a3) (hb : ∀ s, (sx_sr s).1 ≤ σ s ∧ σ s ≤ (sx_sr s).2) (hW : lw_W ([], [((-1), [(12804, 1)]), ((-12), [(12805, 1)]), ((-1), [(19001, 1)]), (7, [(19001, (-1))]), (0, [(19002, 1)]), (6, [(19002, (-1))]), ((-1), [(19001, 1), (19002, (-1))]), ((-1), [(12804, 1), (19002, (-1))]), ((-1), [(12804, 1), (19001, (-1))])], [(12800, (4, []))], some (false, (0, []))) as σ σ' τ o) : lw_um_C a1 a2 a3 x.toInt σ σ' := by
  unfold lw_um_C
  obtain ⟨hs, ht, hf, hr, hm, hw⟩ := hW
  have e1 : τ 19001 = a1 := by rw [ht 19001 (by decide) (by decide)]; exact h1
  have e2 : τ 19002 = a2 := by rw [ht 19002 (by decide) (by decide)]; exact h2
  have e3 : τ 19003 = a3 := by rw [ht 19003 (by decide) (by decide)]; exact h3
  rw [hx] at hr
  obtain ⟨y, hy, hv⟩ := hr
  cases hy
  replace hv : x.toInt = 0 + 0 := hv
  have hb0 := hb 12805
  rw [show sx_sr 12805 = (0, 12) from by decide +kernel] at hb0
  have s12805 : τ 12805 = σ 12805 := hs 12805 (by decide)
  have s12804 : τ 12804 = σ 12804 := hs 12804 (by decide)
  exact Or.inr ⟨by omega, lw_id s12805 (hm 12805 (by decide)), (fun p hp => (by rcases (show p = 0 ∨ p = 1 ∨ p = 2 ∨ p = 3 ∨ p = 4 ∨ p = 5 ∨ p = 6 ∨ p = 7 ∨ p = 8 ∨ p = 9 ∨ p = 10 ∨ p = 11 by omega) with rfl | rfl | rfl | rfl | rfl | rfl | rfl | rfl | rfl | rfl | rfl | rfl <;> exact lw_id (hs _ (by decide)) (hm _ (by decide)))), (fun p hp => (by rcases (show p = 0 ∨ p = 1 ∨ p = 2 ∨ p = 3 ∨ p = 4 ∨ p = 5 ∨ p = 6 ∨ p = 7 ∨ p = 8 ∨ p = 9 ∨ p = 10 ∨ p = 11 by omega) with rfl | rfl | rfl | rfl | rfl | rfl | rfl | rfl | rfl | rfl | rfl | rfl <;> exact lw_id (hs _ (by decide)) (hm _ (by decide)))), (fun p hp => (by rcases (show p = 0 ∨ p = 1 ∨ p = 2 ∨ p = 3 ∨ p = 4 ∨ p = 5 ∨ p = 6 ∨ p = 7 ∨ p = 8 ∨ p = 9 ∨ p = 10 ∨ p = 11 by omega) with rfl | rfl | rfl | rfl | rfl | rfl | rfl | rfl | rfl | rfl | rfl | rfl <;> exact lw_id (hs _ (by decide)) (hm _ (by decide))))⟩
set_option maxHeartbeats 1000000 in
theorem lw_um_2 {as : List rv_A} {σ σ' : Nat → Int} {o : rv_O} {x : Int32} {a1 a2 a3 : Int} {τ : Nat → Int} (hx : o.1 = some (.inl x)) (h1 : lw_av as 1 = a1) (h2 : lw_av as 2 = a2) (h3 : lw_av as 3 = a3) (hb : ∀ s, (sx_sr s).1 ≤ σ s ∧ σ s ≤ (sx_sr s).2) (hW : lw_W ([], [((-1), [(12804, 1)]), (0, [(19001, 1)]), (7, [(19001, (-1))]), ((-1), [(19002, (-1))]), ((-1), [(12804, 1), (19001, (-1))])], [(12800, (1, []))], some (false, (0, []))) as σ σ' τ o) : lw_um_C a1 a2 a3 x.toInt σ σ' := by
  unfold lw_um_C
  obtain ⟨hs, ht, hf, hr, hm, hw⟩ := hW
  have e1 : τ 19001 = a1 := by rw [ht 19001 (by decide) (by decide)]; exact h1
  have e2 : τ 19002 = a2 := by rw [ht 19002 (by decide) (by decide)]; exact h2
  have e3 : τ 19003 = a3 := by rw [ht 19003 (by decide) (by decide)]; exact h3
  rw [hx] at hr
  obtain ⟨y, hy, hv⟩ := hr
  cases hy
  replace hv : x.toInt = 0 + 0 := hv
  have hb0 := hb 12805
  rw [show sx_sr 12805 = (0, 12) from by decide +kernel] at hb0
  have s12805 : τ 12805 = σ 12805 := hs 12805 (by decide)
  have s12804 : τ 12804 = σ 12804 := hs 12804 (by decide)
  exact Or.inr ⟨by omega, lw_id s12805 (hm 12805 (by decide)), (fun p hp => (by rcases (show p = 0 ∨ p = 1 ∨ p = 2 ∨ p = 3 ∨ p = 4 ∨ p = 5 ∨ p = 6 ∨ p = 7 ∨ p = 8 ∨ p = 9 ∨ p = 10 ∨ p = 11 by omega) with rfl | rfl | rfl | rfl | rfl | rfl | rfl | rfl | rfl | rfl | rfl | rfl <;> exact lw_id (hs _ (by decide)) (hm _ (by decide)))), (fun p hp => (by rcases (show p = 0 ∨ p = 1 ∨ p = 2 ∨ p = 3 ∨ p = 4 ∨ p = 5 ∨ p = 6 ∨ p = 7 ∨ p = 8 ∨ p = 9 ∨ p = 10 ∨ p = 11 by omega) with rfl | rfl | rfl | rfl | rfl | rfl | rfl | rfl | rfl | rfl | rfl | rfl <;> exact lw_id (hs _ (by decide)) (hm _ (by decide)))), (fun p hp => (by rcases (show p = 0 ∨ p = 1 ∨ p = 2 ∨ p = 3 ∨ p = 4 ∨ p = 5 ∨ p = 6 ∨ p = 7 ∨ p = 8 ∨ p = 9 ∨ p = 10 ∨ p = 11 by omega) with rfl | rfl | rfl | rfl | rfl | rfl | rfl | rfl | rfl | rfl | rfl | rfl <;> exact lw_id (hs _ (by decide)) (hm _ (by decide))))⟩
set_option maxHeartbeats 1000000 in
theorem lw_um_3 {as : List rv_A} {σ σ' : Nat → Int} {o : rv_O} {x : Int32} {a1 a2 a3 : Int} {τ : Nat → Int} (hx : o.1 = some (.inl x)) (h1 : lw_av as 1 = a1) (h2 : lw_av as 2 = a2) (h3 : lw_av as 3 = a3) (hb : ∀ s, (sx_sr s).1 ≤ σ s ∧ σ s ≤ (sx_sr s).2) (hW : lw_W ([], [((-1), [(12804, 1)]), (0, [(19001, 1)]), (7, [(19001, (-1))]), (0, [(19002, 1)]), (7, [(19002, (-1))]), (0, [(19001, (-1)), (19002, 1)]), (0, [(19001, 1), (19002, (-1))]), ((-1), [(12804, 1), (19002, (-1))]), ((-1), [(12804, 1), (19001, (-1))])], [(12800, (1, []))], some (false, (0, []))) as σ σ' τ o) : lw_um_C a1 a2 a3 x.toInt σ σ' := by
  unfold lw_um_C
  obtain ⟨hs, ht, hf, hr, hm, hw⟩ := hW
  have e1 : τ 19001 = a1 := by rw [ht 19001 (by decide) (by decide)]; exact h1
  have e2 : τ 19002 = a2 := by rw [ht 19002 (by decide) (by decide)]; exact h2
  have e3 : τ 19003 = a3 := by rw [ht 19003 (by decide) (by decide)]; exact h3
  rw [hx] at hr
  obtain ⟨y, hy, hv⟩ := hr
  cases hy
  replace hv : x.toInt = 0 + 0 := hv
  have hb0 := hb 12805
  rw [show sx_sr 12805 = (0, 12) from by decide +kernel] at hb0
  have s12805 : τ 12805 = σ 12805 := hs 12805 (by decide)
  have s12804 : τ 12804 = σ 12804 := hs 12804 (by decide)
  exact Or.inr ⟨by omega, lw_id s12805 (hm 12805 (by decide)), (fun p hp => (by rcases (show p = 0 ∨ p = 1 ∨ p = 2 ∨ p = 3 ∨ p = 4 ∨ p = 5 ∨ p = 6 ∨ p = 7 ∨ p = 8 ∨ p = 9 ∨ p = 10 ∨ p = 11 by omega) with rfl | rfl | rfl | rfl | rfl | rfl | rfl | rfl | rfl | rfl | rfl | rfl <;> exact lw_id (hs _ (by decide)) (hm _ (by decide)))), (fun p hp => (by rcases (show p = 0 ∨ p = 1 ∨ p = 2 ∨ p = 3 ∨ p = 4 ∨ p = 5 ∨ p = 6 ∨ p = 7 ∨ p = 8 ∨ p = 9 ∨ p = 10 ∨ p = 11 by omega) with rfl | rfl | rfl | rfl | rfl | rfl | rfl | rfl | rfl | rfl | rfl | rfl <;> exact lw_id (hs _ (by decide)) (hm _ (by decide)))), (fun p hp => (by rcases (show p = 0 ∨ p = 1 ∨ p = 2 ∨ p = 3 ∨ p = 4 ∨ p = 5 ∨ p = 6 ∨ p = 7 ∨ p = 8 ∨ p = 9 ∨ p = 10 ∨ p = 11 by omega) with rfl | rfl | rfl | rfl | rfl | rfl | rfl | rfl | rfl | rfl | rfl | rfl <;> exact lw_id (hs _ (by decide)) (hm _ (by decide))))⟩
set_option maxHeartbeats 1000000 in
theorem lw_um_4 {as : List rv_A} {σ σ' : Nat → Int} {o : rv_O} {x : Int32} {a1 a2 a3 : Int} {τ : Nat → Int} (hx : o.1 = some (.inl x)) (h1 : lw_av as 1 = a1) (h2 : lw_av as 2 = a2) (h3 : lw_av as 3 = a3) (hb : ∀ s, (sx_sr s).1 ≤ σ s ∧ σ s ≤ (sx_sr s).2) (hW : lw_W ([], [((-1), [(12804, 1)]), (0, [(19001, 1)]), (7, [(19001, (-1))]), ((-1), [(19002, 1)]), (0, [(12804, (-1)), (19002, 1)]), ((-1), [(12804, 1), (19001, (-1))])], [(12800, (1, []))], some (false, (0, []))) as σ σ' τ o) : lw_um_C a1 a2 a3 x.toInt σ σ' := by
  unfold lw_um_C
  obtain ⟨hs, ht, hf, hr, hm, hw⟩ := hW
  have e1 : τ 19001 = a1 := by rw [ht 19001 (by decide) (by decide)]; exact h1
  have e2 : τ 19002 = a2 := by rw [ht 19002 (by decide) (by decide)]; exact h2
  have e3 : τ 19003 = a3 := by rw [ht 19003 (by decide) (by decide)]; exact h3
  rw [hx] at hr
  obtain ⟨y, hy, hv⟩ := hr
  cases hy
  replace hv : x.toInt = 0 + 0 := hv
  have hb0 := hb 12805
  rw [show sx_sr 12805 = (0, 12) from by decide +kernel] at hb0
  have s12805 : τ 12805 = σ 12805 := hs 12805 (by decide)
  have s12804 : τ 12804 = σ 12804 := hs 12804 (by decide)
  exact Or.inr ⟨by omega, lw_id s12805 (hm 12805 (by decide)), (fun p hp => (by rcases (show p = 0 ∨ p = 1 ∨ p = 2 ∨ p = 3 ∨ p = 4 ∨ p = 5 ∨ p = 6 ∨ p = 7 ∨ p = 8 ∨ p = 9 ∨ p = 10 ∨ p = 11 by omega) with rfl | rfl | rfl | rfl | rfl | rfl | rfl | rfl | rfl | rfl | rfl | rfl <;> exact lw_id (hs _ (by decide)) (hm _ (by decide)))), (fun p hp => (by rcases (show p = 0 ∨ p = 1 ∨ p = 2 ∨ p = 3 ∨ p = 4 ∨ p = 5 ∨ p = 6 ∨ p = 7 ∨ p = 8 ∨ p = 9 ∨ p = 10 ∨ p = 11 by omega) with rfl | rfl | rfl | rfl | rfl | rfl | rfl | rfl | rfl | rfl | rfl | rfl <;> exact lw_id (hs _ (by decide)) (hm _ (by decide)))), (fun p hp => (by rcases (show p = 0 ∨ p = 1 ∨ p = 2 ∨ p = 3 ∨ p = 4 ∨ p = 5 ∨ p = 6 ∨ p = 7 ∨ p = 8 ∨ p = 9 ∨ p = 10 ∨ p = 11 by omega) with rfl | rfl | rfl | rfl | rfl | rfl | rfl | rfl | rfl | rfl | rfl | rfl <;> exact lw_id (hs _ (by decide)) (hm _ (by decide))))⟩
set_option maxHeartbeats 1000000 in
theorem lw_um_5 {as : List rv_A} {σ σ' : Nat → Int} {o : rv_O} {x : Int32} {a1 a2 a3 : Int} {τ : Nat → Int} (hx : o.1 = some (.inl x)) (h1 : lw_av as 1 = a1) (h2 : lw_av as 2 = a2) (h3 : lw_av as 3 = a3) (hb : ∀ s, (sx_sr s).1 ≤ σ s ∧ σ s ≤ (sx_sr s).2) (hW : lw_W ([], [((-1), [(19001, (-1))])], [(12800, (1, []))], some (false, (0, []))) as σ σ' τ o) : lw_um_C a1 a2 a3 x.toInt σ σ' := by
  unfold lw_um_C
  obtain ⟨hs, ht, hf, hr, hm, hw⟩ := hW
  have e1 : τ 19001 = a1 := by rw [ht 19001 (by decide) (by decide)]; exact h1
  have e2 : τ 19002 = a2 := by rw [ht 19002 (by decide) (by decide)]; exact h2
  have e3 : τ 19003 = a3 := by rw [ht 19003 (by decide) (by decide)]; exact h3
  rw [hx] at hr
  obtain ⟨y, hy, hv⟩ := hr
  cases hy
  replace hv : x.toInt = 0 + 0 := hv
  have hb0 := hb 12805
  rw [show sx_sr 12805 = (0, 12) from by decide +kernel] at hb0
  have s12805 : τ 12805 = σ 12805 := hs 12805 (by decide)
  have s12804 : τ 12804 = σ 12804 := hs 12804 (by decide)
  exact Or.inr ⟨by omega, lw_id s12805 (hm 12805 (by decide)), (fun p hp => (by rcases (show p = 0 ∨ p = 1 ∨ p = 2 ∨ p = 3 ∨ p = 4 ∨ p = 5 ∨ p = 6 ∨ p = 7 ∨ p = 8 ∨ p = 9 ∨ p = 10 ∨ p = 11 by omega) with rfl | rfl | rfl | rfl | rfl | rfl | rfl | rfl | rfl | rfl | rfl | rfl <;> exact lw_id (hs _ (by decide)) (hm _ (by decide)))), (fun p hp => (by rcases (show p = 0 ∨ p = 1 ∨ p = 2 ∨ p = 3 ∨ p = 4 ∨ p = 5 ∨ p = 6 ∨ p = 7 ∨ p = 8 ∨ p = 9 ∨ p = 10 ∨ p = 11 by omega) with rfl | rfl | rfl | rfl | rfl | rfl | rfl | rfl | rfl | rfl | rfl | rfl <;> exact lw_id (hs _ (by decide)) (hm _ (by decide)))), (fun p hp => (by rcases (show p = 0 ∨ p = 1 ∨ p = 2 ∨ p = 3 ∨ p = 4 ∨ p = 5 ∨ p = 6 ∨ p = 7 ∨ p = 8 ∨ p = 9 ∨ p = 10 ∨ p = 11 by omega) with rfl | rfl | rfl | rfl | rfl | rfl | rfl | rfl | rfl | rfl | rfl | rfl <;> exact lw_id (hs _ (by decide)) (hm _ (by decide))))⟩
set_option maxHeartbeats 1000000 in
theorem lw_um_6 {as : List rv_A} {σ σ' : Nat → Int} {o : rv_O} {x : Int32} {a1 a2 a3 : Int} {τ : Nat → Int} (hx : o.1 = some (.inl x)) (h1 : lw_av as 1 = a1) (h2 : lw_av as 2 = a2) (h3 : lw_av as 3 = a3) (hb : ∀ s, (sx_sr s).1 ≤ σ s ∧ σ s ≤ (sx_sr s).2) (hW : lw_W ([], [(0, [(19001, 1)]), (0, [(12804, (-1)), (19001, 1)])], [(12800, (1, []))], some (false, (0, []))) as σ σ' τ o) : lw_um_C a1 a2 a3 x.toInt σ σ' := by
  unfold lw_um_C
  obtain ⟨hs, ht, hf, hr, hm, hw⟩ := hW
  have e1 : τ 19001 = a1 := by rw [ht 19001 (by decide) (by decide)]; exact h1
  have e2 : τ 19002 = a2 := by rw [ht 19002 (by decide) (by decide)]; exact h2
  have e3 : τ 19003 = a3 := by rw [ht 19003 (by decide) (by decide)]; exact h3
  rw [hx] at hr
  obtain ⟨y, hy, hv⟩ := hr
  cases hy
  replace hv : x.toInt = 0 + 0 := hv
  have hb0 := hb 12805
  rw [show sx_sr 12805 = (0, 12) from by decide +kernel] at hb0
  have s12805 : τ 12805 = σ 12805 := hs 12805 (by decide)
  have s12804 : τ 12804 = σ 12804 := hs 12804 (by decide)
  exact Or.inr ⟨by omega, lw_id s12805 (hm 12805 (by decide)), (fun p hp => (by rcases (show p = 0 ∨ p = 1 ∨ p = 2 ∨ p = 3 ∨ p = 4 ∨ p = 5 ∨ p = 6 ∨ p = 7 ∨ p = 8 ∨ p = 9 ∨ p = 10 ∨ p = 11 by omega) with rfl | rfl | rfl | rfl | rfl | rfl | rfl | rfl | rfl | rfl | rfl | rfl <;> exact lw_id (hs _ (by decide)) (hm _ (by decide)))), (fun p hp => (by rcases (show p = 0 ∨ p = 1 ∨ p = 2 ∨ p = 3 ∨ p = 4 ∨ p = 5 ∨ p = 6 ∨ p = 7 ∨ p = 8 ∨ p = 9 ∨ p = 10 ∨ p = 11 by omega) with rfl | rfl | rfl | rfl | rfl | rfl | rfl | rfl | rfl | rfl | rfl | rfl <;> exact lw_id (hs _ (by decide)) (hm _ (by decide)))), (fun p hp => (by rcases (show p = 0 ∨ p = 1 ∨ p = 2 ∨ p = 3 ∨ p = 4 ∨ p = 5 ∨ p = 6 ∨ p = 7 ∨ p = 8 ∨ p = 9 ∨ p = 10 ∨ p = 11 by omega) with rfl | rfl | rfl | rfl | rfl | rfl | rfl | rfl | rfl | rfl | rfl | rfl <;> exact lw_id (hs _ (by decide)) (hm _ (by decide))))⟩
set_option maxHeartbeats 1000000 in
theorem lw_um_7 {as : List rv_A} {σ σ' : Nat → Int} {o : rv_O} {x : Int32} {a1 a2 a3 : Int} {τ : Nat → Int} (hx : o.1 = some (.inl x)) (h1 : lw_av as 1 = a1) (h2 : lw_av as 2 = a2) (h3 : lw_av as 3 = a3) (hb : ∀ s, (sx_sr s).1 ≤ σ s ∧ σ s ≤ (sx_sr s).2) (hW : lw_W ([], [((-1), [(12804, 1)]), (0, [(12805, (-1))]), (0, [(19001, 1)]), (6, [(19001, (-1))]), ((-1), [(19002, 1)]), (7, [(19002, (-1))]), ((-1), [(19001, (-1)), (19002, 1)]), ((-1), [(12804, 1), (19002, (-1))]), ((-1), [(12804, 1), (19001, (-1))])], [(12800, (0, [])), (12805, (1, [(12805, 1)])), (18552, (0, [(19001, 1)])), (18564, (0, [(19002, 1)])), (18576, (0, [(19003, 1)]))], some (false, (1, []))) as σ σ' τ o) : lw_um_C a1 a2 a3 x.toInt σ σ' := by
  unfold lw_um_C
  obtain ⟨hs, ht, hf, hr, hm, hw⟩ := hW
  have e1 : τ 19001 = a1 := by rw [ht 19001 (by decide) (by decide)]; exact h1
  have e2 : τ 19002 = a2 := by rw [ht 19002 (by decide) (by decide)]; exact h2
  have e3 : τ 19003 = a3 := by rw [ht 19003 (by decide) (by decide)]; exact h3
  rw [hx] at hr
  obtain ⟨y, hy, hv⟩ := hr
  cases hy
  replace hv : x.toInt = 1 + 0 := hv
  have hb0 := hb 12805
  rw [show sx_sr 12805 = (0, 12) from by decide +kernel] at hb0
  have s12805 : τ 12805 = σ 12805 := hs 12805 (by decide)
  have s12804 : τ 12804 = σ 12804 := hs 12804 (by decide)
  have f0 : 0 ≤ (-1) + (1 * τ 12804 + 0) := hf _ (List.Mem.head _)
  have f1 : 0 ≤ 0 + ((-1) * τ 12805 + 0) := hf _ (List.Mem.tail _ (List.Mem.head _))
  have f2 : 0 ≤ 0 + (1 * τ 19001 + 0) := hf _ (List.Mem.tail _ (List.Mem.tail _ (List.Mem.head _)))
  have f3 : 0 ≤ 6 + ((-1) * τ 19001 + 0) := hf _ (List.Mem.tail _ (List.Mem.tail _ (List.Mem.tail _ (List.Mem.head _))))
  have f4 : 0 ≤ (-1) + (1 * τ 19002 + 0) := hf _ (List.Mem.tail _ (List.Mem.tail _ (List.Mem.tail _ (List.Mem.tail _ (List.Mem.head _)))))
  have f5 : 0 ≤ 7 + ((-1) * τ 19002 + 0) := hf _ (List.Mem.tail _ (List.Mem.tail _ (List.Mem.tail _ (List.Mem.tail _ (List.Mem.tail _ (List.Mem.head _))))))
  have f6 : 0 ≤ (-1) + ((-1) * τ 19001 + (1 * τ 19002 + 0)) := hf _ (List.Mem.tail _ (List.Mem.tail _ (List.Mem.tail _ (List.Mem.tail _ (List.Mem.tail _ (List.Mem.tail _ (List.Mem.head _)))))))
  have f7 : 0 ≤ (-1) + (1 * τ 12804 + ((-1) * τ 19002 + 0)) := hf _ (List.Mem.tail _ (List.Mem.tail _ (List.Mem.tail _ (List.Mem.tail _ (List.Mem.tail _ (List.Mem.tail _ (List.Mem.tail _ (List.Mem.head _))))))))
  have f8 : 0 ≤ (-1) + (1 * τ 12804 + ((-1) * τ 19001 + 0)) := hf _ (List.Mem.tail _ (List.Mem.tail _ (List.Mem.tail _ (List.Mem.tail _ (List.Mem.tail _ (List.Mem.tail _ (List.Mem.tail _ (List.Mem.tail _ (List.Mem.head _)))))))))
  have mM : σ' 12805 = 1 + (1 * τ 12805 + 0) := hm 12805 (by decide)
  have hk : (σ 12805).toNat = 0 := by omega
  rw [hk]
  exact Or.inl ⟨by omega, by omega, by omega, by omega, by omega, by omega, by omega, by omega, by omega, (fun m hm12 => (by
    rcases (show m = 0 ∨ m = 1 ∨ m = 2 ∨ m = 3 ∨ m = 4 ∨ m = 5 ∨ m = 6 ∨ m = 7 ∨ m = 8 ∨ m = 9 ∨ m = 10 ∨ m = 11 by omega) with rfl | rfl | rfl | rfl | rfl | rfl | rfl | rfl | rfl | rfl | rfl | rfl
    · rw [if_pos rfl]
      have mk : σ' 18552 = 0 + (1 * τ 19001 + 0) := hm 18552 (by decide)
      show σ' 18552 = _
      omega
    · rw [if_neg (by decide)]
      exact lw_id (hs _ (by decide)) (hm _ (by decide))
    · rw [if_neg (by decide)]
      exact lw_id (hs _ (by decide)) (hm _ (by decide))
    · rw [if_neg (by decide)]
      exact lw_id (hs _ (by decide)) (hm _ (by decide))
    · rw [if_neg (by decide)]
      exact lw_id (hs _ (by decide)) (hm _ (by decide))
    · rw [if_neg (by decide)]
      exact lw_id (hs _ (by decide)) (hm _ (by decide))
    · rw [if_neg (by decide)]
      exact lw_id (hs _ (by decide)) (hm _ (by decide))
    · rw [if_neg (by decide)]
      exact lw_id (hs _ (by decide)) (hm _ (by decide))
    · rw [if_neg (by decide)]
      exact lw_id (hs _ (by decide)) (hm _ (by decide))
    · rw [if_neg (by decide)]
      exact lw_id (hs _ (by decide)) (hm _ (by decide))
    · rw [if_neg (by decide)]
      exact lw_id (hs _ (by decide)) (hm _ (by decide))
    · rw [if_neg (by decide)]
      exact lw_id (hs _ (by decide)) (hm _ (by decide)))), (fun m hm12 => (by
    rcases (show m = 0 ∨ m = 1 ∨ m = 2 ∨ m = 3 ∨ m = 4 ∨ m = 5 ∨ m = 6 ∨ m = 7 ∨ m = 8 ∨ m = 9 ∨ m = 10 ∨ m = 11 by omega) with rfl | rfl | rfl | rfl | rfl | rfl | rfl | rfl | rfl | rfl | rfl | rfl
    · rw [if_pos rfl]
      have mk : σ' 18564 = 0 + (1 * τ 19002 + 0) := hm 18564 (by decide)
      show σ' 18564 = _
      omega
    · rw [if_neg (by decide)]
      exact lw_id (hs _ (by decide)) (hm _ (by decide))
    · rw [if_neg (by decide)]
      exact lw_id (hs _ (by decide)) (hm _ (by decide))
    · rw [if_neg (by decide)]
      exact lw_id (hs _ (by decide)) (hm _ (by decide))
    · rw [if_neg (by decide)]
      exact lw_id (hs _ (by decide)) (hm _ (by decide))
    · rw [if_neg (by decide)]
      exact lw_id (hs _ (by decide)) (hm _ (by decide))
    · rw [if_neg (by decide)]
      exact lw_id (hs _ (by decide)) (hm _ (by decide))
    · rw [if_neg (by decide)]
      exact lw_id (hs _ (by decide)) (hm _ (by decide))
    · rw [if_neg (by decide)]
      exact lw_id (hs _ (by decide)) (hm _ (by decide))
    · rw [if_neg (by decide)]
      exact lw_id (hs _ (by decide)) (hm _ (by decide))
    · rw [if_neg (by decide)]
      exact lw_id (hs _ (by decide)) (hm _ (by decide))
    · rw [if_neg (by decide)]
      exact lw_id (hs _ (by decide)) (hm _ (by decide)))), (fun m hm12 => (by
    rcases (show m = 0 ∨ m = 1 ∨ m = 2 ∨ m = 3 ∨ m = 4 ∨ m = 5 ∨ m = 6 ∨ m = 7 ∨ m = 8 ∨ m = 9 ∨ m = 10 ∨ m = 11 by omega) with rfl | rfl | rfl | rfl | rfl | rfl | rfl | rfl | rfl | rfl | rfl | rfl
    · rw [if_pos rfl]
      have mk : σ' 18576 = 0 + (1 * τ 19003 + 0) := hm 18576 (by decide)
      show σ' 18576 = _
      omega
    · rw [if_neg (by decide)]
      exact lw_id (hs _ (by decide)) (hm _ (by decide))
    · rw [if_neg (by decide)]
      exact lw_id (hs _ (by decide)) (hm _ (by decide))
    · rw [if_neg (by decide)]
      exact lw_id (hs _ (by decide)) (hm _ (by decide))
    · rw [if_neg (by decide)]
      exact lw_id (hs _ (by decide)) (hm _ (by decide))
    · rw [if_neg (by decide)]
      exact lw_id (hs _ (by decide)) (hm _ (by decide))
    · rw [if_neg (by decide)]
      exact lw_id (hs _ (by decide)) (hm _ (by decide))
    · rw [if_neg (by decide)]
      exact lw_id (hs _ (by decide)) (hm _ (by decide))
    · rw [if_neg (by decide)]
      exact lw_id (hs _ (by decide)) (hm _ (by decide))
    · rw [if_neg (by decide)]
      exact lw_id (hs _ (by decide)) (hm _ (by decide))
    · rw [if_neg (by decide)]
      exact lw_id (hs _ (by decide)) (hm _ (by decide))
    · rw [if_neg (by decide)]
      exact lw_id (hs _ (by decide)) (hm _ (by decide))))⟩
set_option maxHeartbeats 1000000 in
theorem lw_um_8 {as : List rv_A} {σ σ' : Nat → Int} {o : rv_O} {x : Int32} {a1 a2 a3 : Int} {τ : Nat → Int} (hx : o.1 = some (.inl x)) (h1 : lw_av as 1 = a1) (h2 : lw_av as 2 = a2) (h3 : lw_av as 3 = a3) (hb : ∀ s, (sx_sr s).1 ≤ σ s ∧ σ s ≤ (sx_sr s).2) (hW : lw_W ([], [((-1), [(12804, 1)]), (0, [(12805, (-1))]), ((-1), [(19001, 1)]), (7, [(19001, (-1))]), (0, [(19002, 1)]), (6, [(19002, (-1))]), ((-1), [(19001, 1), (19002, (-1))]), ((-1), [(12804, 1), (19002, (-1))]), ((-1), [(12804, 1), (19001, (-1))])], [(12800, (0, [])), (12805, (1, [(12805, 1)])), (18552, (0, [(19001, 1)])), (18564, (0, [(19002, 1)])), (18576, (0, [(19003, 1)]))], some (false, (1, []))) as σ σ' τ o) : lw_um_C a1 a2 a3 x.toInt σ σ' := by
  unfold lw_um_C
  obtain ⟨hs, ht, hf, hr, hm, hw⟩ := hW
  have e1 : τ 19001 = a1 := by rw [ht 19001 (by decide) (by decide)]; exact h1
  have e2 : τ 19002 = a2 := by rw [ht 19002 (by decide) (by decide)]; exact h2
  have e3 : τ 19003 = a3 := by rw [ht 19003 (by decide) (by decide)]; exact h3
  rw [hx] at hr
  obtain ⟨y, hy, hv⟩ := hr
  cases hy
  replace hv : x.toInt = 1 + 0 := hv
  have hb0 := hb 12805
  rw [show sx_sr 12805 = (0, 12) from by decide +kernel] at hb0
  have s12805 : τ 12805 = σ 12805 := hs 12805 (by decide)
  have s12804 : τ 12804 = σ 12804 := hs 12804 (by decide)
  have f0 : 0 ≤ (-1) + (1 * τ 12804 + 0) := hf _ (List.Mem.head _)
  have f1 : 0 ≤ 0 + ((-1) * τ 12805 + 0) := hf _ (List.Mem.tail _ (List.Mem.head _))
  have f2 : 0 ≤ (-1) + (1 * τ 19001 + 0) := hf _ (List.Mem.tail _ (List.Mem.tail _ (List.Mem.head _)))
  have f3 : 0 ≤ 7 + ((-1) * τ 19001 + 0) := hf _ (List.Mem.tail _ (List.Mem.tail _ (List.Mem.tail _ (List.Mem.head _))))
  have f4 : 0 ≤ 0 + (1 * τ 19002 + 0) := hf _ (List.Mem.tail _ (List.Mem.tail _ (List.Mem.tail _ (List.Mem.tail _ (List.Mem.head _)))))
  have f5 : 0 ≤ 6 + ((-1) * τ 19002 + 0) := hf _ (List.Mem.tail _ (List.Mem.tail _ (List.Mem.tail _ (List.Mem.tail _ (List.Mem.tail _ (List.Mem.head _))))))
  have f6 : 0 ≤ (-1) + (1 * τ 19001 + ((-1) * τ 19002 + 0)) := hf _ (List.Mem.tail _ (List.Mem.tail _ (List.Mem.tail _ (List.Mem.tail _ (List.Mem.tail _ (List.Mem.tail _ (List.Mem.head _)))))))
  have f7 : 0 ≤ (-1) + (1 * τ 12804 + ((-1) * τ 19002 + 0)) := hf _ (List.Mem.tail _ (List.Mem.tail _ (List.Mem.tail _ (List.Mem.tail _ (List.Mem.tail _ (List.Mem.tail _ (List.Mem.tail _ (List.Mem.head _))))))))
  have f8 : 0 ≤ (-1) + (1 * τ 12804 + ((-1) * τ 19001 + 0)) := hf _ (List.Mem.tail _ (List.Mem.tail _ (List.Mem.tail _ (List.Mem.tail _ (List.Mem.tail _ (List.Mem.tail _ (List.Mem.tail _ (List.Mem.tail _ (List.Mem.head _)))))))))
  have mM : σ' 12805 = 1 + (1 * τ 12805 + 0) := hm 12805 (by decide)
  have hk : (σ 12805).toNat = 0 := by omega
  rw [hk]
  exact Or.inl ⟨by omega, by omega, by omega, by omega, by omega, by omega, by omega, by omega, by omega, (fun m hm12 => (by
    rcases (show m = 0 ∨ m = 1 ∨ m = 2 ∨ m = 3 ∨ m = 4 ∨ m = 5 ∨ m = 6 ∨ m = 7 ∨ m = 8 ∨ m = 9 ∨ m = 10 ∨ m = 11 by omega) with rfl | rfl | rfl | rfl | rfl | rfl | rfl | rfl | rfl | rfl | rfl | rfl
    · rw [if_pos rfl]
      have mk : σ' 18552 = 0 + (1 * τ 19001 + 0) := hm 18552 (by decide)
      show σ' 18552 = _
      omega
    · rw [if_neg (by decide)]
      exact lw_id (hs _ (by decide)) (hm _ (by decide))
    · rw [if_neg (by decide)]
      exact lw_id (hs _ (by decide)) (hm _ (by decide))
    · rw [if_neg (by decide)]
      exact lw_id (hs _ (by decide)) (hm _ (by decide))
    · rw [if_neg (by decide)]
      exact lw_id (hs _ (by decide)) (hm _ (by decide))
    · rw [if_neg (by decide)]
      exact lw_id (hs _ (by decide)) (hm _ (by decide))
    · rw [if_neg (by decide)]
      exact lw_id (hs _ (by decide)) (hm _ (by decide))
    · rw [if_neg (by decide)]
      exact lw_id (hs _ (by decide)) (hm _ (by decide))
    · rw [if_neg (by decide)]
      exact lw_id (hs _ (by decide)) (hm _ (by decide))
    · rw [if_neg (by decide)]
      exact lw_id (hs _ (by decide)) (hm _ (by decide))
    · rw [if_neg (by decide)]
      exact lw_id (hs _ (by decide)) (hm _ (by decide))
    · rw [if_neg (by decide)]
      exact lw_id (hs _ (by decide)) (hm _ (by decide)))), (fun m hm12 => (by
    rcases (show m = 0 ∨ m = 1 ∨ m = 2 ∨ m = 3 ∨ m = 4 ∨ m = 5 ∨ m = 6 ∨ m = 7 ∨ m = 8 ∨ m = 9 ∨ m = 10 ∨ m = 11 by omega) with rfl | rfl | rfl | rfl | rfl | rfl | rfl | rfl | rfl | rfl | rfl | rfl
    · rw [if_pos rfl]
      have mk : σ' 18564 = 0 + (1 * τ 19002 + 0) := hm 18564 (by decide)
      show σ' 18564 = _
      omega
    · rw [if_neg (by decide)]
      exact lw_id (hs _ (by decide)) (hm _ (by decide))
    · rw [if_neg (by decide)]
      exact lw_id (hs _ (by decide)) (hm _ (by decide))
    · rw [if_neg (by decide)]
      exact lw_id (hs _ (by decide)) (hm _ (by decide))
    · rw [if_neg (by decide)]
      exact lw_id (hs _ (by decide)) (hm _ (by decide))
    · rw [if_neg (by decide)]
      exact lw_id (hs _ (by decide)) (hm _ (by decide))
    · rw [if_neg (by decide)]
      exact lw_id (hs _ (by decide)) (hm _ (by decide))
    · rw [if_neg (by decide)]
      exact lw_id (hs _ (by decide)) (hm _ (by decide))
    · rw [if_neg (by decide)]
      exact lw_id (hs _ (by decide)) (hm _ (by decide))
    · rw [if_neg (by decide)]
      exact lw_id (hs _ (by decide)) (hm _ (by decide))
    · rw [if_neg (by decide)]
      exact lw_id (hs _ (by decide)) (hm _ (by decide))
    · rw [if_neg (by decide)]
      exact lw_id (hs _ (by decide)) (hm _ (by decide)))), (fun m hm12 => (by
    rcases (show m = 0 ∨ m = 1 ∨ m = 2 ∨ m = 3 ∨ m = 4 ∨ m = 5 ∨ m = 6 ∨ m = 7 ∨ m = 8 ∨ m = 9 ∨ m = 10 ∨ m = 11 by omega) with rfl | rfl | rfl | rfl | rfl | rfl | rfl | rfl | rfl | rfl | rfl | rfl
    · rw [if_pos rfl]
      have mk : σ' 18576 = 0 + (1 * τ 19003 + 0) := hm 18576 (by decide)
      show σ' 18576 = _
      omega
    · rw [if_neg (by decide)]
      exact lw_id (hs _ (by decide)) (hm _ (by decide))
    · rw [if_neg (by decide)]
      exact lw_id (hs _ (by decide)) (hm _ (by decide))
    · rw [if_neg (by decide)]
      exact lw_id (hs _ (by decide)) (hm _ (by decide))
    · rw [if_neg (by decide)]
      exact lw_id (hs _ (by decide)) (hm _ (by decide))
    · rw [if_neg (by decide)]
      exact lw_id (hs _ (by decide)) (hm _ (by decide))
    · rw [if_neg (by decide)]
      exact lw_id (hs _ (by decide)) (hm _ (by decide))
    · rw [if_neg (by decide)]
      exact lw_id (hs _ (by decide)) (hm _ (by decide))
    · rw [if_neg (by decide)]
      exact lw_id (hs _ (by decide)) (hm _ (by decide))
    · rw [if_neg (by decide)]
      exact lw_id (hs _ (by decide)) (hm _ (by decide))
    · rw [if_neg (by decide)]
      exact lw_id (hs _ (by decide)) (hm _ (by decide))
    · rw [if_neg (by decide)]
      exact lw_id (hs _ (by decide)) (hm _ (by decide))))⟩
set_option maxHeartbeats 1000000 in
theorem lw_um_9 {as : List rv_A} {σ σ' : Nat → Int} {o : rv_O} {x : Int32} {a1 a2 a3 : Int} {τ : Nat → Int} (hx : o.1 = some (.inl x)) (h1 : lw_av as 1 = a1) (h2 : lw_av as 2 = a2) (h3 : lw_av as 3 = a3) (hb : ∀ s, (sx_sr s).1 ≤ σ s ∧ σ s ≤ (sx_sr s).2) (hW : lw_W ([], [((-1), [(12804, 1)]), ((-1), [(12805, 1)]), (1, [(12805, (-1))]), (0, [(19001, 1)]), (6, [(19001, (-1))]), ((-1), [(19002, 1)]), (7, [(19002, (-1))]), ((-1), [(19001, (-1)), (19002, 1)]), ((-1), [(12804, 1), (19002, (-1))]), ((-1), [(12804, 1), (19001, (-1))])], [(12800, (0, [])), (12805, (1, [(12805, 1)])), (18553, (0, [(19001, 1)])), (18565, (0, [(19002, 1)])), (18577, (0, [(19003, 1)]))], some (false, (1, []))) as σ σ' τ o) : lw_um_C a1 a2 a3 x.toInt σ σ' := by
  unfold lw_um_C
  obtain ⟨hs, ht, hf, hr, hm, hw⟩ := hW
  have e1 : τ 19001 = a1 := by rw [ht 19001 (by decide) (by decide)]; exact h1
  have e2 : τ 19002 = a2 := by rw [ht 19002 (by decide) (by decide)]; exact h2
  have e3 : τ 19003 = a3 := by rw [ht 19003 (by decide) (by decide)]; exact h3
  rw [hx] at hr
  obtain ⟨y, hy, hv⟩ := hr
  cases hy
  replace hv : x.toInt = 1 + 0 := hv
  have hb0 := hb 12805
  rw [show sx_sr 12805 = (0, 12) from by decide +kernel] at hb0
  have s12805 : τ 12805 = σ 12805 := hs 12805 (by decide)
  have s12804 : τ 12804 = σ 12804 := hs 12804 (by decide)
  have f0 : 0 ≤ (-1) + (1 * τ 12804 + 0) := hf _ (List.Mem.head _)
  have f1 : 0 ≤ (-1) + (1 * τ 12805 + 0) := hf _ (List.Mem.tail _ (List.Mem.head _))
  have f2 : 0 ≤ 1 + ((-1) * τ 12805 + 0) := hf _ (List.Mem.tail _ (List.Mem.tail _ (List.Mem.head _)))
  have f3 : 0 ≤ 0 + (1 * τ 19001 + 0) := hf _ (List.Mem.tail _ (List.Mem.tail _ (List.Mem.tail _ (List.Mem.head _))))
  have f4 : 0 ≤ 6 + ((-1) * τ 19001 + 0) := hf _ (List.Mem.tail _ (List.Mem.tail _ (List.Mem.tail _ (List.Mem.tail _ (List.Mem.head _)))))
  have f5 : 0 ≤ (-1) + (1 * τ 19002 + 0) := hf _ (List.Mem.tail _ (List.Mem.tail _ (List.Mem.tail _ (List.Mem.tail _ (List.Mem.tail _ (List.Mem.head _))))))
  have f6 : 0 ≤ 7 + ((-1) * τ 19002 + 0) := hf _ (List.Mem.tail _ (List.Mem.tail _ (List.Mem.tail _ (List.Mem.tail _ (List.Mem.tail _ (List.Mem.tail _ (List.Mem.head _)))))))
  have f7 : 0 ≤ (-1) + ((-1) * τ 19001 + (1 * τ 19002 + 0)) := hf _ (List.Mem.tail _ (List.Mem.tail _ (List.Mem.tail _ (List.Mem.tail _ (List.Mem.tail _ (List.Mem.tail _ (List.Mem.tail _ (List.Mem.head _))))))))
  have f8 : 0 ≤ (-1) + (1 * τ 12804 + ((-1) * τ 19002 + 0)) := hf _ (List.Mem.tail _ (List.Mem.tail _ (List.Mem.tail _ (List.Mem.tail _ (List.Mem.tail _ (List.Mem.tail _ (List.Mem.tail _ (List.Mem.tail _ (List.Mem.head _)))))))))
  have f9 : 0 ≤ (-1) + (1 * τ 12804 + ((-1) * τ 19001 + 0)) := hf _ (List.Mem.tail _ (List.Mem.tail _ (List.Mem.tail _ (List.Mem.tail _ (List.Mem.tail _ (List.Mem.tail _ (List.Mem.tail _ (List.Mem.tail _ (List.Mem.tail _ (List.Mem.head _))))))))))
  have mM : σ' 12805 = 1 + (1 * τ 12805 + 0) := hm 12805 (by decide)
  have hk : (σ 12805).toNat = 1 := by omega
  rw [hk]
  exact Or.inl ⟨by omega, by omega, by omega, by omega, by omega, by omega, by omega, by omega, by omega, (fun m hm12 => (by
    rcases (show m = 0 ∨ m = 1 ∨ m = 2 ∨ m = 3 ∨ m = 4 ∨ m = 5 ∨ m = 6 ∨ m = 7 ∨ m = 8 ∨ m = 9 ∨ m = 10 ∨ m = 11 by omega) with rfl | rfl | rfl | rfl | rfl | rfl | rfl | rfl | rfl | rfl | rfl | rfl
    · rw [if_neg (by decide)]
      exact lw_id (hs _ (by decide)) (hm _ (by decide))
    · rw [if_pos rfl]
      have mk : σ' 18553 = 0 + (1 * τ 19001 + 0) := hm 18553 (by decide)
      show σ' 18553 = _
      omega
    · rw [if_neg (by decide)]
      exact lw_id (hs _ (by decide)) (hm _ (by decide))
    · rw [if_neg (by decide)]
      exact lw_id (hs _ (by decide)) (hm _ (by decide))
    · rw [if_neg (by decide)]
      exact lw_id (hs _ (by decide)) (hm _ (by decide))
    · rw [if_neg (by decide)]
      exact lw_id (hs _ (by decide)) (hm _ (by decide))
    · rw [if_neg (by decide)]
      exact lw_id (hs _ (by decide)) (hm _ (by decide))
    · rw [if_neg (by decide)]
      exact lw_id (hs _ (by decide)) (hm _ (by decide))
    · rw [if_neg (by decide)]
      exact lw_id (hs _ (by decide)) (hm _ (by decide))
    · rw [if_neg (by decide)]
      exact lw_id (hs _ (by decide)) (hm _ (by decide))
    · rw [if_neg (by decide)]
      exact lw_id (hs _ (by decide)) (hm _ (by decide))
    · rw [if_neg (by decide)]
      exact lw_id (hs _ (by decide)) (hm _ (by decide)))), (fun m hm12 => (by
    rcases (show m = 0 ∨ m = 1 ∨ m = 2 ∨ m = 3 ∨ m = 4 ∨ m = 5 ∨ m = 6 ∨ m = 7 ∨ m = 8 ∨ m = 9 ∨ m = 10 ∨ m = 11 by omega) with rfl | rfl | rfl | rfl | rfl | rfl | rfl | rfl | rfl | rfl | rfl | rfl
    · rw [if_neg (by decide)]
      exact lw_id (hs _ (by decide)) (hm _ (by decide))
    · rw [if_pos rfl]
      have mk : σ' 18565 = 0 + (1 * τ 19002 + 0) := hm 18565 (by decide)
      show σ' 18565 = _
      omega
    · rw [if_neg (by decide)]
      exact lw_id (hs _ (by decide)) (hm _ (by decide))
    · rw [if_neg (by decide)]
      exact lw_id (hs _ (by decide)) (hm _ (by decide))
    · rw [if_neg (by decide)]
      exact lw_id (hs _ (by decide)) (hm _ (by decide))
    · rw [if_neg (by decide)]
      exact lw_id (hs _ (by decide)) (hm _ (by decide))
    · rw [if_neg (by decide)]
      exact lw_id (hs _ (by decide)) (hm _ (by decide))
    · rw [if_neg (by decide)]
      exact lw_id (hs _ (by decide)) (hm _ (by decide))
    · rw [if_neg (by decide)]
      exact lw_id (hs _ (by decide)) (hm _ (by decide))
    · rw [if_neg (by decide)]
      exact lw_id (hs _ (by decide)) (hm _ (by decide))
    · rw [if_neg (by decide)]
      exact lw_id (hs _ (by decide)) (hm _ (by decide))
    · rw [if_neg (by decide)]
      exact lw_id (hs _ (by decide)) (hm _ (by decide)))), (fun m hm12 => (by
    rcases (show m = 0 ∨ m = 1 ∨ m = 2 ∨ m = 3 ∨ m = 4 ∨ m = 5 ∨ m = 6 ∨ m = 7 ∨ m = 8 ∨ m = 9 ∨ m = 10 ∨ m = 11 by omega) with rfl | rfl | rfl | rfl | rfl | rfl | rfl | rfl | rfl | rfl | rfl | rfl
    · rw [if_neg (by decide)]
      exact lw_id (hs _ (by decide)) (hm _ (by decide))
    · rw [if_pos rfl]
      have mk : σ' 18577 = 0 + (1 * τ 19003 + 0) := hm 18577 (by decide)
      show σ' 18577 = _
      omega
    · rw [if_neg (by decide)]
      exact lw_id (hs _ (by decide)) (hm _ (by decide))
    · rw [if_neg (by decide)]
      exact lw_id (hs _ (by decide)) (hm _ (by decide))
    · rw [if_neg (by decide)]
      exact lw_id (hs _ (by decide)) (hm _ (by decide))
    · rw [if_neg (by decide)]
      exact lw_id (hs _ (by decide)) (hm _ (by decide))
    · rw [if_neg (by decide)]
      exact lw_id (hs _ (by decide)) (hm _ (by decide))
    · rw [if_neg (by decide)]
      exact lw_id (hs _ (by decide)) (hm _ (by decide))
    · rw [if_neg (by decide)]
      exact lw_id (hs _ (by decide)) (hm _ (by decide))
    · rw [if_neg (by decide)]
      exact lw_id (hs _ (by decide)) (hm _ (by decide))
    · rw [if_neg (by decide)]
      exact lw_id (hs _ (by decide)) (hm _ (by decide))
    · rw [if_neg (by decide)]
      exact lw_id (hs _ (by decide)) (hm _ (by decide))))⟩
set_option maxHeartbeats 1000000 in
theorem lw_um_10 {as : List rv_A} {σ σ' : Nat → Int} {o : rv_O} {x : Int32} {a1 a2 a3 : Int} {τ : Nat → Int} (hx : o.1 = some (.inl x)) (h1 : lw_av as 1 = a1) (h2 : lw_av as 2 = a2) (h3 : lw_av as 3 = a3) (hb : ∀ s, (sx_sr s).1 ≤ σ s ∧ σ s ≤ (sx_sr s).2) (hW : lw_W ([], [((-1), [(12804, 1)]), ((-1), [(12805, 1)]), (1, [(12805, (-1))]), ((-1), [(19001, 1)]), (7, [(19001, (-1))]), (0, [(19002, 1)]), (6, [(19002, (-1))]), ((-1), [(19001, 1), (19002, (-1))]), ((-1), [(12804, 1), (19002, (-1))]), ((-1), [(12804, 1), (19001, (-1))])], [(12800, (0, [])), (12805, (1, [(12805, 1)])), (18553, (0, [(19001, 1)])), (18565, (0, [(19002, 1)])), (18577, (0, [(19003, 1)]))], some (false, (1, []))) as σ σ' τ o) : lw_um_C a1 a2 a3 x.toInt σ σ' := by
  unfold lw_um_C
  obtain ⟨hs, ht, hf, hr, hm, hw⟩ := hW
  have e1 : τ 19001 = a1 := by rw [ht 19001 (by decide) (by decide)]; exact h1
  have e2 : τ 19002 = a2 := by rw [ht 19002 (by decide) (by decide)]; exact h2
  have e3 : τ 19003 = a3 := by rw [ht 19003 (by decide) (by decide)]; exact h3
  rw [hx] at hr
  obtain ⟨y, hy, hv⟩ := hr
  cases hy
  replace hv : x.toInt = 1 + 0 := hv
  have hb0 := hb 12805
  rw [show sx_sr 12805 = (0, 12) from by decide +kernel] at hb0
  have s12805 : τ 12805 = σ 12805 := hs 12805 (by decide)
  have s12804 : τ 12804 = σ 12804 := hs 12804 (by decide)
  have f0 : 0 ≤ (-1) + (1 * τ 12804 + 0) := hf _ (List.Mem.head _)
  have f1 : 0 ≤ (-1) + (1 * τ 12805 + 0) := hf _ (List.Mem.tail _ (List.Mem.head _))
  have f2 : 0 ≤ 1 + ((-1) * τ 12805 + 0) := hf _ (List.Mem.tail _ (List.Mem.tail _ (List.Mem.head _)))
  have f3 : 0 ≤ (-1) + (1 * τ 19001 + 0) := hf _ (List.Mem.tail _ (List.Mem.tail _ (List.Mem.tail _ (List.Mem.head _))))
  have f4 : 0 ≤ 7 + ((-1) * τ 19001 + 0) := hf _ (List.Mem.tail _ (List.Mem.tail _ (List.Mem.tail _ (List.Mem.tail _ (List.Mem.head _)))))
  have f5 : 0 ≤ 0 + (1 * τ 19002 + 0) := hf _ (List.Mem.tail _ (List.Mem.tail _ (List.Mem.tail _ (List.Mem.tail _ (List.Mem.tail _ (List.Mem.head _))))))
  have f6 : 0 ≤ 6 + ((-1) * τ 19002 + 0) := hf _ (List.Mem.tail _ (List.Mem.tail _ (List.Mem.tail _ (List.Mem.tail _ (List.Mem.tail _ (List.Mem.tail _ (List.Mem.head _)))))))
  have f7 : 0 ≤ (-1) + (1 * τ 19001 + ((-1) * τ 19002 + 0)) := hf _ (List.Mem.tail _ (List.Mem.tail _ (List.Mem.tail _ (List.Mem.tail _ (List.Mem.tail _ (List.Mem.tail _ (List.Mem.tail _ (List.Mem.head _))))))))
  have f8 : 0 ≤ (-1) + (1 * τ 12804 + ((-1) * τ 19002 + 0)) := hf _ (List.Mem.tail _ (List.Mem.tail _ (List.Mem.tail _ (List.Mem.tail _ (List.Mem.tail _ (List.Mem.tail _ (List.Mem.tail _ (List.Mem.tail _ (List.Mem.head _)))))))))
  have f9 : 0 ≤ (-1) + (1 * τ 12804 + ((-1) * τ 19001 + 0)) := hf _ (List.Mem.tail _ (List.Mem.tail _ (List.Mem.tail _ (List.Mem.tail _ (List.Mem.tail _ (List.Mem.tail _ (List.Mem.tail _ (List.Mem.tail _ (List.Mem.tail _ (List.Mem.head _))))))))))
  have mM : σ' 12805 = 1 + (1 * τ 12805 + 0) := hm 12805 (by decide)
  have hk : (σ 12805).toNat = 1 := by omega
  rw [hk]
  exact Or.inl ⟨by omega, by omega, by omega, by omega, by omega, by omega, by omega, by omega, by omega, (fun m hm12 => (by
    rcases (show m = 0 ∨ m = 1 ∨ m = 2 ∨ m = 3 ∨ m = 4 ∨ m = 5 ∨ m = 6 ∨ m = 7 ∨ m = 8 ∨ m = 9 ∨ m = 10 ∨ m = 11 by omega) with rfl | rfl | rfl | rfl | rfl | rfl | rfl | rfl | rfl | rfl | rfl | rfl
    · rw [if_neg (by decide)]
      exact lw_id (hs _ (by decide)) (hm _ (by decide))
    · rw [if_pos rfl]
      have mk : σ' 18553 = 0 + (1 * τ 19001 + 0) := hm 18553 (by decide)
      show σ' 18553 = _
      omega
    · rw [if_neg (by decide)]
      exact lw_id (hs _ (by decide)) (hm _ (by decide))
    · rw [if_neg (by decide)]
      exact lw_id (hs _ (by decide)) (hm _ (by decide))
    · rw [if_neg (by decide)]
      exact lw_id (hs _ (by decide)) (hm _ (by decide))
    · rw [if_neg (by decide)]
      exact lw_id (hs _ (by decide)) (hm _ (by decide))
    · rw [if_neg (by decide)]
      exact lw_id (hs _ (by decide)) (hm _ (by decide))
    · rw [if_neg (by decide)]
      exact lw_id (hs _ (by decide)) (hm _ (by decide))
    · rw [if_neg (by decide)]
      exact lw_id (hs _ (by decide)) (hm _ (by decide))
    · rw [if_neg (by decide)]
      exact lw_id (hs _ (by decide)) (hm _ (by decide))
    · rw [if_neg (by decide)]
      exact lw_id (hs _ (by decide)) (hm _ (by decide))
    · rw [if_neg (by decide)]
      exact lw_id (hs _ (by decide)) (hm _ (by decide)))), (fun m hm12 => (by
    rcases (show m = 0 ∨ m = 1 ∨ m = 2 ∨ m = 3 ∨ m = 4 ∨ m = 5 ∨ m = 6 ∨ m = 7 ∨ m = 8 ∨ m = 9 ∨ m = 10 ∨ m = 11 by omega) with rfl | rfl | rfl | rfl | rfl | rfl | rfl | rfl | rfl | rfl | rfl | rfl
    · rw [if_neg (by decide)]
      exact lw_id (hs _ (by decide)) (hm _ (by decide))
    · rw [if_pos rfl]
      have mk : σ' 18565 = 0 + (1 * τ 19002 + 0) := hm 18565 (by decide)
      show σ' 18565 = _
      omega
    · rw [if_neg (by decide)]
      exact lw_id (hs _ (by decide)) (hm _ (by decide))
    · rw [if_neg (by decide)]
      exact lw_id (hs _ (by decide)) (hm _ (by decide))
    · rw [if_neg (by decide)]
      exact lw_id (hs _ (by decide)) (hm _ (by decide))
    · rw [if_neg (by decide)]
      exact lw_id (hs _ (by decide)) (hm _ (by decide))
    · rw [if_neg (by decide)]
      exact lw_id (hs _ (by decide)) (hm _ (by decide))
    · rw [if_neg (by decide)]
      exact lw_id (hs _ (by decide)) (hm _ (by decide))
    · rw [if_neg (by decide)]
      exact lw_id (hs _ (by decide)) (hm _ (by decide))
    · rw [if_neg (by decide)]
      exact lw_id (hs _ (by decide)) (hm _ (by decide))
    · rw [if_neg (by decide)]
      exact lw_id (hs _ (by decide)) (hm _ (by decide))
    · rw [if_neg (by decide)]
      exact lw_id (hs _ (by decide)) (hm _ (by decide)))), (fun m hm12 => (by
    rcases (show m = 0 ∨ m = 1 ∨ m = 2 ∨ m = 3 ∨ m = 4 ∨ m = 5 ∨ m = 6 ∨ m = 7 ∨ m = 8 ∨ m = 9 ∨ m = 10 ∨ m = 11 by omega) with rfl | rfl | rfl | rfl | rfl | rfl | rfl | rfl | rfl | rfl | rfl | rfl
    · rw [if_neg (by decide)]
      exact lw_id (hs _ (by decide)) (hm _ (by decide))
    · rw [if_pos rfl]
      have mk : σ' 18577 = 0 + (1 * τ 19003 + 0) := hm 18577 (by decide)
      show σ' 18577 = _
      omega
    · rw [if_neg (by decide)]
      exact lw_id (hs _ (by decide)) (hm _ (by decide))
    · rw [if_neg (by decide)]
      exact lw_id (hs _ (by decide)) (hm _ (by decide))
    · rw [if_neg (by decide)]
      exact lw_id (hs _ (by decide)) (hm _ (by decide))
    · rw [if_neg (by decide)]
      exact lw_id (hs _ (by decide)) (hm _ (by decide))
    · rw [if_neg (by decide)]
      exact lw_id (hs _ (by decide)) (hm _ (by decide))
    · rw [if_neg (by decide)]
      exact lw_id (hs _ (by decide)) (hm _ (by decide))
    · rw [if_neg (by decide)]
      exact lw_id (hs _ (by decide)) (hm _ (by decide))
    · rw [if_neg (by decide)]
      exact lw_id (hs _ (by decide)) (hm _ (by decide))
    · rw [if_neg (by decide)]
      exact lw_id (hs _ (by decide)) (hm _ (by decide))
    · rw [if_neg (by decide)]
      exact lw_id (hs _ (by decide)) (hm _ (by decide))))⟩
set_option maxHeartbeats 1000000 in
theorem lw_um_11 {as : List rv_A} {σ σ' : Nat → Int} {o : rv_O} {x : Int32} {a1 a2 a3 : Int} {τ : Nat → Int} (hx : o.1 = some (.inl x)) (h1 : lw_av as 1 = a1) (h2 : lw_av as 2 = a2) (h3 : lw_av as 3 = a3) (hb : ∀ s, (sx_sr s).1 ≤ σ s ∧ σ s ≤ (sx_sr s).2) (hW : lw_W ([], [((-1), [(12804, 1)]), ((-10), [(12805, 1)]), (10, [(12805, (-1))]), (0, [(19001, 1)]), (6, [(19001, (-1))]), ((-1), [(19002, 1)]), (7, [(19002, (-1))]), ((-1), [(19001, (-1)), (19002, 1)]), ((-1), [(12804, 1), (19002, (-1))]), ((-1), [(12804, 1), (19001, (-1))])], [(12800, (0, [])), (12805, (1, [(12805, 1)])), (18562, (0, [(19001, 1)])), (18574, (0, [(19002, 1)])), (18586, (0, [(19003, 1)]))], some (false, (1, []))) as σ σ' τ o) : lw_um_C a1 a2 a3 x.toInt σ σ' := by
  unfold lw_um_C
  obtain ⟨hs, ht, hf, hr, hm, hw⟩ := hW
  have e1 : τ 19001 = a1 := by rw [ht 19001 (by decide) (by decide)]; exact h1
  have e2 : τ 19002 = a2 := by rw [ht 19002 (by decide) (by decide)]; exact h2
  have e3 : τ 19003 = a3 := by rw [ht 19003 (by decide) (by decide)]; exact h3
  rw [hx] at hr
  obtain ⟨y, hy, hv⟩ := hr
  cases hy
  replace hv : x.toInt = 1 + 0 := hv
  have hb0 := hb 12805
  rw [show sx_sr 12805 = (0, 12) from by decide +kernel] at hb0
  have s12805 : τ 12805 = σ 12805 := hs 12805 (by decide)
  have s12804 : τ 12804 = σ 12804 := hs 12804 (by decide)
  have f0 : 0 ≤ (-1) + (1 * τ 12804 + 0) := hf _ (List.Mem.head _)
  have f1 : 0 ≤ (-10) + (1 * τ 12805 + 0) := hf _ (List.Mem.tail _ (List.Mem.head _))
  have f2 : 0 ≤ 10 + ((-1) * τ 12805 + 0) := hf _ (List.Mem.tail _ (List.Mem.tail _ (List.Mem.head _)))
  have f3 : 0 ≤ 0 + (1 * τ 19001 + 0) := hf _ (List.Mem.tail _ (List.Mem.tail _ (List.Mem.tail _ (List.Mem.head _))))
  have f4 : 0 ≤ 6 + ((-1) * τ 19001 + 0) := hf _ (List.Mem.tail _ (List.Mem.tail _ (List.Mem.tail _ (List.Mem.tail _ (List.Mem.head _)))))
  have f5 : 0 ≤ (-1) + (1 * τ 19002 + 0) := hf _ (List.Mem.tail _ (List.Mem.tail _ (List.Mem.tail _ (List.Mem.tail _ (List.Mem.tail _ (List.Mem.head _))))))
  have f6 : 0 ≤ 7 + ((-1) * τ 19002 + 0) := hf _ (List.Mem.tail _ (List.Mem.tail _ (List.Mem.tail _ (List.Mem.tail _ (List.Mem.tail _ (List.Mem.tail _ (List.Mem.head _)))))))
  have f7 : 0 ≤ (-1) + ((-1) * τ 19001 + (1 * τ 19002 + 0)) := hf _ (List.Mem.tail _ (List.Mem.tail _ (List.Mem.tail _ (List.Mem.tail _ (List.Mem.tail _ (List.Mem.tail _ (List.Mem.tail _ (List.Mem.head _))))))))
  have f8 : 0 ≤ (-1) + (1 * τ 12804 + ((-1) * τ 19002 + 0)) := hf _ (List.Mem.tail _ (List.Mem.tail _ (List.Mem.tail _ (List.Mem.tail _ (List.Mem.tail _ (List.Mem.tail _ (List.Mem.tail _ (List.Mem.tail _ (List.Mem.head _)))))))))
  have f9 : 0 ≤ (-1) + (1 * τ 12804 + ((-1) * τ 19001 + 0)) := hf _ (List.Mem.tail _ (List.Mem.tail _ (List.Mem.tail _ (List.Mem.tail _ (List.Mem.tail _ (List.Mem.tail _ (List.Mem.tail _ (List.Mem.tail _ (List.Mem.tail _ (List.Mem.head _))))))))))
  have mM : σ' 12805 = 1 + (1 * τ 12805 + 0) := hm 12805 (by decide)
  have hk : (σ 12805).toNat = 10 := by omega
  rw [hk]
  exact Or.inl ⟨by omega, by omega, by omega, by omega, by omega, by omega, by omega, by omega, by omega, (fun m hm12 => (by
    rcases (show m = 0 ∨ m = 1 ∨ m = 2 ∨ m = 3 ∨ m = 4 ∨ m = 5 ∨ m = 6 ∨ m = 7 ∨ m = 8 ∨ m = 9 ∨ m = 10 ∨ m = 11 by omega) with rfl | rfl | rfl | rfl | rfl | rfl | rfl | rfl | rfl | rfl | rfl | rfl
    · rw [if_neg (by decide)]
      exact lw_id (hs _ (by decide)) (hm _ (by decide))
    · rw [if_neg (by decide)]
      exact lw_id (hs _ (by decide)) (hm _ (by decide))
    · rw [if_neg (by decide)]
      exact lw_id (hs _ (by decide)) (hm _ (by decide))
    · rw [if_neg (by decide)]
      exact lw_id (hs _ (by decide)) (hm _ (by decide))
    · rw [if_neg (by decide)]
      exact lw_id (hs _ (by decide)) (hm _ (by decide))
    · rw [if_neg (by decide)]
      exact lw_id (hs _ (by decide)) (hm _ (by decide))
    · rw [if_neg (by decide)]
      exact lw_id (hs _ (by decide)) (hm _ (by decide))
    · rw [if_neg (by decide)]
      exact lw_id (hs _ (by decide)) (hm _ (by decide))
    · rw [if_neg (by decide)]
      exact lw_id (hs _ (by decide)) (hm _ (by decide))
    · rw [if_neg (by decide)]
      exact lw_id (hs _ (by decide)) (hm _ (by decide))
    · rw [if_pos rfl]
      have mk : σ' 18562 = 0 + (1 * τ 19001 + 0) := hm 18562 (by decide)
      show σ' 18562 = _
      omega
    · rw [if_neg (by decide)]
      exact lw_id (hs _ (by decide)) (hm _ (by decide)))), (fun m hm12 => (by
    rcases (show m = 0 ∨ m = 1 ∨ m = 2 ∨ m = 3 ∨ m = 4 ∨ m = 5 ∨ m = 6 ∨ m = 7 ∨ m = 8 ∨ m = 9 ∨ m = 10 ∨ m = 11 by omega) with rfl | rfl | rfl | rfl | rfl | rfl | rfl | rfl | rfl | rfl | rfl | rfl
    · rw [if_neg (by decide)]
      exact lw_id (hs _ (by decide)) (hm _ (by decide))
    · rw [if_neg (by decide)]
      exact lw_id (hs _ (by decide)) (hm _ (by decide))
    · rw [if_neg (by decide)]
      exact lw_id (hs _ (by decide)) (hm _ (by decide))
    · rw [if_neg (by decide)]
      exact lw_id (hs _ (by decide)) (hm _ (by decide))
    · rw [if_neg (by decide)]
      exact lw_id (hs _ (by decide)) (hm _ (by decide))
    · rw [if_neg (by decide)]
      exact lw_id (hs _ (by decide)) (hm _ (by decide))
    · rw [if_neg (by decide)]
      exact lw_id (hs _ (by decide)) (hm _ (by decide))
    · rw [if_neg (by decide)]
      exact lw_id (hs _ (by decide)) (hm _ (by decide))
    · rw [if_neg (by decide)]
      exact lw_id (hs _ (by decide)) (hm _ (by decide))
    · rw [if_neg (by decide)]
      exact lw_id (hs _ (by decide)) (hm _ (by decide))
    · rw [if_pos rfl]
      have mk : σ' 18574 = 0 + (1 * τ 19002 + 0) := hm 18574 (by decide)
      show σ' 18574 = _
      omega
    · rw [if_neg (by decide)]
      exact lw_id (hs _ (by decide)) (hm _ (by decide)))), (fun m hm12 => (by
    rcases (show m = 0 ∨ m = 1 ∨ m = 2 ∨ m = 3 ∨ m = 4 ∨ m = 5 ∨ m = 6 ∨ m = 7 ∨ m = 8 ∨ m = 9 ∨ m = 10 ∨ m = 11 by omega) with rfl | rfl | rfl | rfl | rfl | rfl | rfl | rfl | rfl | rfl | rfl | rfl
    · rw [if_neg (by decide)]
      exact lw_id (hs _ (by decide)) (hm _ (by decide))
    · rw [if_neg (by decide)]
      exact lw_id (hs _ (by decide)) (hm _ (by decide))
    · rw [if_neg (by decide)]
      exact lw_id (hs _ (by decide)) (hm _ (by decide))
    · rw [if_neg (by decide)]
      exact lw_id (hs _ (by decide)) (hm _ (by decide))
    · rw [if_neg (by decide)]
      exact lw_id (hs _ (by decide)) (hm _ (by decide))
    · rw [if_neg (by decide)]
      exact lw_id (hs _ (by decide)) (hm _ (by decide))
    · rw [if_neg (by decide)]
      exact lw_id (hs _ (by decide)) (hm _ (by decide))
    · rw [if_neg (by decide)]
      exact lw_id (hs _ (by decide)) (hm _ (by decide))
    · rw [if_neg (by decide)]
      exact lw_id (hs _ (by decide)) (hm _ (by decide))
    · rw [if_neg (by decide)]
      exact lw_id (hs _ (by decide)) (hm _ (by decide))
    · rw [if_pos rfl]
      have mk : σ' 18586 = 0 + (1 * τ 19003 + 0) := hm 18586 (by decide)
      show σ' 18586 = _
      omega
    · rw [if_neg (by decide)]
      exact lw_id (hs _ (by decide)) (hm _ (by decide))))⟩
set_option maxHeartbeats 1000000 in
theorem lw_um_12 {as : List rv_A} {σ σ' : Nat → Int} {o : rv_O} {x : Int32} {a1 a2 a3 : Int} {τ : Nat → Int} (hx : o.1 = some (.inl x)) (h1 : lw_av as 1 = a1) (h2 : lw_av as 2 = a2) (h3 : lw_av as 3 = a3) (hb : ∀ s, (sx_sr s).1 ≤ σ s ∧ σ s ≤ (sx_sr s).2) (hW : lw_W ([], [((-1), [(12804, 1)]), ((-10), [(12805, 1)]), (10, [(12805, (-1))]), ((-1), [(19001, 1)]), (7, [(19001, (-1))]), (0, [(19002, 1)]), (6, [(19002, (-1))]), ((-1), [(19001, 1), (19002, (-1))]), ((-1), [(12804, 1), (19002, (-1))]), ((-1), [(12804, 1), (19001, (-1))])], [(12800, (0, [])), (12805, (1, [(12805, 1)])), (18562, (0, [(19001, 1)])), (18574, (0, [(19002, 1)])), (18586, (0, [(19003, 1)]))], some (false, (1, []))) as σ σ' τ o) : lw_um_C a1 a2 a3 x.toInt σ σ' := by
  unfold lw_um_C
  obtain ⟨hs, ht, hf, hr, hm, hw⟩ := hW
  have e1 : τ 19001 = a1 := by rw [ht 19001 (by decide) (by decide)]; exact h1
  have e2 : τ 19002 = a2 := by rw [ht 19002 (by decide) (by decide)]; exact h2
  have e3 : τ 19003 = a3 := by rw [ht 19003 (by decide) (by decide)]; exact h3
  rw [hx] at hr
  obtain ⟨y, hy, hv⟩ := hr
  cases hy
  replace hv : x.toInt = 1 + 0 := hv
  have hb0 := hb 12805
  rw [show sx_sr 12805 = (0, 12) from by decide +kernel] at hb0
  have s12805 : τ 12805 = σ 12805 := hs 12805 (by decide)
  have s12804 : τ 12804 = σ 12804 := hs 12804 (by decide)
  have f0 : 0 ≤ (-1) + (1 * τ 12804 + 0) := hf _ (List.Mem.head _)
  have f1 : 0 ≤ (-10) + (1 * τ 12805 + 0) := hf _ (List.Mem.tail _ (List.Mem.head _))
  have f2 : 0 ≤ 10 + ((-1) * τ 12805 + 0) := hf _ (List.Mem.tail _ (List.Mem.tail _ (List.Mem.head _)))
  have f3 : 0 ≤ (-1) + (1 * τ 19001 + 0) := hf _ (List.Mem.tail _ (List.Mem.tail _ (List.Mem.tail _ (List.Mem.head _))))
  have f4 : 0 ≤ 7 + ((-1) * τ 19001 + 0) := hf _ (List.Mem.tail _ (List.Mem.tail _ (List.Mem.tail _ (List.Mem.tail _ (List.Mem.head _)))))
  have f5 : 0 ≤ 0 + (1 * τ 19002 + 0) := hf _ (List.Mem.tail _ (List.Mem.tail _ (List.Mem.tail _ (List.Mem.tail _ (List.Mem.tail _ (List.Mem.head _))))))
  have f6 : 0 ≤ 6 + ((-1) * τ 19002 + 0) := hf _ (List.Mem.tail _ (List.Mem.tail _ (List.Mem.tail _ (List.Mem.tail _ (List.Mem.tail _ (List.Mem.tail _ (List.Mem.head _)))))))
  have f7 : 0 ≤ (-1) + (1 * τ 19001 + ((-1) * τ 19002 + 0)) := hf _ (List.Mem.tail _ (List.Mem.tail _ (List.Mem.tail _ (List.Mem.tail _ (List.Mem.tail _ (List.Mem.tail _ (List.Mem.tail _ (List.Mem.head _))))))))
  have f8 : 0 ≤ (-1) + (1 * τ 12804 + ((-1) * τ 19002 + 0)) := hf _ (List.Mem.tail _ (List.Mem.tail _ (List.Mem.tail _ (List.Mem.tail _ (List.Mem.tail _ (List.Mem.tail _ (List.Mem.tail _ (List.Mem.tail _ (List.Mem.head _)))))))))
  have f9 : 0 ≤ (-1) + (1 * τ 12804 + ((-1) * τ 19001 + 0)) := hf _ (List.Mem.tail _ (List.Mem.tail _ (List.Mem.tail _ (List.Mem.tail _ (List.Mem.tail _ (List.Mem.tail _ (List.Mem.tail _ (List.Mem.tail _ (List.Mem.tail _ (List.Mem.head _))))))))))
  have mM : σ' 12805 = 1 + (1 * τ 12805 + 0) := hm 12805 (by decide)
  have hk : (σ 12805).toNat = 10 := by omega
  rw [hk]
  exact Or.inl ⟨by omega, by omega, by omega, by omega, by omega, by omega, by omega, by omega, by omega, (fun m hm12 => (by
    rcases (show m = 0 ∨ m = 1 ∨ m = 2 ∨ m = 3 ∨ m = 4 ∨ m = 5 ∨ m = 6 ∨ m = 7 ∨ m = 8 ∨ m = 9 ∨ m = 10 ∨ m = 11 by omega) with rfl | rfl | rfl | rfl | rfl | rfl | rfl | rfl | rfl | rfl | rfl | rfl
    · rw [if_neg (by decide)]
      exact lw_id (hs _ (by decide)) (hm _ (by decide))
    · rw [if_neg (by decide)]
      exact lw_id (hs _ (by decide)) (hm _ (by decide))
    · rw [if_neg (by decide)]
      exact lw_id (hs _ (by decide)) (hm _ (by decide))
    · rw [if_neg (by decide)]
      exact lw_id (hs _ (by decide)) (hm _ (by decide))
    · rw [if_neg (by decide)]
      exact lw_id (hs _ (by decide)) (hm _ (by decide))
    · rw [if_neg (by decide)]
      exact lw_id (hs _ (by decide)) (hm _ (by decide))
    · rw [if_neg (by decide)]
      exact lw_id (hs _ (by decide)) (hm _ (by decide))
    · rw [if_neg (by decide)]
      exact lw_id (hs _ (by decide)) (hm _ (by decide))
    · rw [if_neg (by decide)]
      exact lw_id (hs _ (by decide)) (hm _ (by decide))
    · rw [if_neg (by decide)]
      exact lw_id (hs _ (by decide)) (hm _ (by decide))
    · rw [if_pos rfl]
      have mk : σ' 18562 = 0 + (1 * τ 19001 + 0) := hm 18562 (by decide)
      show σ' 18562 = _
      omega
    · rw [if_neg (by decide)]
      exact lw_id (hs _ (by decide)) (hm _ (by decide)))), (fun m hm12 => (by
    rcases (show m = 0 ∨ m = 1 ∨ m = 2 ∨ m = 3 ∨ m = 4 ∨ m = 5 ∨ m = 6 ∨ m = 7 ∨ m = 8 ∨ m = 9 ∨ m = 10 ∨ m = 11 by omega) with rfl | rfl | rfl | rfl | rfl | rfl | rfl | rfl | rfl | rfl | rfl | rfl
    · rw [if_neg (by decide)]
      exact lw_id (hs _ (by decide)) (hm _ (by decide))
    · rw [if_neg (by decide)]
      exact lw_id (hs _ (by decide)) (hm _ (by decide))
    · rw [if_neg (by decide)]
      exact lw_id (hs _ (by decide)) (hm _ (by decide))
    · rw [if_neg (by decide)]
      exact lw_id (hs _ (by decide)) (hm _ (by decide))
    · rw [if_neg (by decide)]
      exact lw_id (hs _ (by decide)) (hm _ (by decide))
    · rw [if_neg (by decide)]
      exact lw_id (hs _ (by decide)) (hm _ (by decide))
    · rw [if_neg (by decide)]
      exact lw_id (hs _ (by decide)) (hm _ (by decide))
    · rw [if_neg (by decide)]
      exact lw_id (hs _ (by decide)) (hm _ (by decide))
    · rw [if_neg (by decide)]
      exact lw_id (hs _ (by decide)) (hm _ (by decide))
    · rw [if_neg (by decide)]
      exact lw_id (hs _ (by decide)) (hm _ (by decide))
    · rw [if_pos rfl]
      have mk : σ' 18574 = 0 + (1 * τ 19002 + 0) := hm 18574 (by decide)
      show σ' 18574 = _
      omega
    · rw [if_neg (by decide)]
      exact lw_id (hs _ (by decide)) (hm _ (by decide)))), (fun m hm12 => (by
    rcases (show m = 0 ∨ m = 1 ∨ m = 2 ∨ m = 3 ∨ m = 4 ∨ m = 5 ∨ m = 6 ∨ m = 7 ∨ m = 8 ∨ m = 9 ∨ m = 10 ∨ m = 11 by omega) with rfl | rfl | rfl | rfl | rfl | rfl | rfl | rfl | rfl | rfl | rfl | rfl
    · rw [if_neg (by decide)]
      exact lw_id (hs _ (by decide)) (hm _ (by decide))
    · rw [if_neg (by decide)]
      exact lw_id (hs _ (by decide)) (hm _ (by decide))
    · rw [if_neg (by decide)]
      exact lw_id (hs _ (by decide)) (hm _ (by decide))
    · rw [if_neg (by decide)]
      exact lw_id (hs _ (by decide)) (hm _ (by decide))
    · rw [if_neg (by decide)]
      exact lw_id (hs _ (by decide)) (hm _ (by decide))
    · rw [if_neg (by decide)]
      exact lw_id (hs _ (by decide)) (hm _ (by decide))
    · rw [if_neg (by decide)]
      exact lw_id (hs _ (by decide)) (hm _ (by decide))
    · rw [if_neg (by decide)]
      exact lw_id (hs _ (by decide)) (hm _ (by decide))
    · rw [if_neg (by decide)]
      exact lw_id (hs _ (by decide)) (hm _ (by decide))
    · rw [if_neg (by decide)]
      exact lw_id (hs _ (by decide)) (hm _ (by decide))
    · rw [if_pos rfl]
      have mk : σ' 18586 = 0 + (1 * τ 19003 + 0) := hm 18586 (by decide)
      show σ' 18586 = _
      omega
    · rw [if_neg (by decide)]
      exact lw_id (hs _ (by decide)) (hm _ (by decide))))⟩
set_option maxHeartbeats 1000000 in
theorem lw_um_13 {as : List rv_A} {σ σ' : Nat → Int} {o : rv_O} {x : Int32} {a1 a2 a3 : Int} {τ : Nat → Int} (hx : o.1 = some (.inl x)) (h1 : lw_av as 1 = a1) (h2 : lw_av as 2 = a2) (h3 : lw_av as 3 = a3) (hb : ∀ s, (sx_sr s).1 ≤ σ s ∧ σ s ≤ (sx_sr s).2) (hW : lw_W ([], [((-1), [(12804, 1)]), ((-11), [(12805, 1)]), (11, [(12805, (-1))]), (0, [(19001, 1)]), (6, [(19001, (-1))]), ((-1), [(19002, 1)]), (7, [(19002, (-1))]), ((-1), [(19001, (-1)), (19002, 1)]), ((-1), [(12804, 1), (19002, (-1))]), ((-1), [(12804, 1), (19001, (-1))])], [(12800, (0, [])), (12805, (1, [(12805, 1)])), (18563, (0, [(19001, 1)])), (18575, (0, [(19002, 1)])), (18587, (0, [(19003, 1)]))], some (false, (1, []))) as σ σ' τ o) : lw_um_C a1 a2 a3 x.toInt σ σ' := by
  unfold lw_um_C
  obtain ⟨hs, ht, hf, hr, hm, hw⟩ := hW
  have e1 : τ 19001 = a1 := by rw [ht 19001 (by decide) (by decide)]; exact h1
  have e2 : τ 19002 = a2 := by rw [ht 19002 (by decide) (by decide)]; exact h2
  have e3 : τ 19003 = a3 := by rw [ht 19003 (by decide) (by decide)]; exact h3
  rw [hx] at hr
  obtain ⟨y, hy, hv⟩ := hr
  cases hy
  replace hv : x.toInt = 1 + 0 := hv
  have hb0 := hb 12805
  rw [show sx_sr 12805 = (0, 12) from by decide +kernel] at hb0
  have s12805 : τ 12805 = σ 12805 := hs 12805 (by decide)
  have s12804 : τ 12804 = σ 12804 := hs 12804 (by decide)
  have f0 : 0 ≤ (-1) + (1 * τ 12804 + 0) := hf _ (List.Mem.head _)
  have f1 : 0 ≤ (-11) + (1 * τ 12805 + 0) := hf _ (List.Mem.tail _ (List.Mem.head _))
  have f2 : 0 ≤ 11 + ((-1) * τ 12805 + 0) := hf _ (List.Mem.tail _ (List.Mem.tail _ (List.Mem.head _)))
  have f3 : 0 ≤ 0 + (1 * τ 19001 + 0) := hf _ (List.Mem.tail _ (List.Mem.tail _ (List.Mem.tail _ (List.Mem.head _))))
  have f4 : 0 ≤ 6 + ((-1) * τ 19001 + 0) := hf _ (List.Mem.tail _ (List.Mem.tail _ (List.Mem.tail _ (List.Mem.tail _ (List.Mem.head _)))))
  have f5 : 0 ≤ (-1) + (1 * τ 19002 + 0) := hf _ (List.Mem.tail _ (List.Mem.tail _ (List.Mem.tail _ (List.Mem.tail _ (List.Mem.tail _ (List.Mem.head _))))))
  have f6 : 0 ≤ 7 + ((-1) * τ 19002 + 0) := hf _ (List.Mem.tail _ (List.Mem.tail _ (List.Mem.tail _ (List.Mem.tail _ (List.Mem.tail _ (List.Mem.tail _ (List.Mem.head _)))))))
  have f7 : 0 ≤ (-1) + ((-1) * τ 19001 + (1 * τ 19002 + 0)) := hf _ (List.Mem.tail _ (List.Mem.tail _ (List.Mem.tail _ (List.Mem.tail _ (List.Mem.tail _ (List.Mem.tail _ (List.Mem.tail _ (List.Mem.head _))))))))
  have f8 : 0 ≤ (-1) + (1 * τ 12804 + ((-1) * τ 19002 + 0)) := hf _ (List.Mem.tail _ (List.Mem.tail _ (List.Mem.tail _ (List.Mem.tail _ (List.Mem.tail _ (List.Mem.tail _ (List.Mem.tail _ (List.Mem.tail _ (List.Mem.head _)))))))))
  have f9 : 0 ≤ (-1) + (1 * τ 12804 + ((-1) * τ 19001 + 0)) := hf _ (List.Mem.tail _ (List.Mem.tail _ (List.Mem.tail _ (List.Mem.tail _ (List.Mem.tail _ (List.Mem.tail _ (List.Mem.tail _ (List.Mem.tail _ (List.Mem.tail _ (List.Mem.head _))))))))))
  have mM : σ' 12805 = 1 + (1 * τ 12805 + 0) := hm 12805 (by decide)
  have hk : (σ 12805).toNat = 11 := by omega
  rw [hk]
  exact Or.inl ⟨by omega, by omega, by omega, by omega, by omega, by omega, by omega, by omega, by omega, (fun m hm12 => (by
    rcases (show m = 0 ∨ m = 1 ∨ m = 2 ∨ m = 3 ∨ m = 4 ∨ m = 5 ∨ m = 6 ∨ m = 7 ∨ m = 8 ∨ m = 9 ∨ m = 10 ∨ m = 11 by omega) with rfl | rfl | rfl | rfl | rfl | rfl | rfl | rfl | rfl | rfl | rfl | rfl
    · rw [if_neg (by decide)]
      exact lw_id (hs _ (by decide)) (hm _ (by decide))
    · rw [if_neg (by decide)]
      exact lw_id (hs _ (by decide)) (hm _ (by decide))
    · rw [if_neg (by decide)]
      exact lw_id (hs _ (by decide)) (hm _ (by decide))
    · rw [if_neg (by decide)]
      exact lw_id (hs _ (by decide)) (hm _ (by decide))
    · rw [if_neg (by decide)]
      exact lw_id (hs _ (by decide)) (hm _ (by decide))
    · rw [if_neg (by decide)]
      exact lw_id (hs _ (by decide)) (hm _ (by decide))
    · rw [if_neg (by decide)]
      exact lw_id (hs _ (by decide)) (hm _ (by decide))
    · rw [if_neg (by decide)]
      exact lw_id (hs _ (by decide)) (hm _ (by decide))
    · rw [if_neg (by decide)]
      exact lw_id (hs _ (by decide)) (hm _ (by decide))
    · rw [if_neg (by decide)]
      exact lw_id (hs _ (by decide)) (hm _ (by decide))
    · rw [if_neg (by decide)]
      exact lw_id (hs _ (by decide)) (hm _ (by decide))
    · rw [if_pos rfl]
      have mk : σ' 18563 = 0 + (1 * τ 19001 + 0) := hm 18563 (by decide)
      show σ' 18563 = _
      omega)), (fun m hm12 => (by
    rcases (show m = 0 ∨ m = 1 ∨ m = 2 ∨ m = 3 ∨ m = 4 ∨ m = 5 ∨ m = 6 ∨ m = 7 ∨ m = 8 ∨ m = 9 ∨ m = 10 ∨ m = 11 by omega) with rfl | rfl | rfl | rfl | rfl | rfl | rfl | rfl | rfl | rfl | rfl | rfl
    · rw [if_neg (by decide)]
      exact lw_id (hs _ (by decide)) (hm _ (by decide))
    · rw [if_neg (by decide)]
      exact lw_id (hs _ (by decide)) (hm _ (by decide))
    · rw [if_neg (by decide)]
      exact lw_id (hs _ (by decide)) (hm _ (by decide))
    · rw [if_neg (by decide)]
      exact lw_id (hs _ (by decide)) (hm _ (by decide))
    · rw [if_neg (by decide)]
      exact lw_id (hs _ (by decide)) (hm _ (by decide))
    · rw [if_neg (by decide)]
      exact lw_id (hs _ (by decide)) (hm _ (by decide))
    · rw [if_neg (by decide)]
      exact lw_id (hs _ (by decide)) (hm _ (by decide))
    · rw [if_neg (by decide)]
      exact lw_id (hs _ (by decide)) (hm _ (by decide))
    · rw [if_neg (by decide)]
      exact lw_id (hs _ (by decide)) (hm _ (by decide))
    · rw [if_neg (by decide)]
      exact lw_id (hs _ (by decide)) (hm _ (by decide))
    · rw [if_neg (by decide)]
      exact lw_id (hs _ (by decide)) (hm _ (by decide))
    · rw [if_pos rfl]
      have mk : σ' 18575 = 0 + (1 * τ 19002 + 0) := hm 18575 (by decide)
      show σ' 18575 = _
      omega)), (fun m hm12 => (by
    rcases (show m = 0 ∨ m = 1 ∨ m = 2 ∨ m = 3 ∨ m = 4 ∨ m = 5 ∨ m = 6 ∨ m = 7 ∨ m = 8 ∨ m = 9 ∨ m = 10 ∨ m = 11 by omega) with rfl | rfl | rfl | rfl | rfl | rfl | rfl | rfl | rfl | rfl | rfl | rfl
    · rw [if_neg (by decide)]
      exact lw_id (hs _ (by decide)) (hm _ (by decide))
    · rw [if_neg (by decide)]
      exact lw_id (hs _ (by decide)) (hm _ (by decide))
    · rw [if_neg (by decide)]
      exact lw_id (hs _ (by decide)) (hm _ (by decide))
    · rw [if_neg (by decide)]
      exact lw_id (hs _ (by decide)) (hm _ (by decide))
    · rw [if_neg (by decide)]
      exact lw_id (hs _ (by decide)) (hm _ (by decide))
    · rw [if_neg (by decide)]
      exact lw_id (hs _ (by decide)) (hm _ (by decide))
    · rw [if_neg (by decide)]
      exact lw_id (hs _ (by decide)) (hm _ (by decide))
    · rw [if_neg (by decide)]
      exact lw_id (hs _ (by decide)) (hm _ (by decide))
    · rw [if_neg (by decide)]
      exact lw_id (hs _ (by decide)) (hm _ (by decide))
    · rw [if_neg (by decide)]
      exact lw_id (hs _ (by decide)) (hm _ (by decide))
    · rw [if_neg (by decide)]
      exact lw_id (hs _ (by decide)) (hm _ (by decide))
    · rw [if_pos rfl]
      have mk : σ' 18587 = 0 + (1 * τ 19003 + 0) := hm 18587 (by decide)
      show σ' 18587 = _
      omega))⟩
set_option maxHeartbeats 1000000 in
theorem lw_um_14 {as : List rv_A} {σ σ' : Nat → Int} {o : rv_O} {x : Int32} {a1 a2 a3 : Int} {τ : Nat → Int} (hx : o.1 = some (.inl x)) (h1 : lw_av as 1 = a1) (h2 : lw_av as 2 = a2) (h3 : lw_av as 3 = a3) (hb : ∀ s, (sx_sr s).1 ≤ σ s ∧ σ s ≤ (sx_sr s).2) (hW : lw_W ([], [((-1), [(12804, 1)]), ((-11), [(12805, 1)]), (11, [(12805, (-1))]), ((-1), [(19001, 1)]), (7, [(19001, (-1))]), (0, [(19002, 1)]), (6, [(19002, (-1))]), ((-1), [(19001, 1), (19002, (-1))]), ((-1), [(12804, 1), (19002, (-1))]), ((-1), [(12804, 1), (19001, (-1))])], [(12800, (0, [])), (12805, (1, [(12805, 1)])), (18563, (0, [(19001, 1)])), (18575, (0, [(19002, 1)])), (18587, (0, [(19003, 1)]))], some (false, (1, []))) as σ σ' τ o) : lw_um_C a1 a2 a3 x.toInt σ σ' := by
  unfold lw_um_C
  obtain ⟨hs, ht, hf, hr, hm, hw⟩ := hW
  have e1 : τ 19001 = a1 := by rw [ht 19001 (by decide) (by decide)]; exact h1
  have e2 : τ 19002 = a2 := by rw [ht 19002 (by decide) (by decide)]; exact h2
  have e3 : τ 19003 = a3 := by rw [ht 19003 (by decide) (by decide)]; exact h3
  rw [hx] at hr
  obtain ⟨y, hy, hv⟩ := hr
  cases hy
  replace hv : x.toInt = 1 + 0 := hv
  have hb0 := hb 12805
  rw [show sx_sr 12805 = (0, 12) from by decide +kernel] at hb0
  have s12805 : τ 12805 = σ 12805 := hs 12805 (by decide)
  have s12804 : τ 12804 = σ 12804 := hs 12804 (by decide)
  have f0 : 0 ≤ (-1) + (1 * τ 12804 + 0) := hf _ (List.Mem.head _)
  have f1 : 0 ≤ (-11) + (1 * τ 12805 + 0) := hf _ (List.Mem.tail _ (List.Mem.head _))
  have f2 : 0 ≤ 11 + ((-1) * τ 12805 + 0) := hf _ (List.Mem.tail _ (List.Mem.tail _ (List.Mem.head _)))
  have f3 : 0 ≤ (-1) + (1 * τ 19001 + 0) := hf _ (List.Mem.tail _ (List.Mem.tail _ (List.Mem.tail _ (List.Mem.head _))))
  have f4 : 0 ≤ 7 + ((-1) * τ 19001 + 0) := hf _ (List.Mem.tail _ (List.Mem.tail _ (List.Mem.tail _ (List.Mem.tail _ (List.Mem.head _)))))
  have f5 : 0 ≤ 0 + (1 * τ 19002 + 0) := hf _ (List.Mem.tail _ (List.Mem.tail _ (List.Mem.tail _ (List.Mem.tail _ (List.Mem.tail _ (List.Mem.head _))))))
  have f6 : 0 ≤ 6 + ((-1) * τ 19002 + 0) := hf _ (List.Mem.tail _ (List.Mem.tail _ (List.Mem.tail _ (List.Mem.tail _ (List.Mem.tail _ (List.Mem.tail _ (List.Mem.head _)))))))
  have f7 : 0 ≤ (-1) + (1 * τ 19001 + ((-1) * τ 19002 + 0)) := hf _ (List.Mem.tail _ (List.Mem.tail _ (List.Mem.tail _ (List.Mem.tail _ (List.Mem.tail _ (List.Mem.tail _ (List.Mem.tail _ (List.Mem.head _))))))))
  have f8 : 0 ≤ (-1) + (1 * τ 12804 + ((-1) * τ 19002 + 0)) := hf _ (List.Mem.tail _ (List.Mem.tail _ (List.Mem.tail _ (List.Mem.tail _ (List.Mem.tail _ (List.Mem.tail _ (List.Mem.tail _ (List.Mem.tail _ (List.Mem.head _)))))))))
  have f9 : 0 ≤ (-1) + (1 * τ 12804 + ((-1) * τ 19001 + 0)) := hf _ (List.Mem.tail _ (List.Mem.tail _ (List.Mem.tail _ (List.Mem.tail _ (List.Mem.tail _ (List.Mem.tail _ (List.Mem.tail _ (List.Mem.tail _ (List.Mem.tail _ (List.Mem.head _))))))))))
  have mM : σ' 12805 = 1 + (1 * τ 12805 + 0) := hm 12805 (by decide)
  have hk : (σ 12805).toNat = 11 := by omega
  rw [hk]
  exact Or.inl ⟨by omega, by omega, by omega, by omega, by omega, by omega, by omega, by omega, by omega, (fun m hm12 => (by
    rcases (show m = 0 ∨ m = 1 ∨ m = 2 ∨ m = 3 ∨ m = 4 ∨ m = 5 ∨ m = 6 ∨ m = 7 ∨ m = 8 ∨ m = 9 ∨ m = 10 ∨ m = 11 by omega) with rfl | rfl | rfl | rfl | rfl | rfl | rfl | rfl | rfl | rfl | rfl | rfl
    · rw [if_neg (by decide)]
      exact lw_id (hs _ (by decide)) (hm _ (by decide))
    · rw [if_neg (by decide)]
      exact lw_id (hs _ (by decide)) (hm _ (by decide))
    · rw [if_neg (by decide)]
      exact lw_id (hs _ (by decide)) (hm _ (by decide))
    · rw [if_neg (by decide)]
      exact lw_id (hs _ (by decide)) (hm _ (by decide))
    · rw [if_neg (by decide)]
      exact lw_id (hs _ (by decide)) (hm _ (by decide))
    · rw [if_neg (by decide)]
      exact lw_id (hs _ (by decide)) (hm _ (by decide))
    · rw [if_neg (by decide)]
      exact lw_id (hs _ (by decide)) (hm _ (by decide))
    · rw [if_neg (by decide)]
      exact lw_id (hs _ (by decide)) (hm _ (by decide))
    · rw [if_neg (by decide)]
      exact lw_id (hs _ (by decide)) (hm _ (by decide))
    · rw [if_neg (by decide)]
      exact lw_id (hs _ (by decide)) (hm _ (by decide))
    · rw [if_neg (by decide)]
      exact lw_id (hs _ (by decide)) (hm _ (by decide))
    · rw [if_pos rfl]
      have mk : σ' 18563 = 0 + (1 * τ 19001 + 0) := hm 18563 (by decide)
      show σ' 18563 = _
      omega)), (fun m hm12 => (by
    rcases (show m = 0 ∨ m = 1 ∨ m = 2 ∨ m = 3 ∨ m = 4 ∨ m = 5 ∨ m = 6 ∨ m = 7 ∨ m = 8 ∨ m = 9 ∨ m = 10 ∨ m = 11 by omega) with rfl | rfl | rfl | rfl | rfl | rfl | rfl | rfl | rfl | rfl | rfl | rfl
    · rw [if_neg (by decide)]
      exact lw_id (hs _ (by decide)) (hm _ (by decide))
    · rw [if_neg (by decide)]
      exact lw_id (hs _ (by decide)) (hm _ (by decide))
    · rw [if_neg (by decide)]
      exact lw_id (hs _ (by decide)) (hm _ (by decide))
    · rw [if_neg (by decide)]
      exact lw_id (hs _ (by decide)) (hm _ (by decide))
    · rw [if_neg (by decide)]
      exact lw_id (hs _ (by decide)) (hm _ (by decide))
    · rw [if_neg (by decide)]
      exact lw_id (hs _ (by decide)) (hm _ (by decide))
    · rw [if_neg (by decide)]
      exact lw_id (hs _ (by decide)) (hm _ (by decide))
    · rw [if_neg (by decide)]
      exact lw_id (hs _ (by decide)) (hm _ (by decide))
    · rw [if_neg (by decide)]
      exact lw_id (hs _ (by decide)) (hm _ (by decide))
    · rw [if_neg (by decide)]
      exact lw_id (hs _ (by decide)) (hm _ (by decide))
    · rw [if_neg (by decide)]
      exact lw_id (hs _ (by decide)) (hm _ (by decide))
    · rw [if_pos rfl]
      have mk : σ' 18575 = 0 + (1 * τ 19002 + 0) := hm 18575 (by decide)
      show σ' 18575 = _
      omega)), (fun m hm12 => (by
    rcases (show m = 0 ∨ m = 1 ∨ m = 2 ∨ m = 3 ∨ m = 4 ∨ m = 5 ∨ m = 6 ∨ m = 7 ∨ m = 8 ∨ m = 9 ∨ m = 10 ∨ m = 11 by omega) with rfl | rfl | rfl | rfl | rfl | rfl | rfl | rfl | rfl | rfl | rfl | rfl
    · rw [if_neg (by decide)]
      exact lw_id (hs _ (by decide)) (hm _ (by decide))
    · rw [if_neg (by decide)]
      exact lw_id (hs _ (by decide)) (hm _ (by decide))
    · rw [if_neg (by decide)]
      exact lw_id (hs _ (by decide)) (hm _ (by decide))
    · rw [if_neg (by decide)]
      exact lw_id (hs _ (by decide)) (hm _ (by decide))
    · rw [if_neg (by decide)]
      exact lw_id (hs _ (by decide)) (hm _ (by decide))
    · rw [if_neg (by decide)]
      exact lw_id (hs _ (by decide)) (hm _ (by decide))
    · rw [if_neg (by decide)]
      exact lw_id (hs _ (by decide)) (hm _ (by decide))
    · rw [if_neg (by decide)]
      exact lw_id (hs _ (by decide)) (hm _ (by decide))
    · rw [if_neg (by decide)]
      exact lw_id (hs _ (by decide)) (hm _ (by decide))
    · rw [if_neg (by decide)]
      exact lw_id (hs _ (by decide)) (hm _ (by decide))
    · rw [if_neg (by decide)]
      exact lw_id (hs _ (by decide)) (hm _ (by decide))
    · rw [if_pos rfl]
      have mk : σ' 18587 = 0 + (1 * τ 19003 + 0) := hm 18587 (by decide)
      show σ' 18587 = _
      omega))⟩
set_option maxHeartbeats 1000000 in
theorem lw_um_15 {as : List rv_A} {σ σ' : Nat → Int} {o : rv_O} {x : Int32} {a1 a2 a3 : Int} {τ : Nat → Int} (hx : o.1 = some (.inl x)) (h1 : lw_av as 1 = a1) (h2 : lw_av as 2 = a2) (h3 : lw_av as 3 = a3) (hb : ∀ s, (sx_sr s).1 ≤ σ s ∧ σ s ≤ (sx_sr s).2) (hW : lw_W ([], [((-1), [(12804, 1)]), ((-2), [(12805, 1)]), (2, [(12805, (-1))]), (0, [(19001, 1)]), (6, [(19001, (-1))]), ((-1), [(19002, 1)]), (7, [(19002, (-1))]), ((-1), [(19001, (-1)), (19002, 1)]), ((-1), [(12804, 1), (19002, (-1))]), ((-1), [(12804, 1), (19001, (-1))])], [(12800, (0, [])), (12805, (1, [(12805, 1)])), (18554, (0, [(19001, 1)])), (18566, (0, [(19002, 1)])), (18578, (0, [(19003, 1)]))], some (false, (1, []))) as σ σ' τ o) : lw_um_C a1 a2 a3 x.toInt σ σ' := by
  unfold lw_um_C
  obtain ⟨hs, ht, hf, hr, hm, hw⟩ := hW
  have e1 : τ 19001 = a1 := by rw [ht 19001 (by decide) (by decide)]; exact h1
  have e2 : τ 19002 = a2 := by rw [ht 19002 (by decide) (by decide)]; exact h2
  have e3 : τ 19003 = a3 := by rw [ht 19003 (by decide) (by decide)]; exact h3
  rw [hx] at hr
  obtain ⟨y, hy, hv⟩ := hr
  cases hy
  replace hv : x.toInt = 1 + 0 := hv
  have hb0 := hb 12805
  rw [show sx_sr 12805 = (0, 12) from by decide +kernel] at hb0
  have s12805 : τ 12805 = σ 12805 := hs 12805 (by decide)
  have s12804 : τ 12804 = σ 12804 := hs 12804 (by decide)
  have f0 : 0 ≤ (-1) + (1 * τ 12804 + 0) := hf _ (List.Mem.head _)
  have f1 : 0 ≤ (-2) + (1 * τ 12805 + 0) := hf _ (List.Mem.tail _ (List.Mem.head _))
  have f2 : 0 ≤ 2 + ((-1) * τ 12805 + 0) := hf _ (List.Mem.tail _ (List.Mem.tail _ (List.Mem.head _)))
  have f3 : 0 ≤ 0 + (1 * τ 19001 + 0) := hf _ (List.Mem.tail _ (List.Mem.tail _ (List.Mem.tail _ (List.Mem.head _))))
  have f4 : 0 ≤ 6 + ((-1) * τ 19001 + 0) := hf _ (List.Mem.tail _ (List.Mem.tail _ (List.Mem.tail _ (List.Mem.tail _ (List.Mem.head _)))))
  have f5 : 0 ≤ (-1) + (1 * τ 19002 + 0) := hf _ (List.Mem.tail _ (List.Mem.tail _ (List.Mem.tail _ (List.Mem.tail _ (List.Mem.tail _ (List.Mem.head _))))))
  have f6 : 0 ≤ 7 + ((-1) * τ 19002 + 0) := hf _ (List.Mem.tail _ (List.Mem.tail _ (List.Mem.tail _ (List.Mem.tail _ (List.Mem.tail _ (List.Mem.tail _ (List.Mem.head _)))))))
  have f7 : 0 ≤ (-1) + ((-1) * τ 19001 + (1 * τ 19002 + 0)) := hf _ (List.Mem.tail _ (List.Mem.tail _ (List.Mem.tail _ (List.Mem.tail _ (List.Mem.tail _ (List.Mem.tail _ (List.Mem.tail _ (List.Mem.head _))))))))
  have f8 : 0 ≤ (-1) + (1 * τ 12804 + ((-1) * τ 19002 + 0)) := hf _ (List.Mem.tail _ (List.Mem.tail _ (List.Mem.tail _ (List.Mem.tail _ (List.Mem.tail _ (List.Mem.tail _ (List.Mem.tail _ (List.Mem.tail _ (List.Mem.head _)))))))))
  have f9 : 0 ≤ (-1) + (1 * τ 12804 + ((-1) * τ 19001 + 0)) := hf _ (List.Mem.tail _ (List.Mem.tail _ (List.Mem.tail _ (List.Mem.tail _ (List.Mem.tail _ (List.Mem.tail _ (List.Mem.tail _ (List.Mem.tail _ (List.Mem.tail _ (List.Mem.head _))))))))))
  have mM : σ' 12805 = 1 + (1 * τ 12805 + 0) := hm 12805 (by decide)
  have hk : (σ 12805).toNat = 2 := by omega
  rw [hk]
  exact Or.inl ⟨by omega, by omega, by omega, by omega, by omega, by omega, by omega, by omega, by omega, (fun m hm12 => (by
    rcases (show m = 0 ∨ m = 1 ∨ m = 2 ∨ m = 3 ∨ m = 4 ∨ m = 5 ∨ m = 6 ∨ m = 7 ∨ m = 8 ∨ m = 9 ∨ m = 10 ∨ m = 11 by omega) with rfl | rfl | rfl | rfl | rfl | rfl | rfl | rfl | rfl | rfl | rfl | rfl
    · rw [if_neg (by decide)]
      exact lw_id (hs _ (by decide)) (hm _ (by decide))
    · rw [if_neg (by decide)]
      exact lw_id (hs _ (by decide)) (hm _ (by decide))
    · rw [if_pos rfl]
      have mk : σ' 18554 = 0 + (1 * τ 19001 + 0) := hm 18554 (by decide)
      show σ' 18554 = _
      omega
    · rw [if_neg (by decide)]
      exact lw_id (hs _ (by decide)) (hm _ (by decide))
    · rw [if_neg (by decide)]
      exact lw_id (hs _ (by decide)) (hm _ (by decide))
    · rw [if_neg (by decide)]
      exact lw_id (hs _ (by decide)) (hm _ (by decide))
    · rw [if_neg (by decide)]
      exact lw_id (hs _ (by decide)) (hm _ (by decide))
    · rw [if_neg (by decide)]
      exact lw_id (hs _ (by decide)) (hm _ (by decide))
    · rw [if_neg (by decide)]
      exact lw_id (hs _ (by decide)) (hm _ (by decide))
    · rw [if_neg (by decide)]
      exact lw_id (hs _ (by decide)) (hm _ (by decide))
    · rw [if_neg (by decide)]
      exact lw_id (hs _ (by decide)) (hm _ (by decide))
    · rw [if_neg (by decide)]
      exact lw_id (hs _ (by decide)) (hm _ (by decide)))), (fun m hm12 => (by
    rcases (show m = 0 ∨ m = 1 ∨ m = 2 ∨ m = 3 ∨ m = 4 ∨ m = 5 ∨ m = 6 ∨ m = 7 ∨ m = 8 ∨ m = 9 ∨ m = 10 ∨ m = 11 by omega) with rfl | rfl | rfl | rfl | rfl | rfl | rfl | rfl | rfl | rfl | rfl | rfl
    · rw [if_neg (by decide)]
      exact lw_id (hs _ (by decide)) (hm _ (by decide))
    · rw [if_neg (by decide)]
      exact lw_id (hs _ (by decide)) (hm _ (by decide))
    · rw [if_pos rfl]
      have mk : σ' 18566 = 0 + (1 * τ 19002 + 0) := hm 18566 (by decide)
      show σ' 18566 = _
      omega
    · rw [if_neg (by decide)]
      exact lw_id (hs _ (by decide)) (hm _ (by decide))
    · rw [if_neg (by decide)]
      exact lw_id (hs _ (by decide)) (hm _ (by decide))
    · rw [if_neg (by decide)]
      exact lw_id (hs _ (by decide)) (hm _ (by decide))
    · rw [if_neg (by decide)]
      exact lw_id (hs _ (by decide)) (hm _ (by decide))
    · rw [if_neg (by decide)]
      exact lw_id (hs _ (by decide)) (hm _ (by decide))
    · rw [if_neg (by decide)]
      exact lw_id (hs _ (by decide)) (hm _ (by decide))
    · rw [if_neg (by decide)]
      exact lw_id (hs _ (by decide)) (hm _ (by decide))
    · rw [if_neg (by decide)]
      exact lw_id (hs _ (by decide)) (hm _ (by decide))
    · rw [if_neg (by decide)]
      exact lw_id (hs _ (by decide)) (hm _ (by decide)))), (fun m hm12 => (by
    rcases (show m = 0 ∨ m = 1 ∨ m = 2 ∨ m = 3 ∨ m = 4 ∨ m = 5 ∨ m = 6 ∨ m = 7 ∨ m = 8 ∨ m = 9 ∨ m = 10 ∨ m = 11 by omega) with rfl | rfl | rfl | rfl | rfl | rfl | rfl | rfl | rfl | rfl | rfl | rfl
    · rw [if_neg (by decide)]
      exact lw_id (hs _ (by decide)) (hm _ (by decide))
    · rw [if_neg (by decide)]
      exact lw_id (hs _ (by decide)) (hm _ (by decide))
    · rw [if_pos rfl]
      have mk : σ' 18578 = 0 + (1 * τ 19003 + 0) := hm 18578 (by decide)
      show σ' 18578 = _
      omega
    · rw [if_neg (by decide)]
      exact lw_id (hs _ (by decide)) (hm _ (by decide))
    · rw [if_neg (by decide)]
      exact lw_id (hs _ (by decide)) (hm _ (by decide))
    · rw [if_neg (by decide)]
      exact lw_id (hs _ (by decide)) (hm _ (by decide))
    · rw [if_neg (by decide)]
      exact lw_id (hs _ (by decide)) (hm _ (by decide))
    · rw [if_neg (by decide)]
      exact lw_id (hs _ (by decide)) (hm _ (by decide))
    · rw [if_neg (by decide)]
      exact lw_id (hs _ (by decide)) (hm _ (by decide))
    · rw [if_neg (by decide)]
      exact lw_id (hs _ (by decide)) (hm _ (by decide))
    · rw [if_neg (by decide)]
      exact lw_id (hs _ (by decide)) (hm _ (by decide))
    · rw [if_neg (by decide)]
      exact lw_id (hs _ (by decide)) (hm _ (by decide))))⟩
set_option maxHeartbeats 1000000 in
theorem lw_um_16 {as : List rv_A} {σ σ' : Nat → Int} {o : rv_O} {x : Int32} {a1 a2 a3 : Int} {τ : Nat → Int} (hx : o.1 = some (.inl x)) (h1 : lw_av as 1 = a1) (h2 : lw_av as 2 = a2) (h3 : lw_av as 3 = a3) (hb : ∀ s, (sx_sr s).1 ≤ σ s ∧ σ s ≤ (sx_sr s).2) (hW : lw_W ([], [((-1), [(12804, 1)]), ((-2), [(12805, 1)]), (2, [(12805, (-1))]), ((-1), [(19001, 1)]), (7, [(19001, (-1))]), (0, [(19002, 1)]), (6, [(19002, (-1))]), ((-1), [(19001, 1), (19002, (-1))]), ((-1), [(12804, 1), (19002, (-1))]), ((-1), [(12804, 1), (19001, (-1))])], [(12800, (0, [])), (12805, (1, [(12805, 1)])), (18554, (0, [(19001, 1)])), (18566, (0, [(19002, 1)])), (18578, (0, [(19003, 1)]))], some (false, (1, []))) as σ σ' τ o) : lw_um_C a1 a2 a3 x.toInt σ σ' := by
  unfold lw_um_C
  obtain ⟨hs, ht, hf, hr, hm, hw⟩ := hW
  have e1 : τ 19001 = a1 := by rw [ht 19001 (by decide) (by decide)]; exact h1
  have e2 : τ 19002 = a2 := by rw [ht 19002 (by decide) (by decide)]; exact h2
  have e3 : τ 19003 = a3 := by rw [ht 19003 (by decide) (by decide)]; exact h3
  rw [hx] at hr
  obtain ⟨y, hy, hv⟩ := hr
  cases hy
  replace hv : x.toInt = 1 + 0 := hv
  have hb0 := hb 12805
  rw [show sx_sr 12805 = (0, 12) from by decide +kernel] at hb0
  have s12805 : τ 12805 = σ 12805 := hs 12805 (by decide)
  have s12804 : τ 12804 = σ 12804 := hs 12804 (by decide)
  have f0 : 0 ≤ (-1) + (1 * τ 12804 + 0) := hf _ (List.Mem.head _)
  have f1 : 0 ≤ (-2) + (1 * τ 12805 + 0) := hf _ (List.Mem.tail _ (List.Mem.head _))
  have f2 : 0 ≤ 2 + ((-1) * τ 12805 + 0) := hf _ (List.Mem.tail _ (List.Mem.tail _ (List.Mem.head _)))
  have f3 : 0 ≤ (-1) + (1 * τ 19001 + 0) := hf _ (List.Mem.tail _ (List.Mem.tail _ (List.Mem.tail _ (List.Mem.head _))))
  have f4 : 0 ≤ 7 + ((-1) * τ 19001 + 0) := hf _ (List.Mem.tail _ (List.Mem.tail _ (List.Mem.tail _ (List.Mem.tail _ (List.Mem.head _)))))
  have f5 : 0 ≤ 0 + (1 * τ 19002 + 0) := hf _ (List.Mem.tail _ (List.Mem.tail _ (List.Mem.tail _ (List.Mem.tail _ (List.Mem.tail _ (List.Mem.head _))))))
  have f6 : 0 ≤ 6 + ((-1) * τ 19002 + 0) := hf _ (List.Mem.tail _ (List.Mem.tail _ (List.Mem.tail _ (List.Mem.tail _ (List.Mem.tail _ (List.Mem.tail _ (List.Mem.head _)))))))
  have f7 : 0 ≤ (-1) + (1 * τ 19001 + ((-1) * τ 19002 + 0)) := hf _ (List.Mem.tail _ (List.Mem.tail _ (List.Mem.tail _ (List.Mem.tail _ (List.Mem.tail _ (List.Mem.tail _ (List.Mem.tail _ (List.Mem.head _))))))))
  have f8 : 0 ≤ (-1) + (1 * τ 12804 + ((-1) * τ 19002 + 0)) := hf _ (List.Mem.tail _ (List.Mem.tail _ (List.Mem.tail _ (List.Mem.tail _ (List.Mem.tail _ (List.Mem.tail _ (List.Mem.tail _ (List.Mem.tail _ (List.Mem.head _)))))))))
  have f9 : 0 ≤ (-1) + (1 * τ 12804 + ((-1) * τ 19001 + 0)) := hf _ (List.Mem.tail _ (List.Mem.tail _ (List.Mem.tail _ (List.Mem.tail _ (List.Mem.tail _ (List.Mem.tail _ (List.Mem.tail _ (List.Mem.tail _ (List.Mem.tail _ (List.Mem.head _))))))))))
  have mM : σ' 12805 = 1 + (1 * τ 12805 + 0) := hm 12805 (by decide)
  have hk : (σ 12805).toNat = 2 := by omega
  rw [hk]
  exact Or.inl ⟨by omega, by omega, by omega, by omega, by omega, by omega, by omega, by omega, by omega, (fun m hm12 => (by
    rcases (show m = 0 ∨ m = 1 ∨ m = 2 ∨ m = 3 ∨ m = 4 ∨ m = 5 ∨ m = 6 ∨ m = 7 ∨ m = 8 ∨ m = 9 ∨ m = 10 ∨ m = 11 by omega) with rfl | rfl | rfl | rfl | rfl | rfl | rfl | rfl | rfl | rfl | rfl | rfl
    · rw [if_neg (by decide)]
      exact lw_id (hs _ (by decide)) (hm _ (by decide))
    · rw [if_neg (by decide)]
      exact lw_id (hs _ (by decide)) (hm _ (by decide))
    · rw [if_pos rfl]
      have mk : σ' 18554 = 0 + (1 * τ 19001 + 0) := hm 18554 (by decide)
      show σ' 18554 = _
      omega
    · rw [if_neg (by decide)]
      exact lw_id (hs _ (by decide)) (hm _ (by decide))
    · rw [if_neg (by decide)]
      exact lw_id (hs _ (by decide)) (hm _ (by decide))
    · rw [if_neg (by decide)]
      exact lw_id (hs _ (by decide)) (hm _ (by decide))
    · rw [if_neg (by decide)]
      exact lw_id (hs _ (by decide)) (hm _ (by decide))
    · rw [if_neg (by decide)]
      exact lw_id (hs _ (by decide)) (hm _ (by decide))
    · rw [if_neg (by decide)]
      exact lw_id (hs _ (by decide)) (hm _ (by decide))
    · rw [if_neg (by decide)]
      exact lw_id (hs _ (by decide)) (hm _ (by decide))
    · rw [if_neg (by decide)]
      exact lw_id (hs _ (by decide)) (hm _ (by decide))
    · rw [if_neg (by decide)]
      exact lw_id (hs _ (by decide)) (hm _ (by decide)))), (fun m hm12 => (by
    rcases (show m = 0 ∨ m = 1 ∨ m = 2 ∨ m = 3 ∨ m = 4 ∨ m = 5 ∨ m = 6 ∨ m = 7 ∨ m = 8 ∨ m = 9 ∨ m = 10 ∨ m = 11 by omega) with rfl | rfl | rfl | rfl | rfl | rfl | rfl | rfl | rfl | rfl | rfl | rfl
    · rw [if_neg (by decide)]
      exact lw_id (hs _ (by decide)) (hm _ (by decide))
    · rw [if_neg (by decide)]
      exact lw_id (hs _ (by decide)) (hm _ (by decide))
    · rw [if_pos rfl]
      have mk : σ' 18566 = 0 + (1 * τ 19002 + 0) := hm 18566 (by decide)
      show σ' 18566 = _
      omega
    · rw [if_neg (by decide)]
      exact lw_id (hs _ (by decide)) (hm _ (by decide))
    · rw [if_neg (by decide)]
      exact lw_id (hs _ (by decide)) (hm _ (by decide))
    · rw [if_neg (by decide)]
      exact lw_id (hs _ (by decide)) (hm _ (by decide))
    · rw [if_neg (by decide)]
      exact lw_id (hs _ (by decide)) (hm _ (by decide))
    · rw [if_neg (by decide)]
      exact lw_id (hs _ (by decide)) (hm _ (by decide))
    · rw [if_neg (by decide)]
      exact lw_id (hs _ (by decide)) (hm _ (by decide))
    · rw [if_neg (by decide)]
      exact lw_id (hs _ (by decide)) (hm _ (by decide))
    · rw [if_neg (by decide)]
      exact lw_id (hs _ (by decide)) (hm _ (by decide))
    · rw [if_neg (by decide)]
      exact lw_id (hs _ (by decide)) (hm _ (by decide)))), (fun m hm12 => (by
    rcases (show m = 0 ∨ m = 1 ∨ m = 2 ∨ m = 3 ∨ m = 4 ∨ m = 5 ∨ m = 6 ∨ m = 7 ∨ m = 8 ∨ m = 9 ∨ m = 10 ∨ m = 11 by omega) with rfl | rfl | rfl | rfl | rfl | rfl | rfl | rfl | rfl | rfl | rfl | rfl
    · rw [if_neg (by decide)]
      exact lw_id (hs _ (by decide)) (hm _ (by decide))
    · rw [if_neg (by decide)]
      exact lw_id (hs _ (by decide)) (hm _ (by decide))
    · rw [if_pos rfl]
      have mk : σ' 18578 = 0 + (1 * τ 19003 + 0) := hm 18578 (by decide)
      show σ' 18578 = _
      omega
    · rw [if_neg (by decide)]
      exact lw_id (hs _ (by decide)) (hm _ (by decide))
    · rw [if_neg (by decide)]
      exact lw_id (hs _ (by decide)) (hm _ (by decide))
    · rw [if_neg (by decide)]
      exact lw_id (hs _ (by decide)) (hm _ (by decide))
    · rw [if_neg (by decide)]
      exact lw_id (hs _ (by decide)) (hm _ (by decide))
    · rw [if_neg (by decide)]
      exact lw_id (hs _ (by decide)) (hm _ (by decide))
    · rw [if_neg (by decide)]
      exact lw_id (hs _ (by decide)) (hm _ (by decide))
    · rw [if_neg (by decide)]
      exact lw_id (hs _ (by decide)) (hm _ (by decide))
    · rw [if_neg (by decide)]
      exact lw_id (hs _ (by decide)) (hm _ (by decide))
    · rw [if_neg (by decide)]
      exact lw_id (hs _ (by decide)) (hm _ (by decide))))⟩
set_option maxHeartbeats 1000000 in
theorem lw_um_17 {as : List rv_A} {σ σ' : Nat → Int} {o : rv_O} {x : Int32} {a1 a2 a3 : Int} {τ : Nat → Int} (hx : o.1 = some (.inl x)) (h1 : lw_av as 1 = a1) (h2 : lw_av as 2 = a2) (h3 : lw_av as 3 = a3) (hb : ∀ s, (sx_sr s).1 ≤ σ s ∧ σ s ≤ (sx_sr s).2) (hW : lw_W ([], [((-1), [(12804, 1)]), ((-3), [(12805, 1)]), (3, [(12805, (-1))]), (0, [(19001, 1)]), (6, [(19001, (-1))]), ((-1), [(19002, 1)]), (7, [(19002, (-1))]), ((-1), [(19001, (-1)), (19002, 1)]), ((-1), [(12804, 1), (19002, (-1))]), ((-1), [(12804, 1), (19001, (-1))])], [(12800, (0, [])), (12805, (1, [(12805, 1)])), (18555, (0, [(19001, 1)])), (18567, (0, [(19002, 1)])), (18579, (0, [(19003, 1)]))], some (false, (1, []))) as σ σ' τ o) : lw_um_C a1 a2 a3 x.toInt σ σ' := by
  unfold lw_um_C
  obtain ⟨hs, ht, hf, hr, hm, hw⟩ := hW
  have e1 : τ 19001 = a1 := by rw [ht 19001 (by decide) (by decide)]; exact h1
  have e2 : τ 19002 = a2 := by rw [ht 19002 (by decide) (by decide)]; exact h2
  have e3 : τ 19003 = a3 := by rw [ht 19003 (by decide) (by decide)]; exact h3
  rw [hx] at hr
  obtain ⟨y, hy, hv⟩ := hr
  cases hy
  replace hv : x.toInt = 1 + 0 := hv
  have hb0 := hb 12805
  rw [show sx_sr 12805 = (0, 12) from by decide +kernel] at hb0
  have s12805 : τ 12805 = σ 12805 := hs 12805 (by decide)
  have s12804 : τ 12804 = σ 12804 := hs 12804 (by decide)
  have f0 : 0 ≤ (-1) + (1 * τ 12804 + 0) := hf _ (List.Mem.head _)
  have f1 : 0 ≤ (-3) + (1 * τ 12805 + 0) := hf _ (List.Mem.tail _ (List.Mem.head _))
  have f2 : 0 ≤ 3 + ((-1) * τ 12805 + 0) := hf _ (List.Mem.tail _ (List.Mem.tail _ (List.Mem.head _)))
  have f3 : 0 ≤ 0 + (1 * τ 19001 + 0) := hf _ (List.Mem.tail _ (List.Mem.tail _ (List.Mem.tail _ (List.Mem.head _))))
  have f4 : 0 ≤ 6 + ((-1) * τ 19001 + 0) := hf _ (List.Mem.tail _ (List.Mem.tail _ (List.Mem.tail _ (List.Mem.tail _ (List.Mem.head _)))))
  have f5 : 0 ≤ (-1) + (1 * τ 19002 + 0) := hf _ (List.Mem.tail _ (List.Mem.tail _ (List.Mem.tail _ (List.Mem.tail _ (List.Mem.tail _ (List.Mem.head _))))))
  have f6 : 0 ≤ 7 + ((-1) * τ 19002 + 0) := hf _ (List.Mem.tail _ (List.Mem.tail _ (List.Mem.tail _ (List.Mem.tail _ (List.Mem.tail _ (List.Mem.tail _ (List.Mem.head _)))))))
  have f7 : 0 ≤ (-1) + ((-1) * τ 19001 + (1 * τ 19002 + 0)) := hf _ (List.Mem.tail _ (List.Mem.tail _ (List.Mem.tail _ (List.Mem.tail _ (List.Mem.tail _ (List.Mem.tail _ (List.Mem.tail _ (List.Mem.head _))))))))
  have f8 : 0 ≤ (-1) + (1 * τ 12804 + ((-1) * τ 19002 + 0)) := hf _ (List.Mem.tail _ (List.Mem.tail _ (List.Mem.tail _ (List.Mem.tail _ (List.Mem.tail _ (List.Mem.tail _ (List.Mem.tail _ (List.Mem.tail _ (List.Mem.head _)))))))))
  have f9 : 0 ≤ (-1) + (1 * τ 12804 + ((-1) * τ 19001 + 0)) := hf _ (List.Mem.tail _ (List.Mem.tail _ (List.Mem.tail _ (List.Mem.tail _ (List.Mem.tail _ (List.Mem.tail _ (List.Mem.tail _ (List.Mem.tail _ (List.Mem.tail _ (List.Mem.head _))))))))))
  have mM : σ' 12805 = 1 + (1 * τ 12805 + 0) := hm 12805 (by decide)
  have hk : (σ 12805).toNat = 3 := by omega
  rw [hk]
  exact Or.inl ⟨by omega, by omega, by omega, by omega, by omega, by omega, by omega, by omega, by omega, (fun m hm12 => (by
    rcases (show m = 0 ∨ m = 1 ∨ m = 2 ∨ m = 3 ∨ m = 4 ∨ m = 5 ∨ m = 6 ∨ m = 7 ∨ m = 8 ∨ m = 9 ∨ m = 10 ∨ m = 11 by omega) with rfl | rfl | rfl | rfl | rfl | rfl | rfl | rfl | rfl | rfl | rfl | rfl
    · rw [if_neg (by decide)]
      exact lw_id (hs _ (by decide)) (hm _ (by decide))
    · rw [if_neg (by decide)]
      exact lw_id (hs _ (by decide)) (hm _ (by decide))
    · rw [if_neg (by decide)]
      exact lw_id (hs _ (by decide)) (hm _ (by decide))
    · rw [if_pos rfl]
      have mk : σ' 18555 = 0 + (1 * τ 19001 + 0) := hm 18555 (by decide)
      show σ' 18555 = _
      omega
    · rw [if_neg (by decide)]
      exact lw_id (hs _ (by decide)) (hm _ (by decide))
    · rw [if_neg (by decide)]
      exact lw_id (hs _ (by decide)) (hm _ (by decide))
    · rw [if_neg (by decide)]
      exact lw_id (hs _ (by decide)) (hm _ (by decide))
    · rw [if_neg (by decide)]
      exact lw_id (hs _ (by decide)) (hm _ (by decide))
    · rw [if_neg (by decide)]
      exact lw_id (hs _ (by decide)) (hm _ (by decide))
    · rw [if_neg (by decide)]
      exact lw_id (hs _ (by decide)) (hm _ (by decide))
    · rw [if_neg (by decide)]
      exact lw_id (hs _ (by decide)) (hm _ (by decide))
    · rw [if_neg (by decide)]
      exact lw_id (hs _ (by decide)) (hm _ (by decide)))), (fun m hm12 => (by
    rcases (show m = 0 ∨ m = 1 ∨ m = 2 ∨ m = 3 ∨ m = 4 ∨ m = 5 ∨ m = 6 ∨ m = 7 ∨ m = 8 ∨ m = 9 ∨ m = 10 ∨ m = 11 by omega) with rfl | rfl | rfl | rfl | rfl | rfl | rfl | rfl | rfl | rfl | rfl | rfl
    · rw [if_neg (by decide)]
      exact lw_id (hs _ (by decide)) (hm _ (by decide))
    · rw [if_neg (by decide)]
      exact lw_id (hs _ (by decide)) (hm _ (by decide))
    · rw [if_neg (by decide)]
      exact lw_id (hs _ (by decide)) (hm _ (by decide))
    · rw [if_pos rfl]
      have mk : σ' 18567 = 0 + (1 * τ 19002 + 0) := hm 18567 (by decide)
      show σ' 18567 = _
      omega
    · rw [if_neg (by decide)]
      exact lw_id (hs _ (by decide)) (hm _ (by decide))
    · rw [if_neg (by decide)]
      exact lw_id (hs _ (by decide)) (hm _ (by decide))
    · rw [if_neg (by decide)]
      exact lw_id (hs _ (by decide)) (hm _ (by decide))
    · rw [if_neg (by decide)]
      exact lw_id (hs _ (by decide)) (hm _ (by decide))
    · rw [if_neg (by decide)]
      exact lw_id (hs _ (by decide)) (hm _ (by decide))
    · rw [if_neg (by decide)]
      exact lw_id (hs _ (by decide)) (hm _ (by decide))
    · rw [if_neg (by decide)]
      exact lw_id (hs _ (by decide)) (hm _ (by decide))
    · rw [if_neg (by decide)]
      exact lw_id (hs _ (by decide)) (hm _ (by decide)))), (fun m hm12 => (by
    rcases (show m = 0 ∨ m = 1 ∨ m = 2 ∨ m = 3 ∨ m = 4 ∨ m = 5 ∨ m = 6 ∨ m = 7 ∨ m = 8 ∨ m = 9 ∨ m = 10 ∨ m = 11 by omega) with rfl | rfl | rfl | rfl | rfl | rfl | rfl | rfl | rfl | rfl | rfl | rfl
    · rw [if_neg (by decide)]
      exact lw_id (hs _ (by decide)) (hm _ (by decide))
    · rw [if_neg (by decide)]
      exact lw_id (hs _ (by decide)) (hm _ (by decide))
    · rw [if_neg (by decide)]
      exact lw_id (hs _ (by decide)) (hm _ (by decide))
    · rw [if_pos rfl]
      have mk : σ' 18579 = 0 + (1 * τ 19003 + 0) := hm 18579 (by decide)
      show σ' 18579 = _
      omega
    · rw [if_neg (by decide)]
      exact lw_id (hs _ (by decide)) (hm _ (by decide))
    · rw [if_neg (by decide)]
      exact lw_id (hs _ (by decide)) (hm _ (by decide))
    · rw [if_neg (by decide)]
      exact lw_id (hs _ (by decide)) (hm _ (by decide))
    · rw [if_neg (by decide)]
      exact lw_id (hs _ (by decide)) (hm _ (by decide))
    · rw [if_neg (by decide)]
      exact lw_id (hs _ (by decide)) (hm _ (by decide))
    · rw [if_neg (by decide)]
      exact lw_id (hs _ (by decide)) (hm _ (by decide))
    · rw [if_neg (by decide)]
      exact lw_id (hs _ (by decide)) (hm _ (by decide))
    · rw [if_neg (by decide)]
      exact lw_id (hs _ (by decide)) (hm _ (by decide))))⟩
set_option maxHeartbeats 1000000 in
theorem lw_um_18 {as : List rv_A} {σ σ' : Nat → Int} {o : rv_O} {x : Int32} {a1 a2 a3 : Int} {τ : Nat → Int} (hx : o.1 = some (.inl x)) (h1 : lw_av as 1 = a1) (h2 : lw_av as 2 = a2) (h3 : lw_av as 3 = a3) (hb : ∀ s, (sx_sr s).1 ≤ σ s ∧ σ s ≤ (sx_sr s).2) (hW : lw_W ([], [((-1), [(12804, 1)]), ((-3), [(12805, 1)]), (3, [(12805, (-1))]), ((-1), [(19001, 1)]), (7, [(19001, (-1))]), (0, [(19002, 1)]), (6, [(19002, (-1))]), ((-1), [(19001, 1), (19002, (-1))]), ((-1), [(12804, 1), (19002, (-1))]), ((-1), [(12804, 1), (19001, (-1))])], [(12800, (0, [])), (12805, (1, [(12805, 1)])), (18555, (0, [(19001, 1)])), (18567, (0, [(19002, 1)])), (18579, (0, [(19003, 1)]))], some (false, (1, []))) as σ σ' τ o) : lw_um_C a1 a2 a3 x.toInt σ σ' := by
  unfold lw_um_C
  obtain ⟨hs, ht, hf, hr, hm, hw⟩ := hW
  have e1 : τ 19001 = a1 := by rw [ht 19001 (by decide) (by decide)]; exact h1
  have e2 : τ 19002 = a2 := by rw [ht 19002 (by decide) (by decide)]; exact h2
  have e3 : τ 19003 = a3 := by rw [ht 19003 (by decide) (by decide)]; exact h3
  rw [hx] at hr
  obtain ⟨y, hy, hv⟩ := hr
  cases hy
  replace hv : x.toInt = 1 + 0 := hv
  have hb0 := hb 12805
  rw [show sx_sr 12805 = (0, 12) from by decide +kernel] at hb0
  have s12805 : τ 12805 = σ 12805 := hs 12805 (by decide)
  have s12804 : τ 12804 = σ 12804 := hs 12804 (by decide)
  have f0 : 0 ≤ (-1) + (1 * τ 12804 + 0) := hf _ (List.Mem.head _)
  have f1 : 0 ≤ (-3) + (1 * τ 12805 + 0) := hf _ (List.Mem.tail _ (List.Mem.head _))
  have f2 : 0 ≤ 3 + ((-1) * τ 12805 + 0) := hf _ (List.Mem.tail _ (List.Mem.tail _ (List.Mem.head _)))
  have f3 : 0 ≤ (-1) + (1 * τ 19001 + 0) := hf _ (List.Mem.tail _ (List.Mem.tail _ (List.Mem.tail _ (List.Mem.head _))))
  have f4 : 0 ≤ 7 + ((-1) * τ 19001 + 0) := hf _ (List.Mem.tail _ (List.Mem.tail _ (List.Mem.tail _ (List.Mem.tail _ (List.Mem.head _)))))
  have f5 : 0 ≤ 0 + (1 * τ 19002 + 0) := hf _ (List.Mem.tail _ (List.Mem.tail _ (List.Mem.tail _ (List.Mem.tail _ (List.Mem.tail _ (List.Mem.head _))))))
  have f6 : 0 ≤ 6 + ((-1) * τ 19002 + 0) := hf _ (List.Mem.tail _ (List.Mem.tail _ (List.Mem.tail _ (List.Mem.tail _ (List.Mem.tail _ (List.Mem.tail _ (List.Mem.head _)))))))
  have f7 : 0 ≤ (-1) + (1 * τ 19001 + ((-1) * τ 19002 + 0)) := hf _ (List.Mem.tail _ (List.Mem.tail _ (List.Mem.tail _ (List.Mem.tail _ (List.Mem.tail _ (List.Mem.tail _ (List.Mem.tail _ (List.Mem.head _))))))))
  have f8 : 0 ≤ (-1) + (1 * τ 12804 + ((-1) * τ 19002 + 0)) := hf _ (List.Mem.tail _ (List.Mem.tail _ (List.Mem.tail _ (List.Mem.tail _ (List.Mem.tail _ (List.Mem.tail _ (List.Mem.tail _ (List.Mem.tail _ (List.Mem.head _)))))))))
  have f9 : 0 ≤ (-1) + (1 * τ 12804 + ((-1) * τ 19001 + 0)) := hf _ (List.Mem.tail _ (List.Mem.tail _ (List.Mem.tail _ (List.Mem.tail _ (List.Mem.tail _ (List.Mem.tail _ (List.Mem.tail _ (List.Mem.tail _ (List.Mem.tail _ (List.Mem.head _))))))))))
  have mM : σ' 12805 = 1 + (1 * τ 12805 + 0) := hm 12805 (by decide)
  have hk : (σ 12805).toNat = 3 := by omega
  rw [hk]
  exact Or.inl ⟨by omega, by omega, by omega, by omega, by omega, by omega, by omega, by omega, by omega, (fun m hm12 => (by
    rcases (show m = 0 ∨ m = 1 ∨ m = 2 ∨ m = 3 ∨ m = 4 ∨ m = 5 ∨ m = 6 ∨ m = 7 ∨ m = 8 ∨ m = 9 ∨ m = 10 ∨ m = 11 by omega) with rfl | rfl | rfl | rfl | rfl | rfl | rfl | rfl | rfl | rfl | rfl | rfl
    · rw [if_neg (by decide)]
      exact lw_id (hs _ (by decide)) (hm _ (by decide))
    · rw [if_neg (by decide)]
      exact lw_id (hs _ (by decide)) (hm _ (by decide))
    · rw [if_neg (by decide)]
      exact lw_id (hs _ (by decide)) (hm _ (by decide))
    · rw [if_pos rfl]
      have mk : σ' 18555 = 0 + (1 * τ 19001 + 0) := hm 18555 (by decide)
      show σ' 18555 = _
      omega
    · rw [if_neg (by decide)]
      exact lw_id (hs _ (by decide)) (hm _ (by decide))
    · rw [if_neg (by decide)]
      exact lw_id (hs _ (by decide)) (hm _ (by decide))
    · rw [if_neg (by decide)]
      exact lw_id (hs _ (by decide)) (hm _ (by decide))
    · rw [if_neg (by decide)]
      exact lw_id (hs _ (by decide)) (hm _ (by decide))
    · rw [if_neg (by decide)]
      exact lw_id (hs _ (by decide)) (hm _ (by decide))
    · rw [if_neg (by decide)]
      exact lw_id (hs _ (by decide)) (hm _ (by decide))
    · rw [if_neg (by decide)]
      exact lw_id (hs _ (by decide)) (hm _ (by decide))
    · rw [if_neg (by decide)]
      exact lw_id (hs _ (by decide)) (hm _ (by decide)))), (fun m hm12 => (by
    rcases (show m = 0 ∨ m = 1 ∨ m = 2 ∨ m = 3 ∨ m = 4 ∨ m = 5 ∨ m = 6 ∨ m = 7 ∨ m = 8 ∨ m = 9 ∨ m = 10 ∨ m = 11 by omega) with rfl | rfl | rfl | rfl | rfl | rfl | rfl | rfl | rfl | rfl | rfl | rfl
    · rw [if_neg (by decide)]
      exact lw_id (hs _ (by decide)) (hm _ (by decide))
    · rw [if_neg (by decide)]
      exact lw_id (hs _ (by decide)) (hm _ (by decide))
    · rw [if_neg (by decide)]
      exact lw_id (hs _ (by decide)) (hm _ (by decide))
    · rw [if_pos rfl]
      have mk : σ' 18567 = 0 + (1 * τ 19002 + 0) := hm 18567 (by decide)
      show σ' 18567 = _
      omega
    · rw [if_neg (by decide)]
      exact lw_id (hs _ (by decide)) (hm _ (by decide))
    · rw [if_neg (by decide)]
      exact lw_id (hs _ (by decide)) (hm _ (by decide))
    · rw [if_neg (by decide)]
      exact lw_id (hs _ (by decide)) (hm _ (by decide))
    · rw [if_neg (by decide)]
      exact lw_id (hs _ (by decide)) (hm _ (by decide))
    · rw [if_neg (by decide)]
      exact lw_id (hs _ (by decide)) (hm _ (by decide))
    · rw [if_neg (by decide)]
      exact lw_id (hs _ (by decide)) (hm _ (by decide))
    · rw [if_neg (by decide)]
      exact lw_id (hs _ (by decide)) (hm _ (by decide))
    · rw [if_neg (by decide)]
      exact lw_id (hs _ (by decide)) (hm _ (by decide)))), (fun m hm12 => (by
    rcases (show m = 0 ∨ m = 1 ∨ m = 2 ∨ m = 3 ∨ m = 4 ∨ m = 5 ∨ m = 6 ∨ m = 7 ∨ m = 8 ∨ m = 9 ∨ m = 10 ∨ m = 11 by omega) with rfl | rfl | rfl | rfl | rfl | rfl | rfl | rfl | rfl | rfl | rfl | rfl
    · rw [if_neg (by decide)]
      exact lw_id (hs _ (by decide)) (hm _ (by decide))
    · rw [if_neg (by decide)]
      exact lw_id (hs _ (by decide)) (hm _ (by decide))
    · rw [if_neg (by decide)]
      exact lw_id (hs _ (by decide)) (hm _ (by decide))
    · rw [if_pos rfl]
      have mk : σ' 18579 = 0 + (1 * τ 19003 + 0) := hm 18579 (by decide)
      show σ' 18579 = _
      omega
    · rw [if_neg (by decide)]
      exact lw_id (hs _ (by decide)) (hm _ (by decide))
    · rw [if_neg (by decide)]
      exact lw_id (hs _ (by decide)) (hm _ (by decide))
    · rw [if_neg (by decide)]
      exact lw_id (hs _ (by decide)) (hm _ (by decide))
    · rw [if_neg (by decide)]
      exact lw_id (hs _ (by decide)) (hm _ (by decide))
    · rw [if_neg (by decide)]
      exact lw_id (hs _ (by decide)) (hm _ (by decide))
    · rw [if_neg (by decide)]
      exact lw_id (hs _ (by decide)) (hm _ (by decide))
    · rw [if_neg (by decide)]
      exact lw_id (hs _ (by decide)) (hm _ (by decide))
    · rw [if_neg (by decide)]
      exact lw_id (hs _ (by decide)) (hm _ (by decide))))⟩
set_option maxHeartbeats 1000000 in
theorem lw_um_19 {as : List rv_A} {σ σ' : Nat → Int} {o : rv_O} {x : Int32} {a1 a2 a3 : Int} {τ : Nat → Int} (hx : o.1 = some (.inl x)) (h1 : lw_av as 1 = a1) (h2 : lw_av as 2 = a2) (h3 : lw_av as 3 = a3) (hb : ∀ s, (sx_sr s).1 ≤ σ s ∧ σ s ≤ (sx_sr s).2) (hW : lw_W ([], [((-1), [(12804, 1)]), ((-4), [(12805, 1)]), (4, [(12805, (-1))]), (0, [(19001, 1)]), (6, [(19001, (-1))]), ((-1), [(19002, 1)]), (7, [(19002, (-1))]), ((-1), [(19001, (-1)), (19002, 1)]), ((-1), [(12804, 1), (19002, (-1))]), ((-1), [(12804, 1), (19001, (-1))])], [(12800, (0, [])), (12805, (1, [(12805, 1)])), (18556, (0, [(19001, 1)])), (18568, (0, [(19002, 1)])), (18580, (0, [(19003, 1)]))], some (false, (1, []))) as σ σ' τ o) : lw_um_C a1 a2 a3 x.toInt σ σ' := by
  unfold lw_um_C
  obtain ⟨hs, ht, hf, hr, hm, hw⟩ := hW
  have e1 : τ 19001 = a1 := by rw [ht 19001 (by decide) (by decide)]; exact h1
  have e2 : τ 19002 = a2 := by rw [ht 19002 (by decide) (by decide)]; exact h2
  have e3 : τ 19003 = a3 := by rw [ht 19003 (by decide) (by decide)]; exact h3
  rw [hx] at hr
  obtain ⟨y, hy, hv⟩ := hr
  cases hy
  replace hv : x.toInt = 1 + 0 := hv
  have hb0 := hb 12805
  rw [show sx_sr 12805 = (0, 12) from by decide +kernel] at hb0
  have s12805 : τ 12805 = σ 12805 := hs 12805 (by decide)
  have s12804 : τ 12804 = σ 12804 := hs 12804 (by decide)
  have f0 : 0 ≤ (-1) + (1 * τ 12804 + 0) := hf _ (List.Mem.head _)
  have f1 : 0 ≤ (-4) + (1 * τ 12805 + 0) := hf _ (List.Mem.tail _ (List.Mem.head _))
  have f2 : 0 ≤ 4 + ((-1) * τ 12805 + 0) := hf _ (List.Mem.tail _ (List.Mem.tail _ (List.Mem.head _)))
  have f3 : 0 ≤ 0 + (1 * τ 19001 + 0) := hf _ (List.Mem.tail _ (List.Mem.tail _ (List.Mem.tail _ (List.Mem.head _))))
  have f4 : 0 ≤ 6 + ((-1) * τ 19001 + 0) := hf _ (List.Mem.tail _ (List.Mem.tail _ (List.Mem.tail _ (List.Mem.tail _ (List.Mem.head _)))))
  have f5 : 0 ≤ (-1) + (1 * τ 19002 + 0) := hf _ (List.Mem.tail _ (List.Mem.tail _ (List.Mem.tail _ (List.Mem.tail _ (List.Mem.tail _ (List.Mem.head _))))))
  have f6 : 0 ≤ 7 + ((-1) * τ 19002 + 0) := hf _ (List.Mem.tail _ (List.Mem.tail _ (List.Mem.tail _ (List.Mem.tail _ (List.Mem.tail _ (List.Mem.tail _ (List.Mem.head _)))))))
  have f7 : 0 ≤ (-1) + ((-1) * τ 19001 + (1 * τ 19002 + 0)) := hf _ (List.Mem.tail _ (List.Mem.tail _ (List.Mem.tail _ (List.Mem.tail _ (List.Mem.tail _ (List.Mem.tail _ (List.Mem.tail _ (List.Mem.head _))))))))
  have f8 : 0 ≤ (-1) + (1 * τ 12804 + ((-1) * τ 19002 + 0)) := hf _ (List.Mem.tail _ (List.Mem.tail _ (List.Mem.tail _ (List.Mem.tail _ (List.Mem.tail _ (List.Mem.tail _ (List.Mem.tail _ (List.Mem.tail _ (List.Mem.head _)))))))))
  have f9 : 0 ≤ (-1) + (1 * τ 12804 + ((-1) * τ 19001 + 0)) := hf _ (List.Mem.tail _ (List.Mem.tail _ (List.Mem.tail _ (List.Mem.tail _ (List.Mem.tail _ (List.Mem.tail _ (List.Mem.tail _ (List.Mem.tail _ (List.Mem.tail _ (List.Mem.head _))))))))))
  have mM : σ' 12805 = 1 + (1 * τ 12805 + 0) := hm 12805 (by decide)
  have hk : (σ 12805).toNat = 4 := by omega
  rw [hk]
  exact Or.inl ⟨by omega, by omega, by omega, by omega, by omega, by omega, by omega, by omega, by omega, (fun m hm12 => (by
    rcases (show m = 0 ∨ m = 1 ∨ m = 2 ∨ m = 3 ∨ m = 4 ∨ m = 5 ∨ m = 6 ∨ m = 7 ∨ m = 8 ∨ m = 9 ∨ m = 10 ∨ m = 11 by omega) with rfl | rfl | rfl | rfl | rfl | rfl | rfl | rfl | rfl | rfl | rfl | rfl
    · rw [if_neg (by decide)]
      exact lw_id (hs _ (by decide)) (hm _ (by decide))
    · rw [if_neg (by decide)]
      exact lw_id (hs _ (by decide)) (hm _ (by decide))
    · rw [if_neg (by decide)]
      exact lw_id (hs _ (by decide)) (hm _ (by decide))
    · rw [if_neg (by decide)]
      exact lw_id (hs _ (by decide)) (hm _ (by decide))
    · rw [if_pos rfl]
      have mk : σ' 18556 = 0 + (1 * τ 19001 + 0) := hm 18556 (by decide)
      show σ' 18556 = _
      omega
    · rw [if_neg (by decide)]
      exact lw_id (hs _ (by decide)) (hm _ (by decide))
    · rw [if_neg (by decide)]
      exact lw_id (hs _ (by decide)) (hm _ (by decide))
    · rw [if_neg (by decide)]
      exact lw_id (hs _ (by decide)) (hm _ (by decide))
    · rw [if_neg (by decide)]
      exact lw_id (hs _ (by decide)) (hm _ (by decide))
    · rw [if_neg (by decide)]
      exact lw_id (hs _ (by decide)) (hm _ (by decide))
    · rw [if_neg (by decide)]
      exact lw_id (hs _ (by decide)) (hm _ (by decide))
    · rw [if_neg (by decide)]
      exact lw_id (hs _ (by decide)) (hm _ (by decide)))), (fun m hm12 => (by
    rcases (show m = 0 ∨ m = 1 ∨ m = 2 ∨ m = 3 ∨ m = 4 ∨ m = 5 ∨ m = 6 ∨ m = 7 ∨ m = 8 ∨ m = 9 ∨ m = 10 ∨ m = 11 by omega) with rfl | rfl | rfl | rfl | rfl | rfl | rfl | rfl | rfl | rfl | rfl | rfl
    · rw [if_neg (by decide)]
      exact lw_id (hs _ (by decide)) (hm _ (by decide))
    · rw [if_neg (by decide)]
      exact lw_id (hs _ (by decide)) (hm _ (by decide))
    · rw [if_neg (by decide)]
      exact lw_id (hs _ (by decide)) (hm _ (by decide))
    · rw [if_neg (by decide)]
      exact lw_id (hs _ (by decide)) (hm _ (by decide))
    · rw [if_pos rfl]
      have mk : σ' 18568 = 0 + (1 * τ 19002 + 0) := hm 18568 (by decide)
      show σ' 18568 = _
      omega
    · rw [if_neg (by decide)]
      exact lw_id (hs _ (by decide)) (hm _ (by decide))
    · rw [if_neg (by decide)]
      exact lw_id (hs _ (by decide)) (hm _ (by decide))
    · rw [if_neg (by decide)]
      exact lw_id (hs _ (by decide)) (hm _ (by decide))
    · rw [if_neg (by decide)]
      exact lw_id (hs _ (by decide)) (hm _ (by decide))
    · rw [if_neg (by decide)]
      exact lw_id (hs _ (by decide)) (hm _ (by decide))
    · rw [if_neg (by decide)]
      exact lw_id (hs _ (by decide)) (hm _ (by decide))
    · rw [if_neg (by decide)]
      exact lw_id (hs _ (by decide)) (hm _ (by decide)))), (fun m hm12 => (by
    rcases (show m = 0 ∨ m = 1 ∨ m = 2 ∨ m = 3 ∨ m = 4 ∨ m = 5 ∨ m = 6 ∨ m = 7 ∨ m = 8 ∨ m = 9 ∨ m = 10 ∨ m = 11 by omega) with rfl | rfl | rfl | rfl | rfl | rfl | rfl | rfl | rfl | rfl | rfl | rfl
    · rw [if_neg (by decide)]
      exact lw_id (hs _ (by decide)) (hm _ (by decide))
    · rw [if_neg (by decide)]
      exact lw_id (hs _ (by decide)) (hm _ (by decide))
    · rw [if_neg (by decide)]
      exact lw_id (hs _ (by decide)) (hm _ (by decide))
    · rw [if_neg (by decide)]
      exact lw_id (hs _ (by decide)) (hm _ (by decide))
    · rw [if_pos rfl]
      have mk : σ' 18580 = 0 + (1 * τ 19003 + 0) := hm 18580 (by decide)
      show σ' 18580 = _
      omega
    · rw [if_neg (by decide)]
      exact lw_id (hs _ (by decide)) (hm _ (by decide))
    · rw [if_neg (by decide)]
      exact lw_id (hs _ (by decide)) (hm _ (by decide))
    · rw [if_neg (by decide)]
      exact lw_id (hs _ (by decide)) (hm _ (by decide))
    · rw [if_neg (by decide)]
      exact lw_id (hs _ (by decide)) (hm _ (by decide))
    · rw [if_neg (by decide)]
      exact lw_id (hs _ (by decide)) (hm _ (by decide))
    · rw [if_neg (by decide)]
      exact lw_id (hs _ (by decide)) (hm _ (by decide))
    · rw [if_neg (by decide)]
      exact lw_id (hs _ (by decide)) (hm _ (by decide))))⟩
set_option maxHeartbeats 1000000 in
theorem lw_um_20 {as : List rv_A} {σ σ' : Nat → Int} {o : rv_O} {x : Int32} {a1 a2 a3 : Int} {τ : Nat → Int} (hx : o.1 = some (.inl x)) (h1 : lw_av as 1 = a1) (h2 : lw_av as 2 = a2) (h3 : lw_av as 3 = a3) (hb : ∀ s, (sx_sr s).1 ≤ σ s ∧ σ s ≤ (sx_sr s).2) (hW : lw_W ([], [((-1), [(12804, 1)]), ((-4), [(12805, 1)]), (4, [(12805, (-1))]), ((-1), [(19001, 1)]), (7, [(19001, (-1))]), (0, [(19002, 1)]), (6, [(19002, (-1))]), ((-1), [(19001, 1), (19002, (-1))]), ((-1), [(12804, 1), (19002, (-1))]), ((-1), [(12804, 1), (19001, (-1))])], [(12800, (0, [])), (12805, (1, [(12805, 1)])), (18556, (0, [(19001, 1)])), (18568, (0, [(19002, 1)])), (18580, (0, [(19003, 1)]))], some (false, (1, []))) as σ σ' τ o) : lw_um_C a1 a2 a3 x.toInt σ σ' := by
  unfold lw_um_C
  obtain ⟨hs, ht, hf, hr, hm, hw⟩ := hW
  have e1 : τ 19001 = a1 := by rw [ht 19001 (by decide) (by decide)]; exact h1
  have e2 : τ 19002 = a2 := by rw [ht 19002 (by decide) (by decide)]; exact h2
  have e3 : τ 19003 = a3 := by rw [ht 19003 (by decide) (by decide)]; exact h3
  rw [hx] at hr
  obtain ⟨y, hy, hv⟩ := hr
  cases hy
  replace hv : x.toInt = 1 + 0 := hv
  have hb0 := hb 12805
  rw [show sx_sr 12805 = (0, 12) from by decide +kernel] at hb0
  have s12805 : τ 12805 = σ 12805 := hs 12805 (by decide)
  have s12804 : τ 12804 = σ 12804 := hs 12804 (by decide)
  have f0 : 0 ≤ (-1) + (1 * τ 12804 + 0) := hf _ (List.Mem.head _)
  have f1 : 0 ≤ (-4) + (1 * τ 12805 + 0) := hf _ (List.Mem.tail _ (List.Mem.head _))
  have f2 : 0 ≤ 4 + ((-1) * τ 12805 + 0) := hf _ (List.Mem.tail _ (List.Mem.tail _ (List.Mem.head _)))
  have f3 : 0 ≤ (-1) + (1 * τ 19001 + 0) := hf _ (List.Mem.tail _ (List.Mem.tail _ (List.Mem.tail _ (List.Mem.head _))))
  have f4 : 0 ≤ 7 + ((-1) * τ 19001 + 0) := hf _ (List.Mem.tail _ (List.Mem.tail _ (List.Mem.tail _ (List.Mem.tail _ (List.Mem.head _)))))
  have f5 : 0 ≤ 0 + (1 * τ 19002 + 0) := hf _ (List.Mem.tail _ (List.Mem.tail _ (List.Mem.tail _ (List.Mem.tail _ (List.Mem.tail _ (List.Mem.head _))))))
  have f6 : 0 ≤ 6 + ((-1) * τ 19002 + 0) := hf _ (List.Mem.tail _ (List.Mem.tail _ (List.Mem.tail _ (List.Mem.tail _ (List.Mem.tail _ (List.Mem.tail _ (List.Mem.head _)))))))
  have f7 : 0 ≤ (-1) + (1 * τ 19001 + ((-1) * τ 19002 + 0)) := hf _ (List.Mem.tail _ (List.Mem.tail _ (List.Mem.tail _ (List.Mem.tail _ (List.Mem.tail _ (List.Mem.tail _ (List.Mem.tail _ (List.Mem.head _))))))))
  have f8 : 0 ≤ (-1) + (1 * τ 12804 + ((-1) * τ 19002 + 0)) := hf _ (List.Mem.tail _ (List.Mem.tail _ (List.Mem.tail _ (List.Mem.tail _ (List.Mem.tail _ (List.Mem.tail _ (List.Mem.tail _ (List.Mem.tail _ (List.Mem.head _)))))))))
  have f9 : 0 ≤ (-1) + (1 * τ 12804 + ((-1) * τ 19001 + 0)) := hf _ (List.Mem.tail _ (List.Mem.tail _ (List.Mem.tail _ (List.Mem.tail _ (List.Mem.tail _ (List.Mem.tail _ (List.Mem.tail _ (List.Mem.tail _ (List.Mem.tail _ (List.Mem.head _))))))))))
  have mM : σ' 12805 = 1 + (1 * τ 12805 + 0) := hm 12805 (by decide)
  have hk : (σ 12805).toNat = 4 := by omega
  rw [hk]
  exact Or.inl ⟨by omega, by omega, by omega, by omega, by omega, by omega, by omega, by omega, by omega, (fun m hm12 => (by
    rcases (show m = 0 ∨ m = 1 ∨ m = 2 ∨ m = 3 ∨ m = 4 ∨ m = 5 ∨ m = 6 ∨ m = 7 ∨ m = 8 ∨ m = 9 ∨ m = 10 ∨ m = 11 by omega) with rfl | rfl | rfl | rfl | rfl | rfl | rfl | rfl | rfl | rfl | rfl | rfl
    · rw [if_neg (by decide)]
      exact lw_id (hs _ (by decide)) (hm _ (by decide))
    · rw [if_neg (by decide)]
      exact lw_id (hs _ (by decide)) (hm _ (by decide))
    · rw [if_neg (by decide)]
      exact lw_id (hs _ (by decide)) (hm _ (by decide))
    · rw [if_neg (by decide)]
      exact lw_id (hs _ (by decide)) (hm _ (by decide))
    · rw [if_pos rfl]
      have mk : σ' 18556 = 0 + (1 * τ 19001 + 0) := hm 18556 (by decide)
      show σ' 18556 = _
      omega
    · rw [if_neg (by decide)]
      exact lw_id (hs _ (by decide)) (hm _ (by decide))
    · rw [if_neg (by decide)]
      exact lw_id (hs _ (by decide)) (hm _ (by decide))
    · rw [if_neg (by decide)]
      exact lw_id (hs _ (by decide)) (hm _ (by decide))
    · rw [if_neg (by decide)]
      exact lw_id (hs _ (by decide)) (hm _ (by decide))
    · rw [if_neg (by decide)]
      exact lw_id (hs _ (by decide)) (hm _ (by decide))
    · rw [if_neg (by decide)]
      exact lw_id (hs _ (by decide)) (hm _ (by decide))
    · rw [if_neg (by decide)]
      exact lw_id (hs _ (by decide)) (hm _ (by decide)))), (fun m hm12 => (by
    rcases (show m = 0 ∨ m = 1 ∨ m = 2 ∨ m = 3 ∨ m = 4 ∨ m = 5 ∨ m = 6 ∨ m = 7 ∨ m = 8 ∨ m = 9 ∨ m = 10 ∨ m = 11 by omega) with rfl | rfl | rfl | rfl | rfl | rfl | rfl | rfl | rfl | rfl | rfl | rfl
    · rw [if_neg (by decide)]
      exact lw_id (hs _ (by decide)) (hm _ (by decide))
    · rw [if_neg (by decide)]
      exact lw_id (hs _ (by decide)) (hm _ (by decide))
    · rw [if_neg (by decide)]
      exact lw_id (hs _ (by decide)) (hm _ (by decide))
    · rw [if_neg (by decide)]
      exact lw_id (hs _ (by decide)) (hm _ (by decide))
    · rw [if_pos rfl]
      have mk : σ' 18568 = 0 + (1 * τ 19002 + 0) := hm 18568 (by decide)
      show σ' 18568 = _
      omega
    · rw [if_neg (by decide)]
      exact lw_id (hs _ (by decide)) (hm _ (by decide))
    · rw [if_neg (by decide)]
      exact lw_id (hs _ (by decide)) (hm _ (by decide))
    · rw [if_neg (by decide)]
      exact lw_id (hs _ (by decide)) (hm _ (by decide))
    · rw [if_neg (by decide)]
      exact lw_id (hs _ (by decide)) (hm _ (by decide))
    · rw [if_neg (by decide)]
      exact lw_id (hs _ (by decide)) (hm _ (by decide))
    · rw [if_neg (by decide)]
      exact lw_id (hs _ (by decide)) (hm _ (by decide))
    · rw [if_neg (by decide)]
      exact lw_id (hs _ (by decide)) (hm _ (by decide)))), (fun m hm12 => (by
    rcases (show m = 0 ∨ m = 1 ∨ m = 2 ∨ m = 3 ∨ m = 4 ∨ m = 5 ∨ m = 6 ∨ m = 7 ∨ m = 8 ∨ m = 9 ∨ m = 10 ∨ m = 11 by omega) with rfl | rfl | rfl | rfl | rfl | rfl | rfl | rfl | rfl | rfl | rfl | rfl
    · rw [if_neg (by decide)]
      exact lw_id (hs _ (by decide)) (hm _ (by decide))
    · rw [if_neg (by decide)]
      exact lw_id (hs _ (by decide)) (hm _ (by decide))
    · rw [if_neg (by decide)]
      exact lw_id (hs _ (by decide)) (hm _ (by decide))
    · rw [if_neg (by decide)]
      exact lw_id (hs _ (by decide)) (hm _ (by decide))
    · rw [if_pos rfl]
      have mk : σ' 18580 = 0 + (1 * τ 19003 + 0) := hm 18580 (by decide)
      show σ' 18580 = _
      omega
    · rw [if_neg (by decide)]
      exact lw_id (hs _ (by decide)) (hm _ (by decide))
    · rw [if_neg (by decide)]
      exact lw_id (hs _ (by decide)) (hm _ (by decide))
    · rw [if_neg (by decide)]
      exact lw_id (hs _ (by decide)) (hm _ (by decide))
    · rw [if_neg (by decide)]
      exact lw_id (hs _ (by decide)) (hm _ (by decide))
    · rw [if_neg (by decide)]
      exact lw_id (hs _ (by decide)) (hm _ (by decide))
    · rw [if_neg (by decide)]
      exact lw_id (hs _ (by decide)) (hm _ (by decide))
    · rw [if_neg (by decide)]
      exact lw_id (hs _ (by decide)) (hm _ (by decide))))⟩
set_option maxHeartbeats 1000000 in
theorem lw_um_21 {as : List rv_A} {σ σ' : Nat → Int} {o : rv_O} {x : Int32} {a1 a2 a3 : Int} {τ : Nat → Int} (hx : o.1 = some (.inl x)) (h1 : lw_av as 1 = a1) (h2 : lw_av as 2 = a2) (h3 : lw_av as 3 = a3) (hb : ∀ s, (sx_sr s).1 ≤ σ s ∧ σ s ≤ (sx_sr s).2) (hW : lw_W ([], [((-1), [(12804, 1)]), ((-5), [(12805, 1)]), (5, [(12805, (-1))]), (0, [(19001, 1)]), (6, [(19001, (-1))]), ((-1), [(19002, 1)]), (7, [(19002, (-1))]), ((-1), [(19001, (-1)), (19002, 1)]), ((-1), [(12804, 1), (19002, (-1))]), ((-1), [(12804, 1), (19001, (-1))])], [(12800, (0, [])), (12805, (1, [(12805, 1)])), (18557, (0, [(19001, 1)])), (18569, (0, [(19002, 1)])), (18581, (0, [(19003, 1)]))], some (false, (1, []))) as σ σ' τ o) : lw_um_C a1 a2 a3 x.toInt σ σ' := by
  unfold lw_um_C
  obtain ⟨hs, ht, hf, hr, hm, hw⟩ := hW
  have e1 : τ 19001 = a1 := by rw [ht 19001 (by decide) (by decide)]; exact h1
  have e2 : τ 19002 = a2 := by rw [ht 19002 (by decide) (by decide)]; exact h2
  have e3 : τ 19003 = a3 := by rw [ht 19003 (by decide) (by decide)]; exact h3
  rw [hx] at hr
  obtain ⟨y, hy, hv⟩ := hr
  cases hy
  replace hv : x.toInt = 1 + 0 := hv
  have hb0 := hb 12805
  rw [show sx_sr 12805 = (0, 12) from by decide +kernel] at hb0
  have s12805 : τ 12805 = σ 12805 := hs 12805 (by decide)
  have s12804 : τ 12804 = σ 12804 := hs 12804 (by decide)
  have f0 : 0 ≤ (-1) + (1 * τ 12804 + 0) := hf _ (List.Mem.head _)
  have f1 : 0 ≤ (-5) + (1 * τ 12805 + 0) := hf _ (List.Mem.tail _ (List.Mem.head _))
  have f2 : 0 ≤ 5 + ((-1) * τ 12805 + 0) := hf _ (List.Mem.tail _ (List.Mem.tail _ (List.Mem.head _)))
  have f3 : 0 ≤ 0 + (1 * τ 19001 + 0) := hf _ (List.Mem.tail _ (List.Mem.tail _ (List.Mem.tail _ (List.Mem.head _))))
  have f4 : 0 ≤ 6 + ((-1) * τ 19001 + 0) := hf _ (List.Mem.tail _ (List.Mem.tail _ (List.Mem.tail _ (List.Mem.tail _ (List.Mem.head _)))))
  have f5 : 0 ≤ (-1) + (1 * τ 19002 + 0) := hf _ (List.Mem.tail _ (List.Mem.tail _ (List.Mem.tail _ (List.Mem.tail _ (List.Mem.tail _ (List.Mem.head _))))))
  have f6 : 0 ≤ 7 + ((-1) * τ 19002 + 0) := hf _ (List.Mem.tail _ (List.Mem.tail _ (List.Mem.tail _ (List.Mem.tail _ (List.Mem.tail _ (List.Mem.tail _ (List.Mem.head _)))))))
  have f7 : 0 ≤ (-1) + ((-1) * τ 19001 + (1 * τ 19002 + 0)) := hf _ (List.Mem.tail _ (List.Mem.tail _ (List.Mem.tail _ (List.Mem.tail _ (List.Mem.tail _ (List.Mem.tail _ (List.Mem.tail _ (List.Mem.head _))))))))
  have f8 : 0 ≤ (-1) + (1 * τ 12804 + ((-1) * τ 19002 + 0)) := hf _ (List.Mem.tail _ (List.Mem.tail _ (List.Mem.tail _ (List.Mem.tail _ (List.Mem.tail _ (List.Mem.tail _ (List.Mem.tail _ (List.Mem.tail _ (List.Mem.head _)))))))))
  have f9 : 0 ≤ (-1) + (1 * τ 12804 + ((-1) * τ 19001 + 0)) := hf _ (List.Mem.tail _ (List.Mem.tail _ (List.Mem.tail _ (List.Mem.tail _ (List.Mem.tail _ (List.Mem.tail _ (List.Mem.tail _ (List.Mem.tail _ (List.Mem.tail _ (List.Mem.head _))))))))))
  have mM : σ' 12805 = 1 + (1 * τ 12805 + 0) := hm 12805 (by decide)
  have hk : (σ 12805).toNat = 5 := by omega
  rw [hk]
  exact Or.inl ⟨by omega, by omega, by omega, by omega, by omega, by omega, by omega, by omega, by omega, (fun m hm12 => (by
    rcases (show m = 0 ∨ m = 1 ∨ m = 2 ∨ m = 3 ∨ m = 4 ∨ m = 5 ∨ m = 6 ∨ m = 7 ∨ m = 8 ∨ m = 9 ∨ m = 10 ∨ m = 11 by omega) with rfl | rfl | rfl | rfl | rfl | rfl | rfl | rfl | rfl | rfl | rfl | rfl
    · rw [if_neg (by decide)]
      exact lw_id (hs _ (by decide)) (hm _ (by decide))
    · rw [if_neg (by decide)]
      exact lw_id (hs _ (by decide)) (hm _ (by decide))
    · rw [if_neg (by decide)]
      exact lw_id (hs _ (by decide)) (hm _ (by decide))
    · rw [if_neg (by decide)]
      exact lw_id (hs _ (by decide)) (hm _ (by decide))
    · rw [if_neg (by decide)]
      exact lw_id (hs _ (by decide)) (hm _ (by decide))
    · rw [if_pos rfl]
      have mk : σ' 18557 = 0 + (1 * τ 19001 + 0) := hm 18557 (by decide)
      show σ' 18557 = _
      omega
    · rw [if_neg (by decide)]
      exact lw_id (hs _ (by decide)) (hm _ (by decide))
    · rw [if_neg (by decide)]
      exact lw_id (hs _ (by decide)) (hm _ (by decide))
    · rw [if_neg (by decide)]
      exact lw_id (hs _ (by decide)) (hm _ (by decide))
    · rw [if_neg (by decide)]
      exact lw_id (hs _ (by decide)) (hm _ (by decide))
    · rw [if_neg (by decide)]
      exact lw_id (hs _ (by decide)) (hm _ (by decide))
    · rw [if_neg (by decide)]
      exact lw_id (hs _ (by decide)) (hm _ (by decide)))), (fun m hm12 => (by
    rcases (show m = 0 ∨ m = 1 ∨ m = 2 ∨ m = 3 ∨ m = 4 ∨ m = 5 ∨ m = 6 ∨ m = 7 ∨ m = 8 ∨ m = 9 ∨ m = 10 ∨ m = 11 by omega) with rfl | rfl | rfl | rfl | rfl | rfl | rfl | rfl | rfl | rfl | rfl | rfl
    · rw [if_neg (by decide)]
      exact lw_id (hs _ (by decide)) (hm _ (by decide))
    · rw [if_neg (by decide)]
      exact lw_id (hs _ (by decide)) (hm _ (by decide))
    · rw [if_neg (by decide)]
      exact lw_id (hs _ (by decide)) (hm _ (by decide))
    · rw [if_neg (by decide)]
      exact lw_id (hs _ (by decide)) (hm _ (by decide))
    · rw [if_neg (by decide)]
      exact lw_id (hs _ (by decide)) (hm _ (by decide))
    · rw [if_pos rfl]
      have mk : σ' 18569 = 0 + (1 * τ 19002 + 0) := hm 18569 (by decide)
      show σ' 18569 = _
      omega
    · rw [if_neg (by decide)]
      exact lw_id (hs _ (by decide)) (hm _ (by decide))
    · rw [if_neg (by decide)]
      exact lw_id (hs _ (by decide)) (hm _ (by decide))
    · rw [if_neg (by decide)]
      exact lw_id (hs _ (by decide)) (hm _ (by decide))
    · rw [if_neg (by decide)]
      exact lw_id (hs _ (by decide)) (hm _ (by decide))
    · rw [if_neg (by decide)]
      exact lw_id (hs _ (by decide)) (hm _ (by decide))
    · rw [if_neg (by decide)]
      exact lw_id (hs _ (by decide)) (hm _ (by decide)))), (fun m hm12 => (by
    rcases (show m = 0 ∨ m = 1 ∨ m = 2 ∨ m = 3 ∨ m = 4 ∨ m = 5 ∨ m = 6 ∨ m = 7 ∨ m = 8 ∨ m = 9 ∨ m = 10 ∨ m = 11 by omega) with rfl | rfl | rfl | rfl | rfl | rfl | rfl | rfl | rfl | rfl | rfl | rfl
    · rw [if_neg (by decide)]
      exact lw_id (hs _ (by decide)) (hm _ (by decide))
    · rw [if_neg (by decide)]
      exact lw_id (hs _ (by decide)) (hm _ (by decide))
    · rw [if_neg (by decide)]
      exact lw_id (hs _ (by decide)) (hm _ (by decide))
    · rw [if_neg (by decide)]
      exact lw_id (hs _ (by decide)) (hm _ (by decide))
    · rw [if_neg (by decide)]
      exact lw_id (hs _ (by decide)) (hm _ (by decide))
    · rw [if_pos rfl]
      have mk : σ' 18581 = 0 + (1 * τ 19003 + 0) := hm 18581 (by decide)
      show σ' 18581 = _
      omega
    · rw [if_neg (by decide)]
      exact lw_id (hs _ (by decide)) (hm _ (by decide))
    · rw [if_neg (by decide)]
      exact lw_id (hs _ (by decide)) (hm _ (by decide))
    · rw [if_neg (by decide)]
      exact lw_id (hs _ (by decide)) (hm _ (by decide))
    · rw [if_neg (by decide)]
      exact lw_id (hs _ (by decide)) (hm _ (by decide))
    · rw [if_neg (by decide)]
      exact lw_id (hs _ (by decide)) (hm _ (by decide))
    · rw [if_neg (by decide)]
      exact lw_id (hs _ (by decide)) (hm _ (by decide))))⟩
set_option maxHeartbeats 1000000 in
theorem lw_um_22 {as : List rv_A} {σ σ' : Nat → Int} {o : rv_O} {x : Int32} {a1 a2 a3 : Int} {τ : Nat → Int} (hx : o.1 = some (.inl x)) (h1 : lw_av as 1 = a1) (h2 : lw_av as 2 = a2) (h3 : lw_av as 3 = a3) (hb : ∀ s, (sx_sr s).1 ≤ σ s ∧ σ s ≤ (sx_sr s).2) (hW : lw_W ([], [((-1), [(12804, 1)]), ((-5), [(12805, 1)]), (5, [(12805, (-1))]), ((-1), [(19001, 1)]), (7, [(19001, (-1))]), (0, [(19002, 1)]), (6, [(19002, (-1))]), ((-1), [(19001, 1), (19002, (-1))]), ((-1), [(12804, 1), (19002, (-1))]), ((-1), [(12804, 1), (19001, (-1))])], [(12800, (0, [])), (12805, (1, [(12805, 1)])), (18557, (0, [(19001, 1)])), (18569, (0, [(19002, 1)])), (18581, (0, [(19003, 1)]))], some (false, (1, []))) as σ σ' τ o) : lw_um_C a1 a2 a3 x.toInt σ σ' := by
  unfold lw_um_C
  obtain ⟨hs, ht, hf, hr, hm, hw⟩ := hW
  have e1 : τ 19001 = a1 := by rw [ht 19001 (by decide) (by decide)]; exact h1
  have e2 : τ 19002 = a2 := by rw [ht 19002 (by decide) (by decide)]; exact h2
  have e3 : τ 19003 = a3 := by rw [ht 19003 (by decide) (by decide)]; exact h3
  rw [hx] at hr
  obtain ⟨y, hy, hv⟩ := hr
  cases hy
  replace hv : x.toInt = 1 + 0 := hv
  have hb0 := hb 12805
  rw [show sx_sr 12805 = (0, 12) from by decide +kernel] at hb0
  have s12805 : τ 12805 = σ 12805 := hs 12805 (by decide)
  have s12804 : τ 12804 = σ 12804 := hs 12804 (by decide)
  have f0 : 0 ≤ (-1) + (1 * τ 12804 + 0) := hf _ (List.Mem.head _)
  have f1 : 0 ≤ (-5) + (1 * τ 12805 + 0) := hf _ (List.Mem.tail _ (List.Mem.head _))
  have f2 : 0 ≤ 5 + ((-1) * τ 12805 + 0) := hf _ (List.Mem.tail _ (List.Mem.tail _ (List.Mem.head _)))
  have f3 : 0 ≤ (-1) + (1 * τ 19001 + 0) := hf _ (List.Mem.tail _ (List.Mem.tail _ (List.Mem.tail _ (List.Mem.head _))))
  have f4 : 0 ≤ 7 + ((-1) * τ 19001 + 0) := hf _ (List.Mem.tail _ (List.Mem.tail _ (List.Mem.tail _ (List.Mem.tail _ (List.Mem.head _)))))
  have f5 : 0 ≤ 0 + (1 * τ 19002 + 0) := hf _ (List.Mem.tail _ (List.Mem.tail _ (List.Mem.tail _ (List.Mem.tail _ (List.Mem.tail _ (List.Mem.head _))))))
  have f6 : 0 ≤ 6 + ((-1) * τ 19002 + 0) := hf _ (List.Mem.tail _ (List.Mem.tail _ (List.Mem.tail _ (List.Mem.tail _ (List.Mem.tail _ (List.Mem.tail _ (List.Mem.head _)))))))
  have f7 : 0 ≤ (-1) + (1 * τ 19001 + ((-1) * τ 19002 + 0)) := hf _ (List.Mem.tail _ (List.Mem.tail _ (List.Mem.tail _ (List.Mem.tail _ (List.Mem.tail _ (List.Mem.tail _ (List.Mem.tail _ (List.Mem.head _))))))))
  have f8 : 0 ≤ (-1) + (1 * τ 12804 + ((-1) * τ 19002 + 0)) := hf _ (List.Mem.tail _ (List.Mem.tail _ (List.Mem.tail _ (List.Mem.tail _ (List.Mem.tail _ (List.Mem.tail _ (List.Mem.tail _ (List.Mem.tail _ (List.Mem.head _)))))))))
  have f9 : 0 ≤ (-1) + (1 * τ 12804 + ((-1) * τ 19001 + 0)) := hf _ (List.Mem.tail _ (List.Mem.tail _ (List.Mem.tail _ (List.Mem.tail _ (List.Mem.tail _ (List.Mem.tail _ (List.Mem.tail _ (List.Mem.tail _ (List.Mem.tail _ (List.Mem.head _))))))))))
  have mM : σ' 12805 = 1 + (1 * τ 12805 + 0) := hm 12805 (by decide)
  have hk : (σ 12805).toNat = 5 := by omega
  rw [hk]
  exact Or.inl ⟨by omega, by omega, by omega, by omega, by omega, by omega, by omega, by omega, by omega, (fun m hm12 => (by
    rcases (show m = 0 ∨ m = 1 ∨ m = 2 ∨ m = 3 ∨ m = 4 ∨ m = 5 ∨ m = 6 ∨ m = 7 ∨ m = 8 ∨ m = 9 ∨ m = 10 ∨ m = 11 by omega) with rfl | rfl | rfl | rfl | rfl | rfl | rfl | rfl | rfl | rfl | rfl | rfl
    · rw [if_neg (by decide)]
      exact lw_id (hs _ (by decide)) (hm _ (by decide))
    · rw [if_neg (by decide)]
      exact lw_id (hs _ (by decide)) (hm _ (by decide))
    · rw [if_neg (by decide)]
      exact lw_id (hs _ (by decide)) (hm _ (by decide))
    · rw [if_neg (by decide)]
      exact lw_id (hs _ (by decide)) (hm _ (by decide))
    · rw [if_neg (by decide)]
      exact lw_id (hs _ (by decide)) (hm _ (by decide))
    · rw [if_pos rfl]
      have mk : σ' 18557 = 0 + (1 * τ 19001 + 0) := hm 18557 (by decide)
      show σ' 18557 = _
      omega
    · rw [if_neg (by decide)]
      exact lw_id (hs _ (by decide)) (hm _ (by decide))
    · rw [if_neg (by decide)]
      exact lw_id (hs _ (by decide)) (hm _ (by decide))
    · rw [if_neg (by decide)]
      exact lw_id (hs _ (by decide)) (hm _ (by decide))
    · rw [if_neg (by decide)]
      exact lw_id (hs _ (by decide)) (hm _ (by decide))
    · rw [if_neg (by decide)]
      exact lw_id (hs _ (by decide)) (hm _ (by decide))
    · rw [if_neg (by decide)]
      exact lw_id (hs _ (by decide)) (hm _ (by decide)))), (fun m hm12 => (by
    rcases (show m = 0 ∨ m = 1 ∨ m = 2 ∨ m = 3 ∨ m = 4 ∨ m = 5 ∨ m = 6 ∨ m = 7 ∨ m = 8 ∨ m = 9 ∨ m = 10 ∨ m = 11 by omega) with rfl | rfl | rfl | rfl | rfl | rfl | rfl | rfl | rfl | rfl | rfl | rfl
    · rw [if_neg (by decide)]
      exact lw_id (hs _ (by decide)) (hm _ (by decide))
    · rw [if_neg (by decide)]
      exact lw_id (hs _ (by decide)) (hm _ (by decide))
    · rw [if_neg (by decide)]
      exact lw_id (hs _ (by decide)) (hm _ (by decide))
    · rw [if_neg (by decide)]
      exact lw_id (hs _ (by decide)) (hm _ (by decide))
    · rw [if_neg (by decide)]
      exact lw_id (hs _ (by decide)) (hm _ (by decide))
    · rw [if_pos rfl]
      have mk : σ' 18569 = 0 + (1 * τ 19002 + 0) := hm 18569 (by decide)
      show σ' 18569 = _
      omega
    · rw [if_neg (by decide)]
      exact lw_id (hs _ (by decide)) (hm _ (by decide))
    · rw [if_neg (by decide)]
      exact lw_id (hs _ (by decide)) (hm _ (by decide))
    · rw [if_neg (by decide)]
      exact lw_id (hs _ (by decide)) (hm _ (by decide))
    · rw [if_neg (by decide)]
      exact lw_id (hs _ (by decide)) (hm _ (by decide))
    · rw [if_neg (by decide)]
      exact lw_id (hs _ (by decide)) (hm _ (by decide))
    · rw [if_neg (by decide)]
      exact lw_id (hs _ (by decide)) (hm _ (by decide)))), (fun m hm12 => (by
    rcases (show m = 0 ∨ m = 1 ∨ m = 2 ∨ m = 3 ∨ m = 4 ∨ m = 5 ∨ m = 6 ∨ m = 7 ∨ m = 8 ∨ m = 9 ∨ m = 10 ∨ m = 11 by omega) with rfl | rfl | rfl | rfl | rfl | rfl | rfl | rfl | rfl | rfl | rfl | rfl
    · rw [if_neg (by decide)]
      exact lw_id (hs _ (by decide)) (hm _ (by decide))
    · rw [if_neg (by decide)]
      exact lw_id (hs _ (by decide)) (hm _ (by decide))
    · rw [if_neg (by decide)]
      exact lw_id (hs _ (by decide)) (hm _ (by decide))
    · rw [if_neg (by decide)]
      exact lw_id (hs _ (by decide)) (hm _ (by decide))
    · rw [if_neg (by decide)]
      exact lw_id (hs _ (by decide)) (hm _ (by decide))
    · rw [if_pos rfl]
      have mk : σ' 18581 = 0 + (1 * τ 19003 + 0) := hm 18581 (by decide)
      show σ' 18581 = _
      omega
    · rw [if_neg (by decide)]
      exact lw_id (hs _ (by decide)) (hm _ (by decide))
    · rw [if_neg (by decide)]
      exact lw_id (hs _ (by decide)) (hm _ (by decide))
    · rw [if_neg (by decide)]
      exact lw_id (hs _ (by decide)) (hm _ (by decide))
    · rw [if_neg (by decide)]
      exact lw_id (hs _ (by decide)) (hm _ (by decide))
    · rw [if_neg (by decide)]
      exact lw_id (hs _ (by decide)) (hm _ (by decide))
    · rw [if_neg (by decide)]
      exact lw_id (hs _ (by decide)) (hm _ (by decide))))⟩
set_option maxHeartbeats 1000000 in
theorem lw_um_23 {as : List rv_A} {σ σ' : Nat → Int} {o : rv_O} {x : Int32} {a1 a2 a3 : Int} {τ : Nat → Int} (hx : o.1 = some (.inl x)) (h1 : lw_av as 1 = a1) (h2 : lw_av as 2 = a2) (h3 : lw_av as 3 = a3) (hb : ∀ s, (sx_sr s).1 ≤ σ s ∧ σ s ≤ (sx_sr s).2) (hW : lw_W ([], [((-1), [(12804, 1)]), ((-6), [(12805, 1)]), (6, [(12805, (-1))]), (0, [(19001, 1)]), (6, [(19001, (-1))]), ((-1), [(19002, 1)]), (7, [(19002, (-1))]), ((-1), [(19001, (-1)), (19002, 1)]), ((-1), [(12804, 1), (19002, (-1))]), ((-1), [(12804, 1), (19001, (-1))])], [(12800, (0, [])), (12805, (1, [(12805, 1)])), (18558, (0, [(19001, 1)])), (18570, (0, [(19002, 1)])), (18582, (0, [(19003, 1)]))], some (false, (1, []))) as σ σ' τ o) : lw_um_C a1 a2 a3 x.toInt σ σ' := by
  unfold lw_um_C
  obtain ⟨hs, ht, hf, hr, hm, hw⟩ := hW
  have e1 : τ 19001 = a1 := by rw [ht 19001 (by decide) (by decide)]; exact h1
  have e2 : τ 19002 = a2 := by rw [ht 19002 (by decide) (by decide)]; exact h2
  have e3 : τ 19003 = a3 := by rw [ht 19003 (by decide) (by decide)]; exact h3
  rw [hx] at hr
  obtain ⟨y, hy, hv⟩ := hr
  cases hy
  replace hv : x.toInt = 1 + 0 := hv
  have hb0 := hb 12805
  rw [show sx_sr 12805 = (0, 12) from by decide +kernel] at hb0
  have s12805 : τ 12805 = σ 12805 := hs 12805 (by decide)
  have s12804 : τ 12804 = σ 12804 := hs 12804 (by decide)
  have f0 : 0 ≤ (-1) + (1 * τ 12804 + 0) := hf _ (List.Mem.head _)
  have f1 : 0 ≤ (-6) + (1 * τ 12805 + 0) := hf _ (List.Mem.tail _ (List.Mem.head _))
  have f2 : 0 ≤ 6 + ((-1) * τ 12805 + 0) := hf _ (List.Mem.tail _ (List.Mem.tail _ (List.Mem.head _)))
  have f3 : 0 ≤ 0 + (1 * τ 19001 + 0) := hf _ (List.Mem.tail _ (List.Mem.tail _ (List.Mem.tail _ (List.Mem.head _))))
  have f4 : 0 ≤ 6 + ((-1) * τ 19001 + 0) := hf _ (List.Mem.tail _ (List.Mem.tail _ (List.Mem.tail _ (List.Mem.tail _ (List.Mem.head _)))))
  have f5 : 0 ≤ (-1) + (1 * τ 19002 + 0) := hf _ (List.Mem.tail _ (List.Mem.tail _ (List.Mem.tail _ (List.Mem.tail _ (List.Mem.tail _ (List.Mem.head _))))))
  have f6 : 0 ≤ 7 + ((-1) * τ 19002 + 0) := hf _ (List.Mem.tail _ (List.Mem.tail _ (List.Mem.tail _ (List.Mem.tail _ (List.Mem.tail _ (List.Mem.tail _ (List.Mem.head _)))))))
  have f7 : 0 ≤ (-1) + ((-1) * τ 19001 + (1 * τ 19002 + 0)) := hf _ (List.Mem.tail _ (List.Mem.tail _ (List.Mem.tail _ (List.Mem.tail _ (List.Mem.tail _ (List.Mem.tail _ (List.Mem.tail _ (List.Mem.head _))))))))
  have f8 : 0 ≤ (-1) + (1 * τ 12804 + ((-1) * τ 19002 + 0)) := hf _ (List.Mem.tail _ (List.Mem.tail _ (List.Mem.tail _ (List.Mem.tail _ (List.Mem.tail _ (List.Mem.tail _ (List.Mem.tail _ (List.Mem.tail _ (List.Mem.head _)))))))))
  have f9 : 0 ≤ (-1) + (1 * τ 12804 + ((-1) * τ 19001 + 0)) := hf _ (List.Mem.tail _ (List.Mem.tail _ (List.Mem.tail _ (List.Mem.tail _ (List.Mem.tail _ (List.Mem.tail _ (List.Mem.tail _ (List.Mem.tail _ (List.Mem.tail _ (List.Mem.head _))))))))))
  have mM : σ' 12805 = 1 + (1 * τ 12805 + 0) := hm 12805 (by decide)
  have hk : (σ 12805).toNat = 6 := by omega
  rw [hk]
  exact Or.inl ⟨by omega, by omega, by omega, by omega, by omega, by omega, by omega, by omega, by omega, (fun m hm12 => (by
    rcases (show m = 0 ∨ m = 1 ∨ m = 2 ∨ m = 3 ∨ m = 4 ∨ m = 5 ∨ m = 6 ∨ m = 7 ∨ m = 8 ∨ m = 9 ∨ m = 10 ∨ m = 11 by omega) with rfl | rfl | rfl | rfl | rfl | rfl | rfl | rfl | rfl | rfl | rfl | rfl
    · rw [if_neg (by decide)]
      exact lw_id (hs _ (by decide)) (hm _ (by decide))
    · rw [if_neg (by decide)]
      exact lw_id (hs _ (by decide)) (hm _ (by decide))
    · rw [if_neg (by decide)]
      exact lw_id (hs _ (by decide)) (hm _ (by decide))
    · rw [if_neg (by decide)]
      exact lw_id (hs _ (by decide)) (hm _ (by decide))
    · rw [if_neg (by decide)]
      exact lw_id (hs _ (by decide)) (hm _ (by decide))
    · rw [if_neg (by decide)]
      exact lw_id (hs _ (by decide)) (hm _ (by decide))
    · rw [if_pos rfl]
      have mk : σ' 18558 = 0 + (1 * τ 19001 + 0) := hm 18558 (by decide)
      show σ' 18558 = _
      omega
    · rw [if_neg (by decide)]
      exact lw_id (hs _ (by decide)) (hm _ (by decide))
    · rw [if_neg (by decide)]
      exact lw_id (hs _ (by decide)) (hm _ (by decide))
    · rw [if_neg (by decide)]
      exact lw_id (hs _ (by decide)) (hm _ (by decide))
    · rw [if_neg (by decide)]
      exact lw_id (hs _ (by decide)) (hm _ (by decide))
    · rw [if_neg (by decide)]
      exact lw_id (hs _ (by decide)) (hm _ (by decide)))), (fun m hm12 => (by
    rcases (show m = 0 ∨ m = 1 ∨ m = 2 ∨ m = 3 ∨ m = 4 ∨ m = 5 ∨ m = 6 ∨ m = 7 ∨ m = 8 ∨ m = 9 ∨ m = 10 ∨ m = 11 by omega) with rfl | rfl | rfl | rfl | rfl | rfl | rfl | rfl | rfl | rfl | rfl | rfl
    · rw [if_neg (by decide)]
      exact lw_id (hs _ (by decide)) (hm _ (by decide))
    · rw [if_neg (by decide)]
      exact lw_id (hs _ (by decide)) (hm _ (by decide))
    · rw [if_neg (by decide)]
      exact lw_id (hs _ (by decide)) (hm _ (by decide))
    · rw [if_neg (by decide)]
      exact lw_id (hs _ (by decide)) (hm _ (by decide))
    · rw [if_neg (by decide)]
      exact lw_id (hs _ (by decide)) (hm _ (by decide))
    · rw [if_neg (by decide)]
      exact lw_id (hs _ (by decide)) (hm _ (by decide))
    · rw [if_pos rfl]
      have mk : σ' 18570 = 0 + (1 * τ 19002 + 0) := hm 18570 (by decide)
      show σ' 18570 = _
      omega
    · rw [if_neg (by decide)]
      exact lw_id (hs _ (by decide)) (hm _ (by decide))
    · rw [if_neg (by decide)]
      exact lw_id (hs _ (by decide)) (hm _ (by decide))
    · rw [if_neg (by decide)]
      exact lw_id (hs _ (by decide)) (hm _ (by decide))
    · rw [if_neg (by decide)]
      exact lw_id (hs _ (by decide)) (hm _ (by decide))
    · rw [if_neg (by decide)]
      exact lw_id (hs _ (by decide)) (hm _ (by decide)))), (fun m hm12 => (by
    rcases (show m = 0 ∨ m = 1 ∨ m = 2 ∨ m = 3 ∨ m = 4 ∨ m = 5 ∨ m = 6 ∨ m = 7 ∨ m = 8 ∨ m = 9 ∨ m = 10 ∨ m = 11 by omega) with rfl | rfl | rfl | rfl | rfl | rfl | rfl | rfl | rfl | rfl | rfl | rfl
    · rw [if_neg (by decide)]
      exact lw_id (hs _ (by decide)) (hm _ (by decide))
    · rw [if_neg (by decide)]
      exact lw_id (hs _ (by decide)) (hm _ (by decide))
    · rw [if_neg (by decide)]
      exact lw_id (hs _ (by decide)) (hm _ (by decide))
    · rw [if_neg (by decide)]
      exact lw_id (hs _ (by decide)) (hm _ (by decide))
    · rw [if_neg (by decide)]
      exact lw_id (hs _ (by decide)) (hm _ (by decide))
    · rw [if_neg (by decide)]
      exact lw_id (hs _ (by decide)) (hm _ (by decide))
    · rw [if_pos rfl]
      have mk : σ' 18582 = 0 + (1 * τ 19003 + 0) := hm 18582 (by decide)
      show σ' 18582 = _
      omega
    · rw [if_neg (by decide)]
      exact lw_id (hs _ (by decide)) (hm _ (by decide))
    · rw [if_neg (by decide)]
      exact lw_id (hs _ (by decide)) (hm _ (by decide))
    · rw [if_neg (by decide)]
      exact lw_id (hs _ (by decide)) (hm _ (by decide))
    · rw [if_neg (by decide)]
      exact lw_id (hs _ (by decide)) (hm _ (by decide))
    · rw [if_neg (by decide)]
      exact lw_id (hs _ (by decide)) (hm _ (by decide))))⟩
set_option maxHeartbeats 1000000 in
theorem lw_um_24 {as : List rv_A} {σ σ' : Nat → Int} {o : rv_O} {x : Int32} {a1 a2 a3 : Int} {τ : Nat → Int} (hx : o.1 = some (.inl x)) (h1 : lw_av as 1 = a1) (h2 : lw_av as 2 = a2) (h3 : lw_av as 3 = a3) (hb : ∀ s, (sx_sr s).1 ≤ σ s ∧ σ s ≤ (sx_sr s).2) (hW : lw_W ([], [((-1), [(12804, 1)]), ((-6), [(12805, 1)]), (6, [(12805, (-1))]), ((-1), [(19001, 1)]), (7, [(19001, (-1))]), (0, [(19002, 1)]), (6, [(19002, (-1))]), ((-1), [(19001, 1), (19002, (-1))]), ((-1), [(12804, 1), (19002, (-1))]), ((-1), [(12804, 1), (19001, (-1))])], [(12800, (0, [])), (12805, (1, [(12805, 1)])), (18558, (0, [(19001, 1)])), (18570, (0, [(19002, 1)])), (18582, (0, [(19003, 1)]))], some (false, (1, []))) as σ σ' τ o) : lw_um_C a1 a2 a3 x.toInt σ σ' := by
  unfold lw_um_C
  obtain ⟨hs, ht, hf, hr, hm, hw⟩ := hW
  have e1 : τ 19001 = a1 := by rw [ht 19001 (by decide) (by decide)]; exact h1
  have e2 : τ 19002 = a2 := by rw [ht 19002 (by decide) (by decide)]; exact h2
  have e3 : τ 19003 = a3 := by rw [ht 19003 (by decide) (by decide)]; exact h3
  rw [hx] at hr
  obtain ⟨y, hy, hv⟩ := hr
  cases hy
  replace hv : x.toInt = 1 + 0 := hv
  have hb0 := hb 12805
  rw [show sx_sr 12805 = (0, 12) from by decide +kernel] at hb0
  have s12805 : τ 12805 = σ 12805 := hs 12805 (by decide)
  have s12804 : τ 12804 = σ 12804 := hs 12804 (by decide)
  have f0 : 0 ≤ (-1) + (1 * τ 12804 + 0) := hf _ (List.Mem.head _)
  have f1 : 0 ≤ (-6) + (1 * τ 12805 + 0) := hf _ (List.Mem.tail _ (List.Mem.head _))
  have f2 : 0 ≤ 6 + ((-1) * τ 12805 + 0) := hf _ (List.Mem.tail _ (List.Mem.tail _ (List.Mem.head _)))
  have f3 : 0 ≤ (-1) + (1 * τ 19001 + 0) := hf _ (List.Mem.tail _ (List.Mem.tail _ (List.Mem.tail _ (List.Mem.head _))))
  have f4 : 0 ≤ 7 + ((-1) * τ 19001 + 0) := hf _ (List.Mem.tail _ (List.Mem.tail _ (List.Mem.tail _ (List.Mem.tail _ (List.Mem.head _)))))
  have f5 : 0 ≤ 0 + (1 * τ 19002 + 0) := hf _ (List.Mem.tail _ (List.Mem.tail _ (List.Mem.tail _ (List.Mem.tail _ (List.Mem.tail _ (List.Mem.head _))))))
  have f6 : 0 ≤ 6 + ((-1) * τ 19002 + 0) := hf _ (List.Mem.tail _ (List.Mem.tail _ (List.Mem.tail _ (List.Mem.tail _ (List.Mem.tail _ (List.Mem.tail _ (List.Mem.head _)))))))
  have f7 : 0 ≤ (-1) + (1 * τ 19001 + ((-1) * τ 19002 + 0)) := hf _ (List.Mem.tail _ (List.Mem.tail _ (List.Mem.tail _ (List.Mem.tail _ (List.Mem.tail _ (List.Mem.tail _ (List.Mem.tail _ (List.Mem.head _))))))))
  have f8 : 0 ≤ (-1) + (1 * τ 12804 + ((-1) * τ 19002 + 0)) := hf _ (List.Mem.tail _ (List.Mem.tail _ (List.Mem.tail _ (List.Mem.tail _ (List.Mem.tail _ (List.Mem.tail _ (List.Mem.tail _ (List.Mem.tail _ (List.Mem.head _)))))))))
  have f9 : 0 ≤ (-1) + (1 * τ 12804 + ((-1) * τ 19001 + 0)) := hf _ (List.Mem.tail _ (List.Mem.tail _ (List.Mem.tail _ (List.Mem.tail _ (List.Mem.tail _ (List.Mem.tail _ (List.Mem.tail _ (List.Mem.tail _ (List.Mem.tail _ (List.Mem.head _))))))))))
  have mM : σ' 12805 = 1 + (1 * τ 12805 + 0) := hm 12805 (by decide)
  have hk : (σ 12805).toNat = 6 := by omega
  rw [hk]
  exact Or.inl ⟨by omega, by omega, by omega, by omega, by omega, by omega, by omega, by omega, by omega, (fun m hm12 => (by
    rcases (show m = 0 ∨ m = 1 ∨ m = 2 ∨ m = 3 ∨ m = 4 ∨ m = 5 ∨ m = 6 ∨ m = 7 ∨ m = 8 ∨ m = 9 ∨ m = 10 ∨ m = 11 by omega) with rfl | rfl | rfl | rfl | rfl | rfl | rfl | rfl | rfl | rfl | rfl | rfl
    · rw [if_neg (by decide)]
      exact lw_id (hs _ (by decide)) (hm _ (by decide))
    · rw [if_neg (by decide)]
      exact lw_id (hs _ (by decide)) (hm _ (by decide))
    · rw [if_neg (by decide)]
      exact lw_id (hs _ (by decide)) (hm _ (by decide))
    · rw [if_neg (by decide)]
      exact lw_id (hs _ (by decide)) (hm _ (by decide))
    · rw [if_neg (by decide)]
      exact lw_id (hs _ (by decide)) (hm _ (by decide))
    · rw [if_neg (by decide)]
      exact lw_id (hs _ (by decide)) (hm _ (by decide))
    · rw [if_pos rfl]
      have mk : σ' 18558 = 0 + (1 * τ 19001 + 0) := hm 18558 (by decide)
      show σ' 18558 = _
      omega
    · rw [if_neg (by decide)]
      exact lw_id (hs _ (by decide)) (hm _ (by decide))
    · rw [if_neg (by decide)]
      exact lw_id (hs _ (by decide)) (hm _ (by decide))
    · rw [if_neg (by decide)]
      exact lw_id (hs _ (by decide)) (hm _ (by decide))
    · rw [if_neg (by decide)]
      exact lw_id (hs _ (by decide)) (hm _ (by decide))
    · rw [if_neg (by decide)]
      exact lw_id (hs _ (by decide)) (hm _ (by decide)))), (fun m hm12 => (by
    rcases (show m = 0 ∨ m = 1 ∨ m = 2 ∨ m = 3 ∨ m = 4 ∨ m = 5 ∨ m = 6 ∨ m = 7 ∨ m = 8 ∨ m = 9 ∨ m = 10 ∨ m = 11 by omega) with rfl | rfl | rfl | rfl | rfl | rfl | rfl | rfl | rfl | rfl | rfl | rfl
    · rw [if_neg (by decide)]
      exact lw_id (hs _ (by decide)) (hm _ (by decide))
    · rw [if_neg (by decide)]
      exact lw_id (hs _ (by decide)) (hm _ (by decide))
    · rw [if_neg (by decide)]
      exact lw_id (hs _ (by decide)) (hm _ (by decide))
    · rw [if_neg (by decide)]
      exact lw_id (hs _ (by decide)) (hm _ (by decide))
    · rw [if_neg (by decide)]
      exact lw_id (hs _ (by decide)) (hm _ (by decide))
    · rw [if_neg (by decide)]
      exact lw_id (hs _ (by decide)) (hm _ (by decide))
    · rw [if_pos rfl]
      have mk : σ' 18570 = 0 + (1 * τ 19002 + 0) := hm 18570 (by decide)
      show σ' 18570 = _
      omega
    · rw [if_neg (by decide)]
      exact lw_id (hs _ (by decide)) (hm _ (by decide))
    · rw [if_neg (by decide)]
      exact lw_id (hs _ (by decide)) (hm _ (by decide))
    · rw [if_neg (by decide)]
      exact lw_id (hs _ (by decide)) (hm _ (by decide))
    · rw [if_neg (by decide)]
      exact lw_id (hs _ (by decide)) (hm _ (by decide))
    · rw [if_neg (by decide)]
      exact lw_id (hs _ (by decide)) (hm _ (by decide)))), (fun m hm12 => (by
    rcases (show m = 0 ∨ m = 1 ∨ m = 2 ∨ m = 3 ∨ m = 4 ∨ m = 5 ∨ m = 6 ∨ m = 7 ∨ m = 8 ∨ m = 9 ∨ m = 10 ∨ m = 11 by omega) with rfl | rfl | rfl | rfl | rfl | rfl | rfl | rfl | rfl | rfl | rfl | rfl
    · rw [if_neg (by decide)]
      exact lw_id (hs _ (by decide)) (hm _ (by decide))
    · rw [if_neg (by decide)]
      exact lw_id (hs _ (by decide)) (hm _ (by decide))
    · rw [if_neg (by decide)]
      exact lw_id (hs _ (by decide)) (hm _ (by decide))
    · rw [if_neg (by decide)]
      exact lw_id (hs _ (by decide)) (hm _ (by decide))
    · rw [if_neg (by decide)]
      exact lw_id (hs _ (by decide)) (hm _ (by decide))
    · rw [if_neg (by decide)]
      exact lw_id (hs _ (by decide)) (hm _ (by decide))
    · rw [if_pos rfl]
      have mk : σ' 18582 = 0 + (1 * τ 19003 + 0) := hm 18582 (by decide)
      show σ' 18582 = _
      omega
    · rw [if_neg (by decide)]
      exact lw_id (hs _ (by decide)) (hm _ (by decide))
    · rw [if_neg (by decide)]
      exact lw_id (hs _ (by decide)) (hm _ (by decide))
    · rw [if_neg (by decide)]
      exact lw_id (hs _ (by decide)) (hm _ (by decide))
    · rw [if_neg (by decide)]
      exact lw_id (hs _ (by decide)) (hm _ (by decide))
    · rw [if_neg (by decide)]
      exact lw_id (hs _ (by decide)) (hm _ (by decide))))⟩
set_option maxHeartbeats 1000000 in
theorem lw_um_25 {as : List rv_A} {σ σ' : Nat → Int} {o : rv_O} {x : Int32} {a1 a2 a3 : Int} {τ : Nat → Int} (hx : o.1 = some (.inl x)) (h1 : lw_av as 1 = a1) (h2 : lw_av as 2 = a2) (h3 : lw_av as 3 = a3) (hb : ∀ s, (sx_sr s).1 ≤ σ s ∧ σ s ≤ (sx_sr s).2) (hW : lw_W ([], [((-1), [(12804, 1)]), ((-7), [(12805, 1)]), (7, [(12805, (-1))]), (0, [(19001, 1)]), (6, [(19001, (-1))]), ((-1), [(19002, 1)]), (7, [(19002, (-1))]), ((-1), [(19001, (-1)), (19002, 1)]), ((-1), [(12804, 1), (19002, (-1))]), ((-1), [(12804, 1), (19001, (-1))])], [(12800, (0, [])), (12805, (1, [(12805, 1)])), (18559, (0, [(19001, 1)])), (18571, (0, [(19002, 1)])), (18583, (0, [(19003, 1)]))], some (false, (1, []))) as σ σ' τ o) : lw_um_C a1 a2 a3 x.toInt σ σ' := by
  unfold lw_um_C
  obtain ⟨hs, ht, hf, hr, hm, hw⟩ := hW
  have e1 : τ 19001 = a1 := by rw [ht 19001 (by decide) (by decide)]; exact h1
  have e2 : τ 19002 = a2 := by rw [ht 19002 (by decide) (by decide)]; exact h2
  have e3 : τ 19003 = a3 := by rw [ht 19003 (by decide) (by decide)]; exact h3
  rw [hx] at hr
  obtain ⟨y, hy, hv⟩ := hr
  cases hy
  replace hv : x.toInt = 1 + 0 := hv
  have hb0 := hb 12805
  rw [show sx_sr 12805 = (0, 12) from by decide +kernel] at hb0
  have s12805 : τ 12805 = σ 12805 := hs 12805 (by decide)
  have s12804 : τ 12804 = σ 12804 := hs 12804 (by decide)
  have f0 : 0 ≤ (-1) + (1 * τ 12804 + 0) := hf _ (List.Mem.head _)
  have f1 : 0 ≤ (-7) + (1 * τ 12805 + 0) := hf _ (List.Mem.tail _ (List.Mem.head _))
  have f2 : 0 ≤ 7 + ((-1) * τ 12805 + 0) := hf _ (List.Mem.tail _ (List.Mem.tail _ (List.Mem.head _)))
  have f3 : 0 ≤ 0 + (1 * τ 19001 + 0) := hf _ (List.Mem.tail _ (List.Mem.tail _ (List.Mem.tail _ (List.Mem.head _))))
  have f4 : 0 ≤ 6 + ((-1) * τ 19001 + 0) := hf _ (List.Mem.tail _ (List.Mem.tail _ (List.Mem.tail _ (List.Mem.tail _ (List.Mem.head _)))))
  have f5 : 0 ≤ (-1) + (1 * τ 19002 + 0) := hf _ (List.Mem.tail _ (List.Mem.tail _ (List.Mem.tail _ (List.Mem.tail _ (List.Mem.tail _ (List.Mem.head _))))))
  have f6 : 0 ≤ 7 + ((-1) * τ 19002 + 0) := hf _ (List.Mem.tail _ (List.Mem.tail _ (List.Mem.tail _ (List.Mem.tail _ (List.Mem.tail _ (List.Mem.tail _ (List.Mem.head _)))))))
  have f7 : 0 ≤ (-1) + ((-1) * τ 19001 + (1 * τ 19002 + 0)) := hf _ (List.Mem.tail _ (List.Mem.tail _ (List.Mem.tail _ (List.Mem.tail _ (List.Mem.tail _ (List.Mem.tail _ (List.Mem.tail _ (List.Mem.head _))))))))
  have f8 : 0 ≤ (-1) + (1 * τ 12804 + ((-1) * τ 19002 + 0)) := hf _ (List.Mem.tail _ (List.Mem.tail _ (List.Mem.tail _ (List.Mem.tail _ (List.Mem.tail _ (List.Mem.tail _ (List.Mem.tail _ (List.Mem.tail _ (List.Mem.head _)))))))))
  have f9 : 0 ≤ (-1) + (1 * τ 12804 + ((-1) * τ 19001 + 0)) := hf _ (List.Mem.tail _ (List.Mem.tail _ (List.Mem.tail _ (List.Mem.tail _ (List.Mem.tail _ (List.Mem.tail _ (List.Mem.tail _ (List.Mem.tail _ (List.Mem.tail _ (List.Mem.head _))))))))))
  have mM : σ' 12805 = 1 + (1 * τ 12805 + 0) := hm 12805 (by decide)
  have hk : (σ 12805).toNat = 7 := by omega
  rw [hk]
  exact Or.inl ⟨by omega, by omega, by omega, by omega, by omega, by omega, by omega, by omega, by omega, (fun m hm12 => (by
    rcases (show m = 0 ∨ m = 1 ∨ m = 2 ∨ m = 3 ∨ m = 4 ∨ m = 5 ∨ m = 6 ∨ m = 7 ∨ m = 8 ∨ m = 9 ∨ m = 10 ∨ m = 11 by omega) with rfl | rfl | rfl | rfl | rfl | rfl | rfl | rfl | rfl | rfl | rfl | rfl
    · rw [if_neg (by decide)]
      exact lw_id (hs _ (by decide)) (hm _ (by decide))
    · rw [if_neg (by decide)]
      exact lw_id (hs _ (by decide)) (hm _ (by decide))
    · rw [if_neg (by decide)]
      exact lw_id (hs _ (by decide)) (hm _ (by decide))
    · rw [if_neg (by decide)]
      exact lw_id (hs _ (by decide)) (hm _ (by decide))
    · rw [if_neg (by decide)]
      exact lw_id (hs _ (by decide)) (hm _ (by decide))
    · rw [if_neg (by decide)]
      exact lw_id (hs _ (by decide)) (hm _ (by decide))
    · rw [if_neg (by decide)]
      exact lw_id (hs _ (by decide)) (hm _ (by decide))
    · rw [if_pos rfl]
      have mk : σ' 18559 = 0 + (1 * τ 19001 + 0) := hm 18559 (by decide)
      show σ' 18559 = _
      omega
    · rw [if_neg (by decide)]
      exact lw_id (hs _ (by decide)) (hm _ (by decide))
    · rw [if_neg (by decide)]
      exact lw_id (hs _ (by decide)) (hm _ (by decide))
    · rw [if_neg (by decide)]
      exact lw_id (hs _ (by decide)) (hm _ (by decide))
    · rw [if_neg (by decide)]
      exact lw_id (hs _ (by decide)) (hm _ (by decide)))), (fun m hm12 => (by
    rcases (show m = 0 ∨ m = 1 ∨ m = 2 ∨ m = 3 ∨ m = 4 ∨ m = 5 ∨ m = 6 ∨ m = 7 ∨ m = 8 ∨ m = 9 ∨ m = 10 ∨ m = 11 by omega) with rfl | rfl | rfl | rfl | rfl | rfl | rfl | rfl | rfl | rfl | rfl | rfl
    · rw [if_neg (by decide)]
      exact lw_id (hs _ (by decide)) (hm _ (by decide))
    · rw [if_neg (by decide)]
      exact lw_id (hs _ (by decide)) (hm _ (by decide))
    · rw [if_neg (by decide)]
      exact lw_id (hs _ (by decide)) (hm _ (by decide))
    · rw [if_neg (by decide)]
      exact lw_id (hs _ (by decide)) (hm _ (by decide))
    · rw [if_neg (by decide)]
      exact lw_id (hs _ (by decide)) (hm _ (by decide))
    · rw [if_neg (by decide)]
      exact lw_id (hs _ (by decide)) (hm _ (by decide))
    · rw [if_neg (by decide)]
      exact lw_id (hs _ (by decide)) (hm _ (by decide))
    · rw [if_pos rfl]
      have mk : σ' 18571 = 0 + (1 * τ 19002 + 0) := hm 18571 (by decide)
      show σ' 18571 = _
      omega
    · rw [if_neg (by decide)]
      exact lw_id (hs _ (by decide)) (hm _ (by decide))
    · rw [if_neg (by decide)]
      exact lw_id (hs _ (by decide)) (hm _ (by decide))
    · rw [if_neg (by decide)]
      exact lw_id (hs _ (by decide)) (hm _ (by decide))
    · rw [if_neg (by decide)]
      exact lw_id (hs _ (by decide)) (hm _ (by decide)))), (fun m hm12 => (by
    rcases (show m = 0 ∨ m = 1 ∨ m = 2 ∨ m = 3 ∨ m = 4 ∨ m = 5 ∨ m = 6 ∨ m = 7 ∨ m = 8 ∨ m = 9 ∨ m = 10 ∨ m = 11 by omega) with rfl | rfl | rfl | rfl | rfl | rfl | rfl | rfl | rfl | rfl | rfl | rfl
    · rw [if_neg (by decide)]
      exact lw_id (hs _ (by decide)) (hm _ (by decide))
    · rw [if_neg (by decide)]
      exact lw_id (hs _ (by decide)) (hm _ (by decide))
    · rw [if_neg (by decide)]
      exact lw_id (hs _ (by decide)) (hm _ (by decide))
    · rw [if_neg (by decide)]
      exact lw_id (hs _ (by decide)) (hm _ (by decide))
    · rw [if_neg (by decide)]
      exact lw_id (hs _ (by decide)) (hm _ (by decide))
    · rw [if_neg (by decide)]
      exact lw_id (hs _ (by decide)) (hm _ (by decide))
    · rw [if_neg (by decide)]
      exact lw_id (hs _ (by decide)) (hm _ (by decide))
    · rw [if_pos rfl]
      have mk : σ' 18583 = 0 + (1 * τ 19003 + 0) := hm 18583 (by decide)
      show σ' 18583 = _
      omega
    · rw [if_neg (by decide)]
      exact lw_id (hs _ (by decide)) (hm _ (by decide))
    · rw [if_neg (by decide)]
      exact lw_id (hs _ (by decide)) (hm _ (by decide))
    · rw [if_neg (by decide)]
      exact lw_id (hs _ (by decide)) (hm _ (by decide))
    · rw [if_neg (by decide)]
      exact lw_id (hs _ (by decide)) (hm _ (by decide))))⟩
set_option maxHeartbeats 1000000 in
theorem lw_um_26 {as : List rv_A} {σ σ' : Nat → Int} {o : rv_O} {x : Int32} {a1 a2 a3 : Int} {τ : Nat → Int} (hx : o.1 = some (.inl x)) (h1 : lw_av as 1 = a1) (h2 : lw_av as 2 = a2) (h3 : lw_av as 3 = a3) (hb : ∀ s, (sx_sr s).1 ≤ σ s ∧ σ s ≤ (sx_sr s).2) (hW : lw_W ([], [((-1), [(12804, 1)]), ((-7), [(12805, 1)]), (7, [(12805, (-1))]), ((-1), [(19001, 1)]), (7, [(19001, (-1))]), (0, [(19002, 1)]), (6, [(19002, (-1))]), ((-1), [(19001, 1), (19002, (-1))]), ((-1), [(12804, 1), (19002, (-1))]), ((-1), [(12804, 1), (19001, (-1))])], [(12800, (0, [])), (12805, (1, [(12805, 1)])), (18559, (0, [(19001, 1)])), (18571, (0, [(19002, 1)])), (18583, (0, [(19003, 1)]))], some (false, (1, []))) as σ σ' τ o) : lw_um_C a1 a2 a3 x.toInt σ σ' := by
  unfold lw_um_C
  obtain ⟨hs, ht, hf, hr, hm, hw⟩ := hW
  have e1 : τ 19001 = a1 := by rw [ht 19001 (by decide) (by decide)]; exact h1
  have e2 : τ 19002 = a2 := by rw [ht 19002 (by decide) (by decide)]; exact h2
  have e3 : τ 19003 = a3 := by rw [ht 19003 (by decide) (by decide)]; exact h3
  rw [hx] at hr
  obtain ⟨y, hy, hv⟩ := hr
  cases hy
  replace hv : x.toInt = 1 + 0 := hv
  have hb0 := hb 12805
  rw [show sx_sr 12805 = (0, 12) from by decide +kernel] at hb0
  have s12805 : τ 12805 = σ 12805 := hs 12805 (by decide)
  have s12804 : τ 12804 = σ 12804 := hs 12804 (by decide)
  have f0 : 0 ≤ (-1) + (1 * τ 12804 + 0) := hf _ (List.Mem.head _)
  have f1 : 0 ≤ (-7) + (1 * τ 12805 + 0) := hf _ (List.Mem.tail _ (List.Mem.head _))
  have f2 : 0 ≤ 7 + ((-1) * τ 12805 + 0) := hf _ (List.Mem.tail _ (List.Mem.tail _ (List.Mem.head _)))
  have f3 : 0 ≤ (-1) + (1 * τ 19001 + 0) := hf _ (List.Mem.tail _ (List.Mem.tail _ (List.Mem.tail _ (List.Mem.head _))))
  have f4 : 0 ≤ 7 + ((-1) * τ 19001 + 0) := hf _ (List.Mem.tail _ (List.Mem.tail _ (List.Mem.tail _ (List.Mem.tail _ (List.Mem.head _)))))
  have f5 : 0 ≤ 0 + (1 * τ 19002 + 0) := hf _ (List.Mem.tail _ (List.Mem.tail _ (List.Mem.tail _ (List.Mem.tail _ (List.Mem.tail _ (List.Mem.head _))))))
  have f6 : 0 ≤ 6 + ((-1) * τ 19002 + 0) := hf _ (List.Mem.tail _ (List.Mem.tail _ (List.Mem.tail _ (List.Mem.tail _ (List.Mem.tail _ (List.Mem.tail _ (List.Mem.head _)))))))
  have f7 : 0 ≤ (-1) + (1 * τ 19001 + ((-1) * τ 19002 + 0)) := hf _ (List.Mem.tail _ (List.Mem.tail _ (List.Mem.tail _ (List.Mem.tail _ (List.Mem.tail _ (List.Mem.tail _ (List.Mem.tail _ (List.Mem.head _))))))))
  have f8 : 0 ≤ (-1) + (1 * τ 12804 + ((-1) * τ 19002 + 0)) := hf _ (List.Mem.tail _ (List.Mem.tail _ (List.Mem.tail _ (List.Mem.tail _ (List.Mem.tail _ (List.Mem.tail _ (List.Mem.tail _ (List.Mem.tail _ (List.Mem.head _)))))))))
  have f9 : 0 ≤ (-1) + (1 * τ 12804 + ((-1) * τ 19001 + 0)) := hf _ (List.Mem.tail _ (List.Mem.tail _ (List.Mem.tail _ (List.Mem.tail _ (List.Mem.tail _ (List.Mem.tail _ (List.Mem.tail _ (List.Mem.tail _ (List.Mem.tail _ (List.Mem.head _))))))))))
  have mM : σ' 12805 = 1 + (1 * τ 12805 + 0) := hm 12805 (by decide)
  have hk : (σ 12805).toNat = 7 := by omega
  rw [hk]
  exact Or.inl ⟨by omega, by omega, by omega, by omega, by omega, by omega, by omega, by omega, by omega, (fun m hm12 => (by
    rcases (show m = 0 ∨ m = 1 ∨ m = 2 ∨ m = 3 ∨ m = 4 ∨ m = 5 ∨ m = 6 ∨ m = 7 ∨ m = 8 ∨ m = 9 ∨ m = 10 ∨ m = 11 by omega) with rfl | rfl | rfl | rfl | rfl | rfl | rfl | rfl | rfl | rfl | rfl | rfl
    · rw [if_neg (by decide)]
      exact lw_id (hs _ (by decide)) (hm _ (by decide))
    · rw [if_neg (by decide)]
      exact lw_id (hs _ (by decide)) (hm _ (by decide))
    · rw [if_neg (by decide)]
      exact lw_id (hs _ (by decide)) (hm _ (by decide))
    · rw [if_neg (by decide)]
      exact lw_id (hs _ (by decide)) (hm _ (by decide))
    · rw [if_neg (by decide)]
      exact lw_id (hs _ (by decide)) (hm _ (by decide))
    · rw [if_neg (by decide)]
      exact lw_id (hs _ (by decide)) (hm _ (by decide))
    · rw [if_neg (by decide)]
      exact lw_id (hs _ (by decide)) (hm _ (by decide))
    · rw [if_pos rfl]
      have mk : σ' 18559 = 0 + (1 * τ 19001 + 0) := hm 18559 (by decide)
      show σ' 18559 = _
      omega
    · rw [if_neg (by decide)]
      exact lw_id (hs _ (by decide)) (hm _ (by decide))
    · rw [if_neg (by decide)]
      exact lw_id (hs _ (by decide)) (hm _ (by decide))
    · rw [if_neg (by decide)]
      exact lw_id (hs _ (by decide)) (hm _ (by decide))
    · rw [if_neg (by decide)]
      exact lw_id (hs _ (by decide)) (hm _ (by decide)))), (fun m hm12 => (by
    rcases (show m = 0 ∨ m = 1 ∨ m = 2 ∨ m = 3 ∨ m = 4 ∨ m = 5 ∨ m = 6 ∨ m = 7 ∨ m = 8 ∨ m = 9 ∨ m = 10 ∨ m = 11 by omega) with rfl | rfl | rfl | rfl | rfl | rfl | rfl | rfl | rfl | rfl | rfl | rfl
    · rw [if_neg (by decide)]
      exact lw_id (hs _ (by decide)) (hm _ (by decide))
    · rw [if_neg (by decide)]
      exact lw_id (hs _ (by decide)) (hm _ (by decide))
    · rw [if_neg (by decide)]
      exact lw_id (hs _ (by decide)) (hm _ (by decide))
    · rw [if_neg (by decide)]
      exact lw_id (hs _ (by decide)) (hm _ (by decide))
    · rw [if_neg (by decide)]
      exact lw_id (hs _ (by decide)) (hm _ (by decide))
    · rw [if_neg (by decide)]
      exact lw_id (hs _ (by decide)) (hm _ (by decide))
    · rw [if_neg (by decide)]
      exact lw_id (hs _ (by decide)) (hm _ (by decide))
    · rw [if_pos rfl]
      have mk : σ' 18571 = 0 + (1 * τ 19002 + 0) := hm 18571 (by decide)
      show σ' 18571 = _
      omega
    · rw [if_neg (by decide)]
      exact lw_id (hs _ (by decide)) (hm _ (by decide))
    · rw [if_neg (by decide)]
      exact lw_id (hs _ (by decide)) (hm _ (by decide))
    · rw [if_neg (by decide)]
      exact lw_id (hs _ (by decide)) (hm _ (by decide))
    · rw [if_neg (by decide)]
      exact lw_id (hs _ (by decide)) (hm _ (by decide)))), (fun m hm12 => (by
    rcases (show m = 0 ∨ m = 1 ∨ m = 2 ∨ m = 3 ∨ m = 4 ∨ m = 5 ∨ m = 6 ∨ m = 7 ∨ m = 8 ∨ m = 9 ∨ m = 10 ∨ m = 11 by omega) with rfl | rfl | rfl | rfl | rfl | rfl | rfl | rfl | rfl | rfl | rfl | rfl
    · rw [if_neg (by decide)]
      exact lw_id (hs _ (by decide)) (hm _ (by decide))
    · rw [if_neg (by decide)]
      exact lw_id (hs _ (by decide)) (hm _ (by decide))
    · rw [if_neg (by decide)]
      exact lw_id (hs _ (by decide)) (hm _ (by decide))
    · rw [if_neg (by decide)]
      exact lw_id (hs _ (by decide)) (hm _ (by decide))
    · rw [if_neg (by decide)]
      exact lw_id (hs _ (by decide)) (hm _ (by decide))
    · rw [if_neg (by decide)]
      exact lw_id (hs _ (by decide)) (hm _ (by decide))
    · rw [if_neg (by decide)]
      exact lw_id (hs _ (by decide)) (hm _ (by decide))
    · rw [if_pos rfl]
      have mk : σ' 18583 = 0 + (1 * τ 19003 + 0) := hm 18583 (by decide)
      show σ' 18583 = _
      omega
    · rw [if_neg (by decide)]
      exact lw_id (hs _ (by decide)) (hm _ (by decide))
    · rw [if_neg (by decide)]
      exact lw_id (hs _ (by decide)) (hm _ (by decide))
    · rw [if_neg (by decide)]
      exact lw_id (hs _ (by decide)) (hm _ (by decide))
    · rw [if_neg (by decide)]
      exact lw_id (hs _ (by decide)) (hm _ (by decide))))⟩
set_option maxHeartbeats 1000000 in
theorem lw_um_27 {as : List rv_A} {σ σ' : Nat → Int} {o : rv_O} {x : Int32} {a1 a2 a3 : Int} {τ : Nat → Int} (hx : o.1 = some (.inl x)) (h1 : lw_av as 1 = a1) (h2 : lw_av as 2 = a2) (h3 : lw_av as 3 = a3) (hb : ∀ s, (sx_sr s).1 ≤ σ s ∧ σ s ≤ (sx_sr s).2) (hW : lw_W ([], [((-1), [(12804, 1)]), ((-8), [(12805, 1)]), (8, [(12805, (-1))]), (0, [(19001, 1)]), (6, [(19001, (-1))]), ((-1), [(19002, 1)]), (7, [(19002, (-1))]), ((-1), [(19001, (-1)), (19002, 1)]), ((-1), [(12804, 1), (19002, (-1))]), ((-1), [(12804, 1), (19001, (-1))])], [(12800, (0, [])), (12805, (1, [(12805, 1)])), (18560, (0, [(19001, 1)])), (18572, (0, [(19002, 1)])), (18584, (0, [(19003, 1)]))], some (false, (1, []))) as σ σ' τ o) : lw_um_C a1 a2 a3 x.toInt σ σ' := by
  unfold lw_um_C
  obtain ⟨hs, ht, hf, hr, hm, hw⟩ := hW
  have e1 : τ 19001 = a1 := by rw [ht 19001 (by decide) (by decide)]; exact h1
  have e2 : τ 19002 = a2 := by rw [ht 19002 (by decide) (by decide)]; exact h2
  have e3 : τ 19003 = a3 := by rw [ht 19003 (by decide) (by decide)]; exact h3
  rw [hx] at hr
  obtain ⟨y, hy, hv⟩ := hr
  cases hy
  replace hv : x.toInt = 1 + 0 := hv
  have hb0 := hb 12805
  rw [show sx_sr 12805 = (0, 12) from by decide +kernel] at hb0
  have s12805 : τ 12805 = σ 12805 := hs 12805 (by decide)
  have s12804 : τ 12804 = σ 12804 := hs 12804 (by decide)
  have f0 : 0 ≤ (-1) + (1 * τ 12804 + 0) := hf _ (List.Mem.head _)
  have f1 : 0 ≤ (-8) + (1 * τ 12805 + 0) := hf _ (List.Mem.tail _ (List.Mem.head _))
  have f2 : 0 ≤ 8 + ((-1) * τ 12805 + 0) := hf _ (List.Mem.tail _ (List.Mem.tail _ (List.Mem.head _)))
  have f3 : 0 ≤ 0 + (1 * τ 19001 + 0) := hf _ (List.Mem.tail _ (List.Mem.tail _ (List.Mem.tail _ (List.Mem.head _))))
  have f4 : 0 ≤ 6 + ((-1) * τ 19001 + 0) := hf _ (List.Mem.tail _ (List.Mem.tail _ (List.Mem.tail _ (List.Mem.tail _ (List.Mem.head _)))))
  have f5 : 0 ≤ (-1) + (1 * τ 19002 + 0) := hf _ (List.Mem.tail _ (List.Mem.tail _ (List.Mem.tail _ (List.Mem.tail _ (List.Mem.tail _ (List.Mem.head _))))))
  have f6 : 0 ≤ 7 + ((-1) * τ 19002 + 0) := hf _ (List.Mem.tail _ (List.Mem.tail _ (List.Mem.tail _ (List.Mem.tail _ (List.Mem.tail _ (List.Mem.tail _ (List.Mem.head _)))))))
  have f7 : 0 ≤ (-1) + ((-1) * τ 19001 + (1 * τ 19002 + 0)) := hf _ (List.Mem.tail _ (List.Mem.tail _ (List.Mem.tail _ (List.Mem.tail _ (List.Mem.tail _ (List.Mem.tail _ (List.Mem.tail _ (List.Mem.head _))))))))
  have f8 : 0 ≤ (-1) + (1 * τ 12804 + ((-1) * τ 19002 + 0)) := hf _ (List.Mem.tail _ (List.Mem.tail _ (List.Mem.tail _ (List.Mem.tail _ (List.Mem.tail _ (List.Mem.tail _ (List.Mem.tail _ (List.Mem.tail _ (List.Mem.head _)))))))))
  have f9 : 0 ≤ (-1) + (1 * τ 12804 + ((-1) * τ 19001 + 0)) := hf _ (List.Mem.tail _ (List.Mem.tail _ (List.Mem.tail _ (List.Mem.tail _ (List.Mem.tail _ (List.Mem.tail _ (List.Mem.tail _ (List.Mem.tail _ (List.Mem.tail _ (List.Mem.head _))))))))))
  have mM : σ' 12805 = 1 + (1 * τ 12805 + 0) := hm 12805 (by decide)
  have hk : (σ 12805).toNat = 8 := by omega
  rw [hk]
  exact Or.inl ⟨by omega, by omega, by omega, by omega, by omega, by omega, by omega, by omega, by omega, (fun m hm12 => (by
    rcases (show m = 0 ∨ m = 1 ∨ m = 2 ∨ m = 3 ∨ m = 4 ∨ m = 5 ∨ m = 6 ∨ m = 7 ∨ m = 8 ∨ m = 9 ∨ m = 10 ∨ m = 11 by omega) with rfl | rfl | rfl | rfl | rfl | rfl | rfl | rfl | rfl | rfl | rfl | rfl
    · rw [if_neg (by decide)]
      exact lw_id (hs _ (by decide)) (hm _ (by decide))
    · rw [if_neg (by decide)]
      exact lw_id (hs _ (by decide)) (hm _ (by decide))
    · rw [if_neg (by decide)]
      exact lw_id (hs _ (by decide)) (hm _ (by decide))
    · rw [if_neg (by decide)]
      exact lw_id (hs _ (by decide)) (hm _ (by decide))
    · rw [if_neg (by decide)]
      exact lw_id (hs _ (by decide)) (hm _ (by decide))
    · rw [if_neg (by decide)]
      exact lw_id (hs _ (by decide)) (hm _ (by decide))
    · rw [if_neg (by decide)]
      exact lw_id (hs _ (by decide)) (hm _ (by decide))
    · rw [if_neg (by decide)]
      exact lw_id (hs _ (by decide)) (hm _ (by decide))
    · rw [if_pos rfl]
      have mk : σ' 18560 = 0 + (1 * τ 19001 + 0) := hm 18560 (by decide)
      show σ' 18560 = _
      omega
    · rw [if_neg (by decide)]
      exact lw_id (hs _ (by decide)) (hm _ (by decide))
    · rw [if_neg (by decide)]
      exact lw_id (hs _ (by decide)) (hm _ (by decide))
    · rw [if_neg (by decide)]
      exact lw_id (hs _ (by decide)) (hm _ (by decide)))), (fun m hm12 => (by
    rcases (show m = 0 ∨ m = 1 ∨ m = 2 ∨ m = 3 ∨ m = 4 ∨ m = 5 ∨ m = 6 ∨ m = 7 ∨ m = 8 ∨ m = 9 ∨ m = 10 ∨ m = 11 by omega) with rfl | rfl | rfl | rfl | rfl | rfl | rfl | rfl | rfl | rfl | rfl | rfl
    · rw [if_neg (by decide)]
      exact lw_id (hs _ (by decide)) (hm _ (by decide))
    · rw [if_neg (by decide)]
      exact lw_id (hs _ (by decide)) (hm _ (by decide))
    · rw [if_neg (by decide)]
      exact lw_id (hs _ (by decide)) (hm _ (by decide))
    · rw [if_neg (by decide)]
      exact lw_id (hs _ (by decide)) (hm _ (by decide))
    · rw [if_neg (by decide)]
      exact lw_id (hs _ (by decide)) (hm _ (by decide))
    · rw [if_neg (by decide)]
      exact lw_id (hs _ (by decide)) (hm _ (by decide))
    · rw [if_neg (by decide)]
      exact lw_id (hs _ (by decide)) (hm _ (by decide))
    · rw [if_neg (by decide)]
      exact lw_id (hs _ (by decide)) (hm _ (by decide))
    · rw [if_pos rfl]
      have mk : σ' 18572 = 0 + (1 * τ 19002 + 0) := hm 18572 (by decide)
      show σ' 18572 = _
      omega
    · rw [if_neg (by decide)]
      exact lw_id (hs _ (by decide)) (hm _ (by decide))
    · rw [if_neg (by decide)]
      exact lw_id (hs _ (by decide)) (hm _ (by decide))
    · rw [if_neg (by decide)]
      exact lw_id (hs _ (by decide)) (hm _ (by decide)))), (fun m hm12 => (by
    rcases (show m = 0 ∨ m = 1 ∨ m = 2 ∨ m = 3 ∨ m = 4 ∨ m = 5 ∨ m = 6 ∨ m = 7 ∨ m = 8 ∨ m = 9 ∨ m = 10 ∨ m = 11 by omega) with rfl | rfl | rfl | rfl | rfl | rfl | rfl | rfl | rfl | rfl | rfl | rfl
    · rw [if_neg (by decide)]
      exact lw_id (hs _ (by decide)) (hm _ (by decide))
    · rw [if_neg (by decide)]
      exact lw_id (hs _ (by decide)) (hm _ (by decide))
    · rw [if_neg (by decide)]
      exact lw_id (hs _ (by decide)) (hm _ (by decide))
    · rw [if_neg (by decide)]
      exact lw_id (hs _ (by decide)) (hm _ (by decide))
    · rw [if_neg (by decide)]
      exact lw_id (hs _ (by decide)) (hm _ (by decide))
    · rw [if_neg (by decide)]
      exact lw_id (hs _ (by decide)) (hm _ (by decide))
    · rw [if_neg (by decide)]
      exact lw_id (hs _ (by decide)) (hm _ (by decide))
    · rw [if_neg (by decide)]
      exact lw_id (hs _ (by decide)) (hm _ (by decide))
    · rw [if_pos rfl]
      have mk : σ' 18584 = 0 + (1 * τ 19003 + 0) := hm 18584 (by decide)
      show σ' 18584 = _
      omega
    · rw [if_neg (by decide)]
      exact lw_id (hs _ (by decide)) (hm _ (by decide))
    · rw [if_neg (by decide)]
      exact lw_id (hs _ (by decide)) (hm _ (by decide))
    · rw [if_neg (by decide)]
      exact lw_id (hs _ (by decide)) (hm _ (by decide))))⟩
set_option maxHeartbeats 1000000 in
theorem lw_um_28 {as : List rv_A} {σ σ' : Nat → Int} {o : rv_O} {x : Int32} {a1 a2 a3 : Int} {τ : Nat → Int} (hx : o.1 = some (.inl x)) (h1 : lw_av as 1 = a1) (h2 : lw_av as 2 = a2) (h3 : lw_av as 3 = a3) (hb : ∀ s, (sx_sr s).1 ≤ σ s ∧ σ s ≤ (sx_sr s).2) (hW : lw_W ([], [((-1), [(12804, 1)]), ((-8), [(12805, 1)]), (8, [(12805, (-1))]), ((-1), [(19001, 1)]), (7, [(19001, (-1))]), (0, [(19002, 1)]), (6, [(19002, (-1))]), ((-1), [(19001, 1), (19002, (-1))]), ((-1), [(12804, 1), (19002, (-1))]), ((-1), [(12804, 1), (19001, (-1))])], [(12800, (0, [])), (12805, (1, [(12805, 1)])), (18560, (0, [(19001, 1)])), (18572, (0, [(19002, 1)])), (18584, (0, [(19003, 1)]))], some (false, (1, []))) as σ σ' τ o) : lw_um_C a1 a2 a3 x.toInt σ σ' := by
  unfold lw_um_C
  obtain ⟨hs, ht, hf, hr, hm, hw⟩ := hW
  have e1 : τ 19001 = a1 := by rw [ht 19001 (by decide) (by decide)]; exact h1
  have e2 : τ 19002 = a2 := by rw [ht 19002 (by decide) (by decide)]; exact h2
  have e3 : τ 19003 = a3 := by rw [ht 19003 (by decide) (by decide)]; exact h3
  rw [hx] at hr
  obtain ⟨y, hy, hv⟩ := hr
  cases hy
  replace hv : x.toInt = 1 + 0 := hv
  have hb0 := hb 12805
  rw [show sx_sr 12805 = (0, 12) from by decide +kernel] at hb0
  have s12805 : τ 12805 = σ 12805 := hs 12805 (by decide)
  have s12804 : τ 12804 = σ 12804 := hs 12804 (by decide)
  have f0 : 0 ≤ (-1) + (1 * τ 12804 + 0) := hf _ (List.Mem.head _)
  have f1 : 0 ≤ (-8) + (1 * τ 12805 + 0) := hf _ (List.Mem.tail _ (List.Mem.head _))
  have f2 : 0 ≤ 8 + ((-1) * τ 12805 + 0) := hf _ (List.Mem.tail _ (List.Mem.tail _ (List.Mem.head _)))
  have f3 : 0 ≤ (-1) + (1 * τ 19001 + 0) := hf _ (List.Mem.tail _ (List.Mem.tail _ (List.Mem.tail _ (List.Mem.head _))))
  have f4 : 0 ≤ 7 + ((-1) * τ 19001 + 0) := hf _ (List.Mem.tail _ (List.Mem.tail _ (List.Mem.tail _ (List.Mem.tail _ (List.Mem.head _)))))
  have f5 : 0 ≤ 0 + (1 * τ 19002 + 0) := hf _ (List.Mem.tail _ (List.Mem.tail _ (List.Mem.tail _ (List.Mem.tail _ (List.Mem.tail _ (List.Mem.head _))))))
  have f6 : 0 ≤ 6 + ((-1) * τ 19002 + 0) := hf _ (List.Mem.tail _ (List.Mem.tail _ (List.Mem.tail _ (List.Mem.tail _ (List.Mem.tail _ (List.Mem.tail _ (List.Mem.head _)))))))
  have f7 : 0 ≤ (-1) + (1 * τ 19001 + ((-1) * τ 19002 + 0)) := hf _ (List.Mem.tail _ (List.Mem.tail _ (List.Mem.tail _ (List.Mem.tail _ (List.Mem.tail _ (List.Mem.tail _ (List.Mem.tail _ (List.Mem.head _))))))))
  have f8 : 0 ≤ (-1) + (1 * τ 12804 + ((-1) * τ 19002 + 0)) := hf _ (List.Mem.tail _ (List.Mem.tail _ (List.Mem.tail _ (List.Mem.tail _ (List.Mem.tail _ (List.Mem.tail _ (List.Mem.tail _ (List.Mem.tail _ (List.Mem.head _)))))))))
  have f9 : 0 ≤ (-1) + (1 * τ 12804 + ((-1) * τ 19001 + 0)) := hf _ (List.Mem.tail _ (List.Mem.tail _ (List.Mem.tail _ (List.Mem.tail _ (List.Mem.tail _ (List.Mem.tail _ (List.Mem.tail _ (List.Mem.tail _ (List.Mem.tail _ (List.Mem.head _))))))))))
  have mM : σ' 12805 = 1 + (1 * τ 12805 + 0) := hm 12805 (by decide)
  have hk : (σ 12805).toNat = 8 := by omega
  rw [hk]
  exact Or.inl ⟨by omega, by omega, by omega, by omega, by omega, by omega, by omega, by omega, by omega, (fun m hm12 => (by
    rcases (show m = 0 ∨ m = 1 ∨ m = 2 ∨ m = 3 ∨ m = 4 ∨ m = 5 ∨ m = 6 ∨ m = 7 ∨ m = 8 ∨ m = 9 ∨ m = 10 ∨ m = 11 by omega) with rfl | rfl | rfl | rfl | rfl | rfl | rfl | rfl | rfl | rfl | rfl | rfl
    · rw [if_neg (by decide)]
      exact lw_id (hs _ (by decide)) (hm _ (by decide))
    · rw [if_neg (by decide)]
      exact lw_id (hs _ (by decide)) (hm _ (by decide))
    · rw [if_neg (by decide)]
      exact lw_id (hs _ (by decide)) (hm _ (by decide))
    · rw [if_neg (by decide)]
      exact lw_id (hs _ (by decide)) (hm _ (by decide))
    · rw [if_neg (by decide)]
      exact lw_id (hs _ (by decide)) (hm _ (by decide))
    · rw [if_neg (by decide)]
      exact lw_id (hs _ (by decide)) (hm _ (by decide))
    · rw [if_neg (by decide)]
      exact lw_id (hs _ (by decide)) (hm _ (by decide))
    · rw [if_neg (by decide)]
      exact lw_id (hs _ (by decide)) (hm _ (by decide))
    · rw [if_pos rfl]
      have mk : σ' 18560 = 0 + (1 * τ 19001 + 0) := hm 18560 (by decide)
      show σ' 18560 = _
      omega
    · rw [if_neg (by decide)]
      exact lw_id (hs _ (by decide)) (hm _ (by decide))
    · rw [if_neg (by decide)]
      exact lw_id (hs _ (by decide)) (hm _ (by decide))
    · rw [if_neg (by decide)]
      exact lw_id (hs _ (by decide)) (hm _ (by decide)))), (fun m hm12 => (by
    rcases (show m = 0 ∨ m = 1 ∨ m = 2 ∨ m = 3 ∨ m = 4 ∨ m = 5 ∨ m = 6 ∨ m = 7 ∨ m = 8 ∨ m = 9 ∨ m = 10 ∨ m = 11 by omega) with rfl | rfl | rfl | rfl | rfl | rfl | rfl | rfl | rfl | rfl | rfl | rfl
    · rw [if_neg (by decide)]
      exact lw_id (hs _ (by decide)) (hm _ (by decide))
    · rw [if_neg (by decide)]
      exact lw_id (hs _ (by decide)) (hm _ (by decide))
    · rw [if_neg (by decide)]
      exact lw_id (hs _ (by decide)) (hm _ (by decide))
    · rw [if_neg (by decide)]
      exact lw_id (hs _ (by decide)) (hm _ (by decide))
    · rw [if_neg (by decide)]
      exact lw_id (hs _ (by decide)) (hm _ (by decide))
    · rw [if_neg (by decide)]
      exact lw_id (hs _ (by decide)) (hm _ (by decide))
    · rw [if_neg (by decide)]
      exact lw_id (hs _ (by decide)) (hm _ (by decide))
    · rw [if_neg (by decide)]
      exact lw_id (hs _ (by decide)) (hm _ (by decide))
    · rw [if_pos rfl]
      have mk : σ' 18572 = 0 + (1 * τ 19002 + 0) := hm 18572 (by decide)
      show σ' 18572 = _
      omega
    · rw [if_neg (by decide)]
      exact lw_id (hs _ (by decide)) (hm _ (by decide))
    · rw [if_neg (by decide)]
      exact lw_id (hs _ (by decide)) (hm _ (by decide))
    · rw [if_neg (by decide)]
      exact lw_id (hs _ (by decide)) (hm _ (by decide)))), (fun m hm12 => (by
    rcases (show m = 0 ∨ m = 1 ∨ m = 2 ∨ m = 3 ∨ m = 4 ∨ m = 5 ∨ m = 6 ∨ m = 7 ∨ m = 8 ∨ m = 9 ∨ m = 10 ∨ m = 11 by omega) with rfl | rfl | rfl | rfl | rfl | rfl | rfl | rfl | rfl | rfl | rfl | rfl
    · rw [if_neg (by decide)]
      exact lw_id (hs _ (by decide)) (hm _ (by decide))
    · rw [if_neg (by decide)]
      exact lw_id (hs _ (by decide)) (hm _ (by decide))
    · rw [if_neg (by decide)]
      exact lw_id (hs _ (by decide)) (hm _ (by decide))
    · rw [if_neg (by decide)]
      exact lw_id (hs _ (by decide)) (hm _ (by decide))
    · rw [if_neg (by decide)]
      exact lw_id (hs _ (by decide)) (hm _ (by decide))
    · rw [if_neg (by decide)]
      exact lw_id (hs _ (by decide)) (hm _ (by decide))
    · rw [if_neg (by decide)]
      exact lw_id (hs _ (by decide)) (hm _ (by decide))
    · rw [if_neg (by decide)]
      exact lw_id (hs _ (by decide)) (hm _ (by decide))
    · rw [if_pos rfl]
      have mk : σ' 18584 = 0 + (1 * τ 19003 + 0) := hm 18584 (by decide)
      show σ' 18584 = _
      omega
    · rw [if_neg (by decide)]
      exact lw_id (hs _ (by decide)) (hm _ (by decide))
    · rw [if_neg (by decide)]
      exact lw_id (hs _ (by decide)) (hm _ (by decide))
    · rw [if_neg (by decide)]
      exact lw_id (hs _ (by decide)) (hm _ (by decide))))⟩
set_option maxHeartbeats 1000000 in
theorem lw_um_29 {as : List rv_A} {σ σ' : Nat → Int} {o : rv_O} {x : Int32} {a1 a2 a3 : Int} {τ : Nat → Int} (hx : o.1 = some (.inl x)) (h1 : lw_av as 1 = a1) (h2 : lw_av as 2 = a2) (h3 : lw_av as 3 = a3) (hb : ∀ s, (sx_sr s).1 ≤ σ s ∧ σ s ≤ (sx_sr s).2) (hW : lw_W ([], [((-1), [(12804, 1)]), ((-9), [(12805, 1)]), (9, [(12805, (-1))]), (0, [(19001, 1)]), (6, [(19001, (-1))]), ((-1), [(19002, 1)]), (7, [(19002, (-1))]), ((-1), [(19001, (-1)), (19002, 1)]), ((-1), [(12804, 1), (19002, (-1))]), ((-1), [(12804, 1), (19001, (-1))])], [(12800, (0, [])), (12805, (1, [(12805, 1)])), (18561, (0, [(19001, 1)])), (18573, (0, [(19002, 1)])), (18585, (0, [(19003, 1)]))], some (false, (1, []))) as σ σ' τ o) : lw_um_C a1 a2 a3 x.toInt σ σ' := by
  unfold lw_um_C
  obtain ⟨hs, ht, hf, hr, hm, hw⟩ := hW
  have e1 : τ 19001 = a1 := by rw [ht 19001 (by decide) (by decide)]; exact h1
  have e2 : τ 19002 = a2 := by rw [ht 19002 (by decide) (by decide)]; exact h2
  have e3 : τ 19003 = a3 := by rw [ht 19003 (by decide) (by decide)]; exact h3
  rw [hx] at hr
  obtain ⟨y, hy, hv⟩ := hr
  cases hy
  replace hv : x.toInt = 1 + 0 := hv
  have hb0 := hb 12805
  rw [show sx_sr 12805 = (0, 12) from by decide +kernel] at hb0
  have s12805 : τ 12805 = σ 12805 := hs 12805 (by decide)
  have s12804 : τ 12804 = σ 12804 := hs 12804 (by decide)
  have f0 : 0 ≤ (-1) + (1 * τ 12804 + 0) := hf _ (List.Mem.head _)
  have f1 : 0 ≤ (-9) + (1 * τ 12805 + 0) := hf _ (List.Mem.tail _ (List.Mem.head _))
  have f2 : 0 ≤ 9 + ((-1) * τ 12805 + 0) := hf _ (List.Mem.tail _ (List.Mem.tail _ (List.Mem.head _)))
  have f3 : 0 ≤ 0 + (1 * τ 19001 + 0) := hf _ (List.Mem.tail _ (List.Mem.tail _ (List.Mem.tail _ (List.Mem.head _))))
  have f4 : 0 ≤ 6 + ((-1) * τ 19001 + 0) := hf _ (List.Mem.tail _ (List.Mem.tail _ (List.Mem.tail _ (List.Mem.tail _ (List.Mem.head _)))))
  have f5 : 0 ≤ (-1) + (1 * τ 19002 + 0) := hf _ (List.Mem.tail _ (List.Mem.tail _ (List.Mem.tail _ (List.Mem.tail _ (List.Mem.tail _ (List.Mem.head _))))))
  have f6 : 0 ≤ 7 + ((-1) * τ 19002 + 0) := hf _ (List.Mem.tail _ (List.Mem.tail _ (List.Mem.tail _ (List.Mem.tail _ (List.Mem.tail _ (List.Mem.tail _ (List.Mem.head _)))))))
  have f7 : 0 ≤ (-1) + ((-1) * τ 19001 + (1 * τ 19002 + 0)) := hf _ (List.Mem.tail _ (List.Mem.tail _ (List.Mem.tail _ (List.Mem.tail _ (List.Mem.tail _ (List.Mem.tail _ (List.Mem.tail _ (List.Mem.head _))))))))
  have f8 : 0 ≤ (-1) + (1 * τ 12804 + ((-1) * τ 19002 + 0)) := hf _ (List.Mem.tail _ (List.Mem.tail _ (List.Mem.tail _ (List.Mem.tail _ (List.Mem.tail _ (List.Mem.tail _ (List.Mem.tail _ (List.Mem.tail _ (List.Mem.head _)))))))))
  have f9 : 0 ≤ (-1) + (1 * τ 12804 + ((-1) * τ 19001 + 0)) := hf _ (List.Mem.tail _ (List.Mem.tail _ (List.Mem.tail _ (List.Mem.tail _ (List.Mem.tail _ (List.Mem.tail _ (List.Mem.tail _ (List.Mem.tail _ (List.Mem.tail _ (List.Mem.head _))))))))))
  have mM : σ' 12805 = 1 + (1 * τ 12805 + 0) := hm 12805 (by decide)
  have hk : (σ 12805).toNat = 9 := by omega
  rw [hk]
  exact Or.inl ⟨by omega, by omega, by omega, by omega, by omega, by omega, by omega, by omega, by omega, (fun m hm12 => (by
    rcases (show m = 0 ∨ m = 1 ∨ m = 2 ∨ m = 3 ∨ m = 4 ∨ m = 5 ∨ m = 6 ∨ m = 7 ∨ m = 8 ∨ m = 9 ∨ m = 10 ∨ m = 11 by omega) with rfl | rfl | rfl | rfl | rfl | rfl | rfl | rfl | rfl | rfl | rfl | rfl
    · rw [if_neg (by decide)]
      exact lw_id (hs _ (by decide)) (hm _ (by decide))
    · rw [if_neg (by decide)]
      exact lw_id (hs _ (by decide)) (hm _ (by decide))
    · rw [if_neg (by decide)]
      exact lw_id (hs _ (by decide)) (hm _ (by decide))
    · rw [if_neg (by decide)]
      exact lw_id (hs _ (by decide)) (hm _ (by decide))
    · rw [if_neg (by decide)]
      exact lw_id (hs _ (by decide)) (hm _ (by decide))
    · rw [if_neg (by decide)]
      exact lw_id (hs _ (by decide)) (hm _ (by decide))
    · rw [if_neg (by decide)]
      exact lw_id (hs _ (by decide)) (hm _ (by decide))
    · rw [if_neg (by decide)]
      exact lw_id (hs _ (by decide)) (hm _ (by decide))
    · rw [if_neg (by decide)]
      exact lw_id (hs _ (by decide)) (hm _ (by decide))
    · rw [if_pos rfl]
      have mk : σ' 18561 = 0 + (1 * τ 19001 + 0) := hm 18561 (by decide)
      show σ' 18561 = _
      omega
    · rw [if_neg (by decide)]
      exact lw_id (hs _ (by decide)) (hm _ (by decide))
    · rw [if_neg (by decide)]
      exact lw_id (hs _ (by decide)) (hm _ (by decide)))), (fun m hm12 => (by
    rcases (show m = 0 ∨ m = 1 ∨ m = 2 ∨ m = 3 ∨ m = 4 ∨ m = 5 ∨ m = 6 ∨ m = 7 ∨ m = 8 ∨ m = 9 ∨ m = 10 ∨ m = 11 by omega) with rfl | rfl | rfl | rfl | rfl | rfl | rfl | rfl | rfl | rfl | rfl | rfl
    · rw [if_neg (by decide)]
      exact lw_id (hs _ (by decide)) (hm _ (by decide))
    · rw [if_neg (by decide)]
      exact lw_id (hs _ (by decide)) (hm _ (by decide))
    · rw [if_neg (by decide)]
      exact lw_id (hs _ (by decide)) (hm _ (by decide))
    · rw [if_neg (by decide)]
      exact lw_id (hs _ (by decide)) (hm _ (by decide))
    · rw [if_neg (by decide)]
      exact lw_id (hs _ (by decide)) (hm _ (by decide))
    · rw [if_neg (by decide)]
      exact lw_id (hs _ (by decide)) (hm _ (by decide))
    · rw [if_neg (by decide)]
      exact lw_id (hs _ (by decide)) (hm _ (by decide))
    · rw [if_neg (by decide)]
      exact lw_id (hs _ (by decide)) (hm _ (by decide))
    · rw [if_neg (by decide)]
      exact lw_id (hs _ (by decide)) (hm _ (by decide))
    · rw [if_pos rfl]
      have mk : σ' 18573 = 0 + (1 * τ 19002 + 0) := hm 18573 (by decide)
      show σ' 18573 = _
      omega
    · rw [if_neg (by decide)]
      exact lw_id (hs _ (by decide)) (hm _ (by decide))
    · rw [if_neg (by decide)]
      exact lw_id (hs _ (by decide)) (hm _ (by decide)))), (fun m hm12 => (by
    rcases (show m = 0 ∨ m = 1 ∨ m = 2 ∨ m = 3 ∨ m = 4 ∨ m = 5 ∨ m = 6 ∨ m = 7 ∨ m = 8 ∨ m = 9 ∨ m = 10 ∨ m = 11 by omega) with rfl | rfl | rfl | rfl | rfl | rfl | rfl | rfl | rfl | rfl | rfl | rfl
    · rw [if_neg (by decide)]
      exact lw_id (hs _ (by decide)) (hm _ (by decide))
    · rw [if_neg (by decide)]
      exact lw_id (hs _ (by decide)) (hm _ (by decide))
    · rw [if_neg (by decide)]
      exact lw_id (hs _ (by decide)) (hm _ (by decide))
    · rw [if_neg (by decide)]
      exact lw_id (hs _ (by decide)) (hm _ (by decide))
    · rw [if_neg (by decide)]
      exact lw_id (hs _ (by decide)) (hm _ (by decide))
    · rw [if_neg (by decide)]
      exact lw_id (hs _ (by decide)) (hm _ (by decide))
    · rw [if_neg (by decide)]
      exact lw_id (hs _ (by decide)) (hm _ (by decide))
    · rw [if_neg (by decide)]
      exact lw_id (hs _ (by decide)) (hm _ (by decide))
    · rw [if_neg (by decide)]
      exact lw_id (hs _ (by decide)) (hm _ (by decide))
    · rw [if_pos rfl]
      have mk : σ' 18585 = 0 + (1 * τ 19003 + 0) := hm 18585 (by decide)
      show σ' 18585 = _
      omega
    · rw [if_neg (by decide)]
      exact lw_id (hs _ (by decide)) (hm _ (by decide))
    · rw [if_neg (by decide)]
      exact lw_id (hs _ (by decide)) (hm _ (by decide))))⟩
set_option maxHeartbeats 1000000 in
theorem lw_um_30 {as : List rv_A} {σ σ' : Nat → Int} {o : rv_O} {x : Int32} {a1 a2 a3 : Int} {τ : Nat → Int} (hx : o.1 = some (.inl x)) (h1 : lw_av as 1 = a1) (h2 : lw_av as 2 = a2) (h3 : lw_av as 3 = a3) (hb : ∀ s, (sx_sr s).1 ≤ σ s ∧ σ s ≤ (sx_sr s).2) (hW : lw_W ([], [((-1), [(12804, 1)]), ((-9), [(12805, 1)]), (9, [(12805, (-1))]), ((-1), [(19001, 1)]), (7, [(19001, (-1))]), (0, [(19002, 1)]), (6, [(19002, (-1))]), ((-1), [(19001, 1), (19002, (-1))]), ((-1), [(12804, 1), (19002, (-1))]), ((-1), [(12804, 1), (19001, (-1))])], [(12800, (0, [])), (12805, (1, [(12805, 1)])), (18561, (0, [(19001, 1)])), (18573, (0, [(19002, 1)])), (18585, (0, [(19003, 1)]))], some (false, (1, []))) as σ σ' τ o) : lw_um_C a1 a2 a3 x.toInt σ σ' := by
  unfold lw_um_C
  obtain ⟨hs, ht, hf, hr, hm, hw⟩ := hW
  have e1 : τ 19001 = a1 := by rw [ht 19001 (by decide) (by decide)]; exact h1
  have e2 : τ 19002 = a2 := by rw [ht 19002 (by decide) (by decide)]; exact h2
  have e3 : τ 19003 = a3 := by rw [ht 19003 (by decide) (by decide)]; exact h3
  rw [hx] at hr
  obtain ⟨y, hy, hv⟩ := hr
  cases hy
  replace hv : x.toInt = 1 + 0 := hv
  have hb0 := hb 12805
  rw [show sx_sr 12805 = (0, 12) from by decide +kernel] at hb0
  have s12805 : τ 12805 = σ 12805 := hs 12805 (by decide)
  have s12804 : τ 12804 = σ 12804 := hs 12804 (by decide)
  have f0 : 0 ≤ (-1) + (1 * τ 12804 + 0) := hf _ (List.Mem.head _)
  have f1 : 0 ≤ (-9) + (1 * τ 12805 + 0) := hf _ (List.Mem.tail _ (List.Mem.head _))
  have f2 : 0 ≤ 9 + ((-1) * τ 12805 + 0) := hf _ (List.Mem.tail _ (List.Mem.tail _ (List.Mem.head _)))
  have f3 : 0 ≤ (-1) + (1 * τ 19001 + 0) := hf _ (List.Mem.tail _ (List.Mem.tail _ (List.Mem.tail _ (List.Mem.head _))))
  have f4 : 0 ≤ 7 + ((-1) * τ 19001 + 0) := hf _ (List.Mem.tail _ (List.Mem.tail _ (List.Mem.tail _ (List.Mem.tail _ (List.Mem.head _)))))
  have f5 : 0 ≤ 0 + (1 * τ 19002 + 0) := hf _ (List.Mem.tail _ (List.Mem.tail _ (List.Mem.tail _ (List.Mem.tail _ (List.Mem.tail _ (List.Mem.head _))))))
  have f6 : 0 ≤ 6 + ((-1) * τ 19002 + 0) := hf _ (List.Mem.tail _ (List.Mem.tail _ (List.Mem.tail _ (List.Mem.tail _ (List.Mem.tail _ (List.Mem.tail _ (List.Mem.head _)))))))
  have f7 : 0 ≤ (-1) + (1 * τ 19001 + ((-1) * τ 19002 + 0)) := hf _ (List.Mem.tail _ (List.Mem.tail _ (List.Mem.tail _ (List.Mem.tail _ (List.Mem.tail _ (List.Mem.tail _ (List.Mem.tail _ (List.Mem.head _))))))))
  have f8 : 0 ≤ (-1) + (1 * τ 12804 + ((-1) * τ 19002 + 0)) := hf _ (List.Mem.tail _ (List.Mem.tail _ (List.Mem.tail _ (List.Mem.tail _ (List.Mem.tail _ (List.Mem.tail _ (List.Mem.tail _ (List.Mem.tail _ (List.Mem.head _)))))))))
  have f9 : 0 ≤ (-1) + (1 * τ 12804 + ((-1) * τ 19001 + 0)) := hf _ (List.Mem.tail _ (List.Mem.tail _ (List.Mem.tail _ (List.Mem.tail _ (List.Mem.tail _ (List.Mem.tail _ (List.Mem.tail _ (List.Mem.tail _ (List.Mem.tail _ (List.Mem.head _))))))))))
  have mM : σ' 12805 = 1 + (1 * τ 12805 + 0) := hm 12805 (by decide)
  have hk : (σ 12805).toNat = 9 := by omega
  rw [hk]
  exact Or.inl ⟨by omega, by omega, by omega, by omega, by omega, by omega, by omega, by omega, by omega, (fun m hm12 => (by
    rcases (show m = 0 ∨ m = 1 ∨ m = 2 ∨ m = 3 ∨ m = 4 ∨ m = 5 ∨ m = 6 ∨ m = 7 ∨ m = 8 ∨ m = 9 ∨ m = 10 ∨ m = 11 by omega) with rfl | rfl | rfl | rfl | rfl | rfl | rfl | rfl | rfl | rfl | rfl | rfl
    · rw [if_neg (by decide)]
      exact lw_id (hs _ (by decide)) (hm _ (by decide))
    · rw [if_neg (by decide)]
      exact lw_id (hs _ (by decide)) (hm _ (by decide))
    · rw [if_neg (by decide)]
      exact lw_id (hs _ (by decide)) (hm _ (by decide))
    · rw [if_neg (by decide)]
      exact lw_id (hs _ (by decide)) (hm _ (by decide))
    · rw [if_neg (by decide)]
      exact lw_id (hs _ (by decide)) (hm _ (by decide))
    · rw [if_neg (by decide)]
      exact lw_id (hs _ (by decide)) (hm _ (by decide))
    · rw [if_neg (by decide)]
      exact lw_id (hs _ (by decide)) (hm _ (by decide))
    · rw [if_neg (by decide)]
      exact lw_id (hs _ (by decide)) (hm _ (by decide))
    · rw [if_neg (by decide)]
      exact lw_id (hs _ (by decide)) (hm _ (by decide))
    · rw [if_pos rfl]
      have mk : σ' 18561 = 0 + (1 * τ 19001 + 0) := hm 18561 (by decide)
      show σ' 18561 = _
      omega
    · rw [if_neg (by decide)]
      exact lw_id (hs _ (by decide)) (hm _ (by decide))
    · rw [if_neg (by decide)]
      exact lw_id (hs _ (by decide)) (hm _ (by decide)))), (fun m hm12 => (by
    rcases (show m = 0 ∨ m = 1 ∨ m = 2 ∨ m = 3 ∨ m = 4 ∨ m = 5 ∨ m = 6 ∨ m = 7 ∨ m = 8 ∨ m = 9 ∨ m = 10 ∨ m = 11 by omega) with rfl | rfl | rfl | rfl | rfl | rfl | rfl | rfl | rfl | rfl | rfl | rfl
    · rw [if_neg (by decide)]
      exact lw_id (hs _ (by decide)) (hm _ (by decide))
    · rw [if_neg (by decide)]
      exact lw_id (hs _ (by decide)) (hm _ (by decide))
    · rw [if_neg (by decide)]
      exact lw_id (hs _ (by decide)) (hm _ (by decide))
    · rw [if_neg (by decide)]
      exact lw_id (hs _ (by decide)) (hm _ (by decide))
    · rw [if_neg (by decide)]
      exact lw_id (hs _ (by decide)) (hm _ (by decide))
    · rw [if_neg (by decide)]
      exact lw_id (hs _ (by decide)) (hm _ (by decide))
    · rw [if_neg (by decide)]
      exact lw_id (hs _ (by decide)) (hm _ (by decide))
    · rw [if_neg (by decide)]
      exact lw_id (hs _ (by decide)) (hm _ (by decide))
    · rw [if_neg (by decide)]
      exact lw_id (hs _ (by decide)) (hm _ (by decide))
    · rw [if_pos rfl]
      have mk : σ' 18573 = 0 + (1 * τ 19002 + 0) := hm 18573 (by decide)
      show σ' 18573 = _
      omega
    · rw [if_neg (by decide)]
      exact lw_id (hs _ (by decide)) (hm _ (by decide))
    · rw [if_neg (by decide)]
      exact lw_id (hs _ (by decide)) (hm _ (by decide)))), (fun m hm12 => (by
    rcases (show m = 0 ∨ m = 1 ∨ m = 2 ∨ m = 3 ∨ m = 4 ∨ m = 5 ∨ m = 6 ∨ m = 7 ∨ m = 8 ∨ m = 9 ∨ m = 10 ∨ m = 11 by omega) with rfl | rfl | rfl | rfl | rfl | rfl | rfl | rfl | rfl | rfl | rfl | rfl
    · rw [if_neg (by decide)]
      exact lw_id (hs _ (by decide)) (hm _ (by decide))
    · rw [if_neg (by decide)]
      exact lw_id (hs _ (by decide)) (hm _ (by decide))
    · rw [if_neg (by decide)]
      exact lw_id (hs _ (by decide)) (hm _ (by decide))
    · rw [if_neg (by decide)]
      exact lw_id (hs _ (by decide)) (hm _ (by decide))
    · rw [if_neg (by decide)]
      exact lw_id (hs _ (by decide)) (hm _ (by decide))
    · rw [if_neg (by decide)]
      exact lw_id (hs _ (by decide)) (hm _ (by decide))
    · rw [if_neg (by decide)]
      exact lw_id (hs _ (by decide)) (hm _ (by decide))
    · rw [if_neg (by decide)]
      exact lw_id (hs _ (by decide)) (hm _ (by decide))
    · rw [if_neg (by decide)]
      exact lw_id (hs _ (by decide)) (hm _ (by decide))
    · rw [if_pos rfl]
      have mk : σ' 18585 = 0 + (1 * τ 19003 + 0) := hm 18585 (by decide)
      show σ' 18585 = _
      omega
    · rw [if_neg (by decide)]
      exact lw_id (hs _ (by decide)) (hm _ (by decide))
    · rw [if_neg (by decide)]
      exact lw_id (hs _ (by decide)) (hm _ (by decide))))⟩
set_option maxHeartbeats 8000000 in
theorem lw_um {as : List rv_A} {σ σ' : Nat → Int} {o : rv_O} {x : Int32} {a1 a2 a3 : Int} (hx : o.1 = some (.inl x)) (h1 : lw_av as 1 = a1) (h2 : lw_av as 2 = a2) (h3 : lw_av as 3 = a3) (hb : ∀ s, (sx_sr s).1 ≤ σ s ∧ σ s ≤ (sx_sr s).2) (h : lw_Qc sx_c316 as σ σ' o) : lw_um_C a1 a2 a3 x.toInt σ σ' := by
  obtain ⟨g, hg, τ, hW⟩ := h
  simp only [sx_c316, List.mem_cons, List.not_mem_nil, or_false] at hg
  rcases hg with rfl | rfl | rfl | rfl | rfl | rfl | rfl | rfl | rfl | rfl | rfl | rfl | rfl | rfl | rfl | rfl | rfl | rfl | rfl | rfl | rfl | rfl | rfl | rfl | rfl | rfl | rfl | rfl | rfl | rfl | rfl
  · exact lw_um_0 hx h1 h2 h3 hb hW
  · exact lw_um_1 hx h1 h2 h3 hb hW
  · exact lw_um_2 hx h1 h2 h3 hb hW
  · exact lw_um_3 hx h1 h2 h3 hb hW
  · exact lw_um_4 hx h1 h2 h3 hb hW
  · exact lw_um_5 hx h1 h2 h3 hb hW
  · exact lw_um_6 hx h1 h2 h3 hb hW
  · exact lw_um_7 hx h1 h2 h3 hb hW
  · exact lw_um_8 hx h1 h2 h3 hb hW
  · exact lw_um_9 hx h1 h2 h3 hb hW
  · exact lw_um_10 hx h1 h2 h3 hb hW
  · exact lw_um_11 hx h1 h2 h3 hb hW
  · exact lw_um_12 hx h1 h2 h3 hb hW
  · exact lw_um_13 hx h1 h2 h3 hb hW
  · exact lw_um_14 hx h1 h2 h3 hb hW
  · exact lw_um_15 hx h1 h2 h3 hb hW
  · exact lw_um_16 hx h1 h2 h3 hb hW
  · exact lw_um_17 hx h1 h2 h3 hb hW
  · exact lw_um_18 hx h1 h2 h3 hb hW
  · exact lw_um_19 hx h1 h2 h3 hb hW
  · exact lw_um_20 hx h1 h2 h3 hb hW
  · exact lw_um_21 hx h1 h2 h3 hb hW
  · exact lw_um_22 hx h1 h2 h3 hb hW
  · exact lw_um_23 hx h1 h2 h3 hb hW
  · exact lw_um_24 hx h1 h2 h3 hb hW
  · exact lw_um_25 hx h1 h2 h3 hb hW
  · exact lw_um_26 hx h1 h2 h3 hb hW
  · exact lw_um_27 hx h1 h2 h3 hb hW
  · exact lw_um_28 hx h1 h2 h3 hb hW
  · exact lw_um_29 hx h1 h2 h3 hb hW
  · exact lw_um_30 hx h1 h2 h3 hb hW
def lw_L1 : List Nat := [135, 12806, 12805, 133, 12804, 18552, 18553, 18554, 18555, 18556, 18557, 18558, 18559, 18560, 18561, 18562, 18563, 18564, 18565, 18566, 18567, 18568, 18569, 18570, 18571, 18572, 18573, 18574, 18575, 18576, 18577, 18578, 18579, 18580, 18581, 18582, 18583, 18584, 18585, 18586, 18587]
def lw_L2 : List Nat := [135, 12806, 133, 18536, 18537, 18538, 18539, 18540, 18541, 18542, 18543, 18544, 18545, 18546, 18547, 18548, 18549, 18550, 18551]
set_option maxHeartbeats 4000000 in
theorem lw_spm7 {y1 y2 y3 y4 : Int32} {o1 o2 : rv_O} {h0 : List rv_C} {σ σ1 σ2 : Nat → Int} {z1 z2 : Int32} (hz1 : o1.1 = some (.inl z1)) (hz2 : o2.1 = some (.inl z2)) (h1 : lw_Qc sx_c219 [rv_ref 0, .inl y1, .inl y2, .inl y3] σ σ1 o1) (h2 : lw_Qc sx_c316 [rv_ref 100, .inl y1, .inl y2, .inl y4] σ1 σ2 o2) (hy : 0 ≤ y3.toInt ∧ y3.toInt ≤ 1) (hyy : y4 = y3) (hzz : z1 = z2) (hR : lw_R σ) (hM : lw_M σ) (hJ : lw_Js σ h0) (hJ1 : lw_Js σ1 o1.2) (hJ2 : lw_Js σ2 o2.2) : lw_M σ2 := by
  subst hyy
  have hH := lw_hh hJ1
  obtain ⟨g0, g1, g2, g3, g4, g5, g6, g7, g8, g9, g10, g11, g12, g13, g14, g15, g16, g17, g18, g19, g20, g21, g22, g23, g24, g25, g26, g27, g28, g29, g30, g31, g32, g33, g34, g35, g36⟩ := hH
  have gx := lw_ux (a1 := y1.toInt) (a2 := y2.toInt) (a3 := y4.toInt) hz1 rfl rfl rfl g5 g6 h1
  have gm := lw_um (a1 := y1.toInt) (a2 := y2.toInt) (a3 := y4.toInt) hz2 rfl rfl rfl hJ1.2.1 h2
  have kx := lw_kl (L := lw_L1) (by decide +kernel) h1
  have km := lw_kl (L := lw_L2) (by decide +kernel) h2
  have xA : ∀ p, p < 12 → σ1 (18552 + p) = σ (18552 + p) := fun p hp => (by rcases (show p = 0 ∨ p = 1 ∨ p = 2 ∨ p = 3 ∨ p = 4 ∨ p = 5 ∨ p = 6 ∨ p = 7 ∨ p = 8 ∨ p = 9 ∨ p = 10 ∨ p = 11 by omega) with rfl | rfl | rfl | rfl | rfl | rfl | rfl | rfl | rfl | rfl | rfl | rfl <;> exact kx _ (by decide))
  have xB : ∀ p, p < 12 → σ1 (18564 + p) = σ (18564 + p) := fun p hp => (by rcases (show p = 0 ∨ p = 1 ∨ p = 2 ∨ p = 3 ∨ p = 4 ∨ p = 5 ∨ p = 6 ∨ p = 7 ∨ p = 8 ∨ p = 9 ∨ p = 10 ∨ p = 11 by omega) with rfl | rfl | rfl | rfl | rfl | rfl | rfl | rfl | rfl | rfl | rfl | rfl <;> exact kx _ (by decide))
  have xT : ∀ p, p < 12 → σ1 (18576 + p) = σ (18576 + p) := fun p hp => (by rcases (show p = 0 ∨ p = 1 ∨ p = 2 ∨ p = 3 ∨ p = 4 ∨ p = 5 ∨ p = 6 ∨ p = 7 ∨ p = 8 ∨ p = 9 ∨ p = 10 ∨ p = 11 by omega) with rfl | rfl | rfl | rfl | rfl | rfl | rfl | rfl | rfl | rfl | rfl | rfl <;> exact kx _ (by decide))
  have mP : ∀ p, p < 8 → σ2 (18536 + p) = σ1 (18536 + p) := fun p hp => (by rcases (show p = 0 ∨ p = 1 ∨ p = 2 ∨ p = 3 ∨ p = 4 ∨ p = 5 ∨ p = 6 ∨ p = 7 by omega) with rfl | rfl | rfl | rfl | rfl | rfl | rfl | rfl <;> exact km _ (by decide))
  have mB : ∀ p, p < 8 → σ2 (18544 + p) = σ1 (18544 + p) := fun p hp => (by rcases (show p = 0 ∨ p = 1 ∨ p = 2 ∨ p = 3 ∨ p = 4 ∨ p = 5 ∨ p = 6 ∨ p = 7 by omega) with rfl | rfl | rfl | rfl | rfl | rfl | rfl | rfl <;> exact km _ (by decide))
  have x1 := kx 135 (by decide)
  have x2 := kx 12806 (by decide)
  have x3 := kx 12805 (by decide)
  have x4 := kx 133 (by decide)
  have x5 := kx 12804 (by decide)
  have m1 := km 135 (by decide)
  have m2 := km 12806 (by decide)
  have m4 := km 133 (by decide)
  clear kx km g0 g1 g2 g3 g4 g5 g6 g7 g8 g9 g10 g11 g12 g13 g14 g15 g16 g17 g18 g19 g20 g21 g22 g23 g24 g25 g26 g27 g28 g29 g30 g31 g32 g33 g34 g35 g36
  have hb := hJ1.2.1 133
  rw [show sx_sr 133 = (0, 8) from by decide +kernel] at hb
  obtain ⟨b1, b2, b3, b4, b5⟩ := hM
  obtain ⟨r0, -⟩ := hR
  unfold lw_ux_C at gx
  unfold lw_um_C at gm
  have hzi : z1.toInt = z2.toInt := by rw [hzz]
  rcases gx with ⟨p1, p2, p3, p4, p5, p6⟩ | ⟨p1, p2, p3⟩
  · rcases gm with ⟨q1, q2, q3, q4, q5, q6, q7, q8, q9, q10, q11, q12⟩ | ⟨q1, -⟩
    · have hmr := lw_mr_1 (ap' := (fun p => σ1 (18536 + p))) (bd' := (fun p => σ1 (18544 + p))) (ma' := (fun p => σ2 (18552 + p))) (mb' := (fun p => σ2 (18564 + p))) (mt' := (fun p => σ2 (18576 + p))) (t := y4.toInt) (a := y1.toInt.toNat) (b := y2.toInt.toNat) (c := (σ1 12805).toNat) b5 (by omega) (by omega) (by omega) (by omega) (by omega)
        (by
          rcases p6 with ⟨t1, t2, t3⟩ | ⟨t1, t2, t3⟩
          · exact Or.inl ⟨by omega, t2, t3⟩
          · exact Or.inr ⟨by omega, t2, t3⟩)
        (fun m hm => (q10 m hm).trans (by
          by_cases e : m = (σ1 12805).toNat
          · rw [if_pos e, if_pos e]; omega
          · rw [if_neg e, if_neg e]; exact xA m hm))
        (fun m hm => (q11 m hm).trans (by
          by_cases e : m = (σ1 12805).toNat
          · rw [if_pos e, if_pos e]; omega
          · rw [if_neg e, if_neg e]; exact xB m hm))
        (fun m hm => (q12 m hm).trans (by
          by_cases e : m = (σ1 12805).toNat
          · rw [if_pos e, if_pos e]
          · rw [if_neg e, if_neg e]; exact xT m hm))
      refine ⟨by omega, by omega, by omega, by omega, ?_⟩
      rw [show σ2 133 = σ 133 by omega, show σ2 12805 = σ 12805 + 1 by omega]
      exact lw_mr_cg mP mB (fun _ _ => rfl) (fun _ _ => rfl) (fun _ _ => rfl) hmr
    · omega
  · rcases gm with ⟨q1, -⟩ | ⟨q1, q2, q3, q4, q5⟩
    · omega
    · refine ⟨by omega, by omega, by omega, by omega, ?_⟩
      rw [show σ2 133 = σ 133 by omega, show σ2 12805 = σ 12805 by omega]
      exact lw_mr_cg (fun p hp => (mP p hp).trans (p2 p hp)) (fun p hp => (mB p hp).trans (p3 p hp)) (fun p hp => (q3 p hp).trans (xA p hp)) (fun p hp => (q4 p hp).trans (xB p hp)) (fun p hp => (q5 p hp).trans (xT p hp)) b5
def lw_L3 : List Nat := [12806, 12805, 133, 18536, 18537, 18538, 18539, 18540, 18541, 18542, 18543, 18544, 18545, 18546, 18547, 18548, 18549, 18550, 18551, 18552, 18553, 18554, 18555, 18556, 18557, 18558, 18559, 18560, 18561, 18562, 18563, 18564, 18565, 18566, 18567, 18568, 18569, 18570, 18571, 18572, 18573, 18574, 18575, 18576, 18577, 18578, 18579, 18580, 18581, 18582, 18583, 18584, 18585, 18586, 18587]
def lw_L4 : List Nat := [135, 12805, 133, 18536, 18537, 18538, 18539, 18540, 18541, 18542, 18543, 18544, 18545, 18546, 18547, 18548, 18549, 18550, 18551, 18552, 18553, 18554, 18555, 18556, 18557, 18558, 18559, 18560, 18561, 18562, 18563, 18564, 18565, 18566, 18567, 18568, 18569, 18570, 18571, 18572, 18573, 18574, 18575, 18576, 18577, 18578, 18579, 18580, 18581, 18582, 18583, 18584, 18585, 18586, 18587]
def lw_vx_C (a1 z : Int) (σ σ' : Nat → Int) : Prop := (z = 1 ∧ 1 ≤ a1 ∧ a1 ≤ 255 ∧ σ' 135 = a1) ∨ (z = 0 ∧ ¬ (1 ≤ a1 ∧ a1 ≤ 255) ∧ σ' 135 = σ 135)
theorem lw_vx_0 {as : List rv_A} {σ σ' : Nat → Int} {o : rv_O} {x : Int32} {a1 : Int} {τ : Nat → Int} (hx : o.1 = some (.inl x)) (h1 : lw_av as 1 = a1) (hb : ∀ s, (sx_sr s).1 ≤ σ s ∧ σ s ≤ (sx_sr s).2) (hW : lw_W ([], [(0, [(19001, (-1))])], [(9, (1, []))], some (false, (0, []))) as σ σ' τ o) : lw_vx_C a1 x.toInt σ σ' := by
  unfold lw_vx_C
  obtain ⟨hs, ht, hf, hr, hm, hw⟩ := hW
  have e1 : τ 19001 = a1 := by rw [ht 19001 (by decide) (by decide)]; exact h1
  have s135 : τ 135 = σ 135 := hs 135 (by decide)
  clear hs ht hb
  rw [hx] at hr
  obtain ⟨y, hy, hv⟩ := hr
  cases hy
  replace hv : x.toInt = 0 + 0 := hv
  have f0 : 0 ≤ 0 + ((-1) * τ 19001 + 0) := hf _ (List.Mem.head _)
  have m135 : σ' 135 = 0 + (1 * τ 135 + 0) := hm 135 (by decide)
  clear hf hm
  omega
theorem lw_vx_1 {as : List rv_A} {σ σ' : Nat → Int} {o : rv_O} {x : Int32} {a1 : Int} {τ : Nat → Int} (hx : o.1 = some (.inl x)) (h1 : lw_av as 1 = a1) (hb : ∀ s, (sx_sr s).1 ≤ σ s ∧ σ s ≤ (sx_sr s).2) (hW : lw_W ([], [((-256), [(19001, 1)])], [(9, (1, []))], some (false, (0, []))) as σ σ' τ o) : lw_vx_C a1 x.toInt σ σ' := by
  unfold lw_vx_C
  obtain ⟨hs, ht, hf, hr, hm, hw⟩ := hW
  have e1 : τ 19001 = a1 := by rw [ht 19001 (by decide) (by decide)]; exact h1
  have s135 : τ 135 = σ 135 := hs 135 (by decide)
  clear hs ht hb
  rw [hx] at hr
  obtain ⟨y, hy, hv⟩ := hr
  cases hy
  replace hv : x.toInt = 0 + 0 := hv
  have f0 : 0 ≤ (-256) + (1 * τ 19001 + 0) := hf _ (List.Mem.head _)
  have m135 : σ' 135 = 0 + (1 * τ 135 + 0) := hm 135 (by decide)
  clear hf hm
  omega
theorem lw_vx_2 {as : List rv_A} {σ σ' : Nat → Int} {o : rv_O} {x : Int32} {a1 : Int} {τ : Nat → Int} (hx : o.1 = some (.inl x)) (h1 : lw_av as 1 = a1) (hb : ∀ s, (sx_sr s).1 ≤ σ s ∧ σ s ≤ (sx_sr s).2) (hW : lw_W ([], [((-1), [(19001, 1)]), (255, [(19001, (-1))])], [(9, (0, [])), (135, (0, [(19001, 1)])), (7048, ((-2), [])), (7049, ((-2), [])), (8069, (0, [])), (11396, ((-2), []))], some (false, (1, []))) as σ σ' τ o) : lw_vx_C a1 x.toInt σ σ' := by
  unfold lw_vx_C
  obtain ⟨hs, ht, hf, hr, hm, hw⟩ := hW
  have e1 : τ 19001 = a1 := by rw [ht 19001 (by decide) (by decide)]; exact h1
  have s135 : τ 135 = σ 135 := hs 135 (by decide)
  clear hs ht hb
  rw [hx] at hr
  obtain ⟨y, hy, hv⟩ := hr
  cases hy
  replace hv : x.toInt = 1 + 0 := hv
  have f0 : 0 ≤ (-1) + (1 * τ 19001 + 0) := hf _ (List.Mem.head _)
  have f1 : 0 ≤ 255 + ((-1) * τ 19001 + 0) := hf _ (List.Mem.tail _ (List.Mem.head _))
  have m135 : σ' 135 = 0 + (1 * τ 19001 + 0) := hm 135 (by decide)
  clear hf hm
  omega
set_option maxHeartbeats 4000000 in
set_option maxRecDepth 100000 in
theorem lw_vx {as : List rv_A} {σ σ' : Nat → Int} {o : rv_O} {x : Int32} {a1 : Int} (hx : o.1 = some (.inl x)) (h1 : lw_av as 1 = a1) (hb : ∀ s, (sx_sr s).1 ≤ σ s ∧ σ s ≤ (sx_sr s).2) (h : lw_Qc sx_c236 as σ σ' o) : lw_vx_C a1 x.toInt σ σ' := by
  obtain ⟨g, hg, τ, hW⟩ := h
  simp only [sx_c236, List.mem_cons, List.not_mem_nil, or_false] at hg
  rcases hg with rfl | rfl | rfl
  · exact lw_vx_0 hx h1 hb hW
  · exact lw_vx_1 hx h1 hb hW
  · exact lw_vx_2 hx h1 hb hW
def lw_vm_C (a1 z : Int) (σ σ' : Nat → Int) : Prop := (z = 1 ∧ 1 ≤ a1 ∧ a1 ≤ 255 ∧ σ' 12806 = a1) ∨ (z = 0 ∧ ¬ (1 ≤ a1 ∧ a1 ≤ 255) ∧ σ' 12806 = σ 12806)
theorem lw_vm_0 {as : List rv_A} {σ σ' : Nat → Int} {o : rv_O} {x : Int32} {a1 : Int} {τ : Nat → Int} (hx : o.1 = some (.inl x)) (h1 : lw_av as 1 = a1) (hb : ∀ s, (sx_sr s).1 ≤ σ s ∧ σ s ≤ (sx_sr s).2) (hW : lw_W ([], [(0, [(19001, (-1))])], [(12800, (1, []))], some (false, (0, []))) as σ σ' τ o) : lw_vm_C a1 x.toInt σ σ' := by
  unfold lw_vm_C
  obtain ⟨hs, ht, hf, hr, hm, hw⟩ := hW
  have e1 : τ 19001 = a1 := by rw [ht 19001 (by decide) (by decide)]; exact h1
  have s12806 : τ 12806 = σ 12806 := hs 12806 (by decide)
  clear hs ht hb
  rw [hx] at hr
  obtain ⟨y, hy, hv⟩ := hr
  cases hy
  replace hv : x.toInt = 0 + 0 := hv
  have f0 : 0 ≤ 0 + ((-1) * τ 19001 + 0) := hf _ (List.Mem.head _)
  have m12806 : σ' 12806 = 0 + (1 * τ 12806 + 0) := hm 12806 (by decide)
  clear hf hm
  omega
theorem lw_vm_1 {as : List rv_A} {σ σ' : Nat → Int} {o : rv_O} {x : Int32} {a1 : Int} {τ : Nat → Int} (hx : o.1 = some (.inl x)) (h1 : lw_av as 1 = a1) (hb : ∀ s, (sx_sr s).1 ≤ σ s ∧ σ s ≤ (sx_sr s).2) (hW : lw_W ([], [((-256), [(19001, 1)])], [(12800, (1, []))], some (false, (0, []))) as σ σ' τ o) : lw_vm_C a1 x.toInt σ σ' := by
  unfold lw_vm_C
  obtain ⟨hs, ht, hf, hr, hm, hw⟩ := hW
  have e1 : τ 19001 = a1 := by rw [ht 19001 (by decide) (by decide)]; exact h1
  have s12806 : τ 12806 = σ 12806 := hs 12806 (by decide)
  clear hs ht hb
  rw [hx] at hr
  obtain ⟨y, hy, hv⟩ := hr
  cases hy
  replace hv : x.toInt = 0 + 0 := hv
  have f0 : 0 ≤ (-256) + (1 * τ 19001 + 0) := hf _ (List.Mem.head _)
  have m12806 : σ' 12806 = 0 + (1 * τ 12806 + 0) := hm 12806 (by decide)
  clear hf hm
  omega
theorem lw_vm_2 {as : List rv_A} {σ σ' : Nat → Int} {o : rv_O} {x : Int32} {a1 : Int} {τ : Nat → Int} (hx : o.1 = some (.inl x)) (h1 : lw_av as 1 = a1) (hb : ∀ s, (sx_sr s).1 ≤ σ s ∧ σ s ≤ (sx_sr s).2) (hW : lw_W ([], [((-1), [(19001, 1)]), (255, [(19001, (-1))])], [(12800, (0, [])), (12806, (0, [(19001, 1)]))], some (false, (1, []))) as σ σ' τ o) : lw_vm_C a1 x.toInt σ σ' := by
  unfold lw_vm_C
  obtain ⟨hs, ht, hf, hr, hm, hw⟩ := hW
  have e1 : τ 19001 = a1 := by rw [ht 19001 (by decide) (by decide)]; exact h1
  have s12806 : τ 12806 = σ 12806 := hs 12806 (by decide)
  clear hs ht hb
  rw [hx] at hr
  obtain ⟨y, hy, hv⟩ := hr
  cases hy
  replace hv : x.toInt = 1 + 0 := hv
  have f0 : 0 ≤ (-1) + (1 * τ 19001 + 0) := hf _ (List.Mem.head _)
  have f1 : 0 ≤ 255 + ((-1) * τ 19001 + 0) := hf _ (List.Mem.tail _ (List.Mem.head _))
  have m12806 : σ' 12806 = 0 + (1 * τ 19001 + 0) := hm 12806 (by decide)
  clear hf hm
  omega
set_option maxHeartbeats 4000000 in
set_option maxRecDepth 100000 in
theorem lw_vm {as : List rv_A} {σ σ' : Nat → Int} {o : rv_O} {x : Int32} {a1 : Int} (hx : o.1 = some (.inl x)) (h1 : lw_av as 1 = a1) (hb : ∀ s, (sx_sr s).1 ≤ σ s ∧ σ s ≤ (sx_sr s).2) (h : lw_Qc sx_c339 as σ σ' o) : lw_vm_C a1 x.toInt σ σ' := by
  obtain ⟨g, hg, τ, hW⟩ := h
  simp only [sx_c339, List.mem_cons, List.not_mem_nil, or_false] at hg
  rcases hg with rfl | rfl | rfl
  · exact lw_vm_0 hx h1 hb hW
  · exact lw_vm_1 hx h1 hb hW
  · exact lw_vm_2 hx h1 hb hW
theorem lw_spm6 {y1 : Int32} {o1 o2 : rv_O} {h0 : List rv_C} {σ σ1 σ2 : Nat → Int} {z1 z2 : Int32} (hz1 : o1.1 = some (.inl z1)) (hz2 : o2.1 = some (.inl z2)) (h1 : lw_Qc sx_c236 [rv_ref 0, .inl y1] σ σ1 o1) (h2 : lw_Qc sx_c339 [rv_ref 100, .inl y1] σ1 σ2 o2) (hM : lw_M σ) (hJ : lw_Js σ h0) (hJ1 : lw_Js σ1 o1.2) : lw_M σ2 := by
  have g1 := lw_vx (a1 := y1.toInt) hz1 rfl hJ.2.1 h1
  have g2 := lw_vm (a1 := y1.toInt) hz2 rfl hJ1.2.1 h2
  unfold lw_vx_C at g1
  unfold lw_vm_C at g2
  have kx := lw_kl (L := lw_L3) (by decide +kernel) h1
  have km := lw_kl (L := lw_L4) (by decide +kernel) h2
  obtain ⟨b1, b2, b3, b4, b5⟩ := hM
  have x2 := kx 12806 (by decide)
  have x3 := kx 12805 (by decide)
  have x4 := kx 133 (by decide)
  have m1 := km 135 (by decide)
  have m3 := km 12805 (by decide)
  have m4 := km 133 (by decide)
  refine ⟨by omega, by omega, by omega, by omega, ?_⟩
  rw [show σ2 133 = σ 133 by omega, show σ2 12805 = σ 12805 by omega]
  exact lw_mr_cg (fun p hp => (by rcases (show p = 0 ∨ p = 1 ∨ p = 2 ∨ p = 3 ∨ p = 4 ∨ p = 5 ∨ p = 6 ∨ p = 7 by omega) with rfl | rfl | rfl | rfl | rfl | rfl | rfl | rfl <;> exact (km _ (by decide)).trans (kx _ (by decide)))) (fun p hp => (by rcases (show p = 0 ∨ p = 1 ∨ p = 2 ∨ p = 3 ∨ p = 4 ∨ p = 5 ∨ p = 6 ∨ p = 7 by omega) with rfl | rfl | rfl | rfl | rfl | rfl | rfl | rfl <;> exact (km _ (by decide)).trans (kx _ (by decide)))) (fun p hp => (by rcases (show p = 0 ∨ p = 1 ∨ p = 2 ∨ p = 3 ∨ p = 4 ∨ p = 5 ∨ p = 6 ∨ p = 7 ∨ p = 8 ∨ p = 9 ∨ p = 10 ∨ p = 11 by omega) with rfl | rfl | rfl | rfl | rfl | rfl | rfl | rfl | rfl | rfl | rfl | rfl <;> exact (km _ (by decide)).trans (kx _ (by decide)))) (fun p hp => (by rcases (show p = 0 ∨ p = 1 ∨ p = 2 ∨ p = 3 ∨ p = 4 ∨ p = 5 ∨ p = 6 ∨ p = 7 ∨ p = 8 ∨ p = 9 ∨ p = 10 ∨ p = 11 by omega) with rfl | rfl | rfl | rfl | rfl | rfl | rfl | rfl | rfl | rfl | rfl | rfl <;> exact (km _ (by decide)).trans (kx _ (by decide)))) (fun p hp => (by rcases (show p = 0 ∨ p = 1 ∨ p = 2 ∨ p = 3 ∨ p = 4 ∨ p = 5 ∨ p = 6 ∨ p = 7 ∨ p = 8 ∨ p = 9 ∨ p = 10 ∨ p = 11 by omega) with rfl | rfl | rfl | rfl | rfl | rfl | rfl | rfl | rfl | rfl | rfl | rfl <;> exact (km _ (by decide)).trans (kx _ (by decide)))) b5
def lw_pb (P : Int) : Int := if 1 ≤ P ∧ P ≤ 255 then ((sx_pop P.toNat : Nat) : Int) else 1
def lw_sz (P Z : Int) : Int := sx_fshr Z (lw_pb P - 1) % 2
def lw_ok (K P : Int) (ap bd : Nat → Int) : Prop := ∀ j : Nat, j < 8 → (j : Int) < K → lw_bt P j = 0 ∨ ((ap j).toNat &&& P.toNat = 0 ∧ (bd j).toNat &&& P.toNat = (bd j).toNat)
def lw_okm (M P : Int) (ma mb mt : Nat → Int) : Prop := ∀ m : Nat, m < 12 → (m : Int) < M → (1 ≤ mt m → lw_bt P (ma m) = lw_bt P (mb m)) ∧ (mt m ≤ 0 → lw_bt P (ma m) + lw_bt P (mb m) ≤ 1)
noncomputable def lw_v (S : Int) (Q : Prop) : Int := @ite Int (S = 1 ∧ Q) (Classical.propDecidable _) 1 0
def lw_xa (a P : Int) : Int := if a.toNat &&& P.toNat = 0 then 0 else 1
def lw_xb (b P : Int) : Int := if b.toNat &&& P.toNat = b.toNat then 0 else 1
noncomputable def lw_lg (h : List rv_C) (P : Int) : Int := if 0 ≤ P ∧ P ≤ 255 then sx_ga h 130 P.toNat else 0
def lw_q1 (P : Int) : Int := P / 2
def lw_q2 (P : Int) : Int := sx_fand (lw_q1 P) 1431655765
def lw_q3 (P : Int) : Int := sx_fand (P - lw_q2 P) 858993459
def lw_q4 (P : Int) : Int := (P - lw_q2 P) / 4
def lw_q5 (P : Int) : Int := sx_fand (lw_q4 P) 858993459
def lw_q6 (P : Int) : Int := (lw_q3 P + lw_q5 P) / 16
def lw_q7 (P : Int) : Int := sx_fand (lw_q3 P + lw_q5 P + lw_q6 P) 252645135
def lw_j1 (P : Int) : Int := if 1 ≤ P ∧ P ≤ 255 then lw_q1 P else 0
def lw_j2 (P : Int) : Int := if 1 ≤ P ∧ P ≤ 255 then lw_q2 P else 0
def lw_j3 (P : Int) : Int := if 1 ≤ P ∧ P ≤ 255 then lw_q3 P else 0
def lw_j4 (P : Int) : Int := if 1 ≤ P ∧ P ≤ 255 then lw_q4 P else 0
def lw_j5 (P : Int) : Int := if 1 ≤ P ∧ P ≤ 255 then lw_q5 P else 0
def lw_j6 (P : Int) : Int := if 1 ≤ P ∧ P ≤ 255 then lw_q6 P else 0
def lw_j7 (P : Int) : Int := if 1 ≤ P ∧ P ≤ 255 then lw_q7 P else 0
def lw_qb (p : Nat) : Bool := decide (lw_q2 (p : Int) ≤ (p : Int)) && (decide (((sx_pop p : Nat) : Int) = sx_fand (lw_q7 (p : Int)) 63) && (decide (1 ≤ sx_pop p) && (decide (sx_pop p ≤ 8) && (decide (0 ≤ lw_q1 (p : Int)) && (decide (lw_q1 (p : Int) ≤ 127) && (decide (0 ≤ lw_q2 (p : Int)) && (decide (lw_q2 (p : Int) ≤ 85) && (decide (0 ≤ lw_q3 (p : Int)) && (decide (lw_q3 (p : Int) ≤ 51) && (decide (0 ≤ lw_q4 (p : Int)) && (decide (lw_q4 (p : Int) ≤ 63) && (decide (0 ≤ lw_q5 (p : Int)) && (decide (lw_q5 (p : Int) ≤ 51) && (decide (0 ≤ lw_q6 (p : Int)) && (decide (lw_q6 (p : Int) ≤ 15) && (decide (0 ≤ lw_q7 (p : Int)) && (decide (lw_q7 (p : Int) ≤ 15))))))))))))))))))
theorem lw_qbt : ∀ p : Nat, p < 256 → 1 ≤ p → lw_qb p = true := by decide +kernel
theorem lw_qtab : ∀ p : Nat, p < 256 → 1 ≤ p → lw_q2 (p : Int) ≤ (p : Int) ∧ ((sx_pop p : Nat) : Int) = sx_fand (lw_q7 (p : Int)) 63 ∧ 1 ≤ sx_pop p ∧ sx_pop p ≤ 8 ∧ 0 ≤ lw_q1 (p : Int) ∧ lw_q1 (p : Int) ≤ 127 ∧ 0 ≤ lw_q2 (p : Int) ∧ lw_q2 (p : Int) ≤ 85 ∧ 0 ≤ lw_q3 (p : Int) ∧ lw_q3 (p : Int) ≤ 51 ∧ 0 ≤ lw_q4 (p : Int) ∧ lw_q4 (p : Int) ≤ 63 ∧ 0 ≤ lw_q5 (p : Int) ∧ lw_q5 (p : Int) ≤ 51 ∧ 0 ≤ lw_q6 (p : Int) ∧ lw_q6 (p : Int) ≤ 15 ∧ 0 ≤ lw_q7 (p : Int) ∧ lw_q7 (p : Int) ≤ 15 := by
  intro p h1 h2
  have h := lw_qbt p h1 h2
  simp only [lw_qb, Bool.and_eq_true, decide_eq_true_eq] at h
  exact h
theorem lw_qt {P : Int} (h1 : 1 ≤ P) (h2 : P ≤ 255) : lw_q2 P ≤ P ∧ ((sx_pop P.toNat : Nat) : Int) = sx_fand (lw_q7 P) 63 ∧ 1 ≤ sx_pop P.toNat ∧ sx_pop P.toNat ≤ 8 ∧ 0 ≤ lw_q1 P ∧ lw_q1 P ≤ 127 ∧ 0 ≤ lw_q2 P ∧ lw_q2 P ≤ 85 ∧ 0 ≤ lw_q3 P ∧ lw_q3 P ≤ 51 ∧ 0 ≤ lw_q4 P ∧ lw_q4 P ≤ 63 ∧ 0 ≤ lw_q5 P ∧ lw_q5 P ≤ 51 ∧ 0 ≤ lw_q6 P ∧ lw_q6 P ≤ 15 ∧ 0 ≤ lw_q7 P ∧ lw_q7 P ≤ 15 := by
  have h := lw_qtab P.toNat (by omega) (by omega)
  rw [show ((P.toNat : Nat) : Int) = P by omega] at h
  exact h
theorem lw_pb_r {P : Int} : 1 ≤ lw_pb P ∧ lw_pb P ≤ 8 := by
  unfold lw_pb
  by_cases h : 1 ≤ P ∧ P ≤ 255
  · rw [if_pos h]
    have := lw_qt h.1 h.2
    omega
  · rw [if_neg h]
    omega
theorem lw_sz_r {P Z : Int} : 0 ≤ lw_sz P Z ∧ lw_sz P Z ≤ 1 := by
  unfold lw_sz
  omega
theorem lw_v_r {S : Int} {Q : Prop} (hz : 0 ≤ S ∧ S ≤ 1) : 0 ≤ lw_v S Q ∧ lw_v S Q ≤ 1 ∧ lw_v S Q ≤ S := by
  unfold lw_v
  split
  · rename_i h
    have := h.1
    omega
  · omega
theorem lw_v_0 {S : Int} {Q : Prop} (h : ¬ Q) : lw_v S Q ≤ 0 := by
  unfold lw_v
  split
  · rename_i h2
    exact absurd h2.2 h
  · omega
theorem lw_v_1 {S : Int} {Q : Prop} (hz : 0 ≤ S ∧ S ≤ 1) (h : Q) : S ≤ lw_v S Q := by
  unfold lw_v
  split
  · omega
  · rename_i h2
    have : S ≠ 1 := fun e => h2 ⟨e, h⟩
    omega
theorem lw_v_iff {S : Int} {Q R : Prop} (h : Q ↔ R) : lw_v S Q = lw_v S R := by
  rw [propext h]
theorem lw_ok_cg {K P : Int} {ap bd ap' bd' : Nat → Int} (h1 : ∀ j, j < 8 → ap' j = ap j) (h2 : ∀ j, j < 8 → bd' j = bd j) : lw_ok K P ap' bd' ↔ lw_ok K P ap bd := ⟨fun h j hj hk => by
    have := h j hj hk
    rw [h1 j hj, h2 j hj] at this
    exact this, fun h j hj hk => by
    rw [h1 j hj, h2 j hj]
    exact h j hj hk⟩
theorem lw_okm_cg {M P : Int} {ma mb mt ma' mb' mt' : Nat → Int} (h1 : ∀ j, j < 12 → ma' j = ma j) (h2 : ∀ j, j < 12 → mb' j = mb j) (h3 : ∀ j, j < 12 → mt' j = mt j) : lw_okm M P ma' mb' mt' ↔ lw_okm M P ma mb mt := ⟨fun h j hj hk => by
    have := h j hj hk
    rw [h1 j hj, h2 j hj, h3 j hj] at this
    exact this, fun h j hj hk => by
    rw [h1 j hj, h2 j hj, h3 j hj]
    exact h j hj hk⟩
theorem lw_xa_r {a P : Int} : (0 ≤ lw_xa a P ∧ lw_xa a P ≤ 1) ∧ (lw_xa a P = 0 ↔ a.toNat &&& P.toNat = 0) := by
  unfold lw_xa
  split
  · exact ⟨by omega, fun _ => by assumption, fun _ => rfl⟩
  · exact ⟨by omega, fun h => (by omega), fun h => by contradiction⟩
theorem lw_xb_r {b P : Int} : (0 ≤ lw_xb b P ∧ lw_xb b P ≤ 1) ∧ (lw_xb b P = 0 ↔ b.toNat &&& P.toNat = b.toNat) := by
  unfold lw_xb
  split
  · exact ⟨by omega, fun _ => by assumption, fun _ => rfl⟩
  · exact ⟨by omega, fun h => (by omega), fun h => by contradiction⟩
theorem lw_lg_r {h : List rv_C} {P : Int} (hI : sx_I h) : 0 ≤ lw_lg h P ∧ lw_lg h P ≤ 1 := by
  unfold lw_lg
  split
  · rename_i hp
    obtain ⟨c, -, hc, hk⟩ := sx_I_at hI (show 130 < 143 by decide)
    unfold sx_ga
    rw [hc]
    rcases c with ⟨ci, fs⟩ | ⟨t, n, d, ups⟩
    · exact ⟨Int.le_refl _, (show (0 : Int) ≤ 1 by decide)⟩
    · obtain ⟨k1, k2, k3, k4⟩ := hk
      rw [show (sx_cell.get 130).1 = 103 from by decide +kernel] at k1
      rw [show (sx_cell.get 130).2.2.1 = 256 from by decide +kernel] at k2
      have ht : t = 3 := by omega
      subst ht
      have h5 := k4 P.toNat (by omega)
      rw [show (sx_cell.get 130).2.2.2.1 = 0 from by decide +kernel, show (sx_cell.get 130).2.2.2.2.1 = 1 from by decide +kernel] at h5
      obtain ⟨x, e1, e2, e3⟩ := h5
      show 0 ≤ (sx_nua (rv_el d ups P.toNat)).getD 0 ∧ (sx_nua (rv_el d ups P.toNat)).getD 0 ≤ 1
      rw [e1]
      exact ⟨e2, e3⟩
  · exact ⟨Int.le_refl _, (show (0 : Int) ≤ 1 by decide)⟩
theorem lw_two {K : Int} (h0 : 0 ≤ K) (h8 : K ≤ 8) : 1 ≤ 2 ^ K.toNat ∧ 2 ^ K.toNat ≤ 256 := ⟨Nat.one_le_two_pow, Nat.pow_le_pow_right (by decide) (show K.toNat ≤ 8 by omega)⟩
theorem lw_jr1 (P : Int) : 0 ≤ lw_j1 P ∧ lw_j1 P ≤ 127 := by
  unfold lw_j1
  split
  · rename_i h
    obtain ⟨v1, v2, v3, v4, w1, w2, w3, w4, w5, w6, w7, w8, w9, w10, w11, w12, w13, w14⟩ := lw_qt h.1 h.2
    omega
  · omega
theorem lw_jr2 (P : Int) : 0 ≤ lw_j2 P ∧ lw_j2 P ≤ 85 := by
  unfold lw_j2
  split
  · rename_i h
    obtain ⟨v1, v2, v3, v4, w1, w2, w3, w4, w5, w6, w7, w8, w9, w10, w11, w12, w13, w14⟩ := lw_qt h.1 h.2
    omega
  · omega
theorem lw_jr3 (P : Int) : 0 ≤ lw_j3 P ∧ lw_j3 P ≤ 51 := by
  unfold lw_j3
  split
  · rename_i h
    obtain ⟨v1, v2, v3, v4, w1, w2, w3, w4, w5, w6, w7, w8, w9, w10, w11, w12, w13, w14⟩ := lw_qt h.1 h.2
    omega
  · omega
theorem lw_jr4 (P : Int) : 0 ≤ lw_j4 P ∧ lw_j4 P ≤ 63 := by
  unfold lw_j4
  split
  · rename_i h
    obtain ⟨v1, v2, v3, v4, w1, w2, w3, w4, w5, w6, w7, w8, w9, w10, w11, w12, w13, w14⟩ := lw_qt h.1 h.2
    omega
  · omega
theorem lw_jr5 (P : Int) : 0 ≤ lw_j5 P ∧ lw_j5 P ≤ 51 := by
  unfold lw_j5
  split
  · rename_i h
    obtain ⟨v1, v2, v3, v4, w1, w2, w3, w4, w5, w6, w7, w8, w9, w10, w11, w12, w13, w14⟩ := lw_qt h.1 h.2
    omega
  · omega
theorem lw_jr6 (P : Int) : 0 ≤ lw_j6 P ∧ lw_j6 P ≤ 15 := by
  unfold lw_j6
  split
  · rename_i h
    obtain ⟨v1, v2, v3, v4, w1, w2, w3, w4, w5, w6, w7, w8, w9, w10, w11, w12, w13, w14⟩ := lw_qt h.1 h.2
    omega
  · omega
theorem lw_jr7 (P : Int) : 0 ≤ lw_j7 P ∧ lw_j7 P ≤ 15 := by
  unfold lw_j7
  split
  · rename_i h
    obtain ⟨v1, v2, v3, v4, w1, w2, w3, w4, w5, w6, w7, w8, w9, w10, w11, w12, w13, w14⟩ := lw_qt h.1 h.2
    omega
  · omega
/-- what is chosen ahead of a group that is asked -/
noncomputable def lw_vl (σ : Nat → Int) (h : List rv_C) (P : Int) : List Int := [σ 18536, σ 18537, σ 18538, σ 18539, σ 18540, σ 18541, σ 18542, σ 18543, σ 18544, σ 18545, σ 18546, σ 18547, σ 18548, σ 18549, σ 18550, σ 18551, σ 18552, σ 18553, σ 18554, σ 18555, σ 18556, σ 18557, σ 18558, σ 18559, σ 18560, σ 18561, σ 18562, σ 18563, σ 18564, σ 18565, σ 18566, σ 18567, σ 18568, σ 18569, σ 18570, σ 18571, σ 18572, σ 18573, σ 18574, σ 18575, σ 18576, σ 18577, σ 18578, σ 18579, σ 18580, σ 18581, σ 18582, σ 18583, σ 18584, σ 18585, σ 18586, σ 18587, σ 18588, σ 18589, σ 18590, σ 18591, σ 18592, σ 18593, σ 18594, 1, P, sx_fshr P 0 % 2, sx_fshr P 1 % 2, sx_fshr P 2 % 2, sx_fshr P 3 % 2, sx_fshr P 4 % 2, sx_fshr P 5 % 2, sx_fshr P 6 % 2, sx_fshr P 7 % 2, lw_xa (σ 18536) P, lw_xa (σ 18537) P, lw_xa (σ 18538) P, lw_xa (σ 18539) P, lw_xa (σ 18540) P, lw_xa (σ 18541) P, lw_xa (σ 18542) P, lw_xa (σ 18543) P, lw_xb (σ 18544) P, lw_xb (σ 18545) P, lw_xb (σ 18546) P, lw_xb (σ 18547) P, lw_xb (σ 18548) P, lw_xb (σ 18549) P, lw_xb (σ 18550) P, lw_xb (σ 18551) P, 0, lw_v (lw_sz P (σ 135)) (lw_ok (σ 133) P (fun p => σ (18536 + p)) (fun p => σ (18544 + p))), σ 133, ((2 ^ (σ 133).toNat : Nat) : Int) - 1, σ 135, lw_sz P (σ 135), lw_pb P, σ 18628, σ 18629, σ 18630, σ 18631, sx_fshr P (σ 18552) % 2, sx_fshr P (σ 18553) % 2, sx_fshr P (σ 18554) % 2, sx_fshr P (σ 18555) % 2, sx_fshr P (σ 18556) % 2, sx_fshr P (σ 18557) % 2, sx_fshr P (σ 18558) % 2, sx_fshr P (σ 18559) % 2, sx_fshr P (σ 18560) % 2, sx_fshr P (σ 18561) % 2, sx_fshr P (σ 18562) % 2, sx_fshr P (σ 18563) % 2, sx_fshr P (σ 18564) % 2, sx_fshr P (σ 18565) % 2, sx_fshr P (σ 18566) % 2, sx_fshr P (σ 18567) % 2, sx_fshr P (σ 18568) % 2, sx_fshr P (σ 18569) % 2, sx_fshr P (σ 18570) % 2, sx_fshr P (σ 18571) % 2, sx_fshr P (σ 18572) % 2, sx_fshr P (σ 18573) % 2, sx_fshr P (σ 18574) % 2, sx_fshr P (σ 18575) % 2, 0, σ 12805, lw_v (lw_sz P (σ 135)) (lw_okm (σ 12805) P (fun p => σ (18552 + p)) (fun p => σ (18564 + p)) (fun p => σ (18576 + p))), lw_lg h P, 0, 0, lw_j1 P, lw_j2 P, lw_j3 P, lw_j4 P, lw_j5 P, lw_j6 P, lw_j7 P]
noncomputable def lw_ch (σ : Nat → Int) (h : List rv_C) (P : Int) (c : Nat) : Int := if 18536 ≤ c ∧ c < 18669 then (lw_vl σ h P).getD (c - 18536) 0 else σ c
