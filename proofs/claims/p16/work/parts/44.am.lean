set_option maxHeartbeats 1000000 in
theorem lw_ux_62 {as : List rv_A} {σ σ' : Nat → Int} {o : rv_O} {x : Int32} {a1 a2 a3 : Int} {τ : Nat → Int} (hx : o.1 = some (.inl x)) (h1 : lw_av as 1 = a1) (h2 : lw_av as 2 = a2) (h3 : lw_av as 3 = a3) (ho1 : sy_or (σ' 18588) (σ' 18589) (σ' 18590)) (ho2 : sy_or (σ' 18591) (σ' 18592) (σ' 18593)) (hW : lw_W ([(18546, 8, 255), (18547, 4, 255), (18590, 8, 255), (18593, 4, 255)], [(0, [(18546, (-1)), (1000000, 1)]), (0, [(18547, (-1)), (1000001, 1)]), ((-1), [(133, 1)]), (11, [(134, (-1))]), ((-2), [(19001, 1)]), (2, [(19001, (-1))]), ((-3), [(19002, 1)]), (3, [(19002, (-1))]), ((-1), [(19003, 1)]), (0, [(1000000, 1), (1000002, (-1))]), (0, [(1000000, (-1)), (1000002, 1)]), (0, [(1000001, 1), (1000003, (-1))]), (0, [(1000001, (-1)), (1000003, 1)]), ((-1), [(19001, 1), (19002, (-1))]), ((-1), [(133, 1), (19002, (-1))]), ((-1), [(133, 1), (19001, (-1))])], [(9, (0, [])), (134, (1, [(134, 1)])), (7048, ((-2), [])), (7049, ((-2), [])), (8069, (0, [])), (11396, ((-2), [])), (18546, (0, [(1000000, 1)])), (18547, (0, [(1000001, 1)])), (18588, (0, [(18546, 1)])), (18589, (8, [])), (18590, (0, [(1000002, 1)])), (18591, (0, [(18547, 1)])), (18592, (4, [])), (18593, (0, [(1000003, 1)])), (18594, (2, []))], some (false, (1, []))) as σ σ' τ o) : lw_ux_C a1 a2 a3 x.toInt σ σ' := by
  unfold lw_ux_C
  obtain ⟨hs, ht, hf, hr, hm, hw⟩ := hW
  have e1 : τ 19001 = a1 := by rw [ht 19001 (by decide) (by decide)]; exact h1
  have e2 : τ 19002 = a2 := by rw [ht 19002 (by decide) (by decide)]; exact h2
  have e3 : τ 19003 = a3 := by rw [ht 19003 (by decide) (by decide)]; exact h3
  rw [hx] at hr
  obtain ⟨y, hy, hv⟩ := hr
  cases hy
  replace hv : x.toInt = 1 + 0 := hv
  have f0 : 0 ≤ 0 + ((-1) * τ 18546 + (1 * τ 1000000 + 0)) := hf _ (List.Mem.head _)
  have f1 : 0 ≤ 0 + ((-1) * τ 18547 + (1 * τ 1000001 + 0)) := hf _ (List.Mem.tail _ (List.Mem.head _))
  have f2 : 0 ≤ (-1) + (1 * τ 133 + 0) := hf _ (List.Mem.tail _ (List.Mem.tail _ (List.Mem.head _)))
  have f3 : 0 ≤ 11 + ((-1) * τ 134 + 0) := hf _ (List.Mem.tail _ (List.Mem.tail _ (List.Mem.tail _ (List.Mem.head _))))
  have f4 : 0 ≤ (-2) + (1 * τ 19001 + 0) := hf _ (List.Mem.tail _ (List.Mem.tail _ (List.Mem.tail _ (List.Mem.tail _ (List.Mem.head _)))))
  have f5 : 0 ≤ 2 + ((-1) * τ 19001 + 0) := hf _ (List.Mem.tail _ (List.Mem.tail _ (List.Mem.tail _ (List.Mem.tail _ (List.Mem.tail _ (List.Mem.head _))))))
  have f6 : 0 ≤ (-3) + (1 * τ 19002 + 0) := hf _ (List.Mem.tail _ (List.Mem.tail _ (List.Mem.tail _ (List.Mem.tail _ (List.Mem.tail _ (List.Mem.tail _ (List.Mem.head _)))))))
  have f7 : 0 ≤ 3 + ((-1) * τ 19002 + 0) := hf _ (List.Mem.tail _ (List.Mem.tail _ (List.Mem.tail _ (List.Mem.tail _ (List.Mem.tail _ (List.Mem.tail _ (List.Mem.tail _ (List.Mem.head _))))))))
  have f8 : 0 ≤ (-1) + (1 * τ 19003 + 0) := hf _ (List.Mem.tail _ (List.Mem.tail _ (List.Mem.tail _ (List.Mem.tail _ (List.Mem.tail _ (List.Mem.tail _ (List.Mem.tail _ (List.Mem.tail _ (List.Mem.head _)))))))))
  have f9 : 0 ≤ 0 + (1 * τ 1000000 + ((-1) * τ 1000002 + 0)) := hf _ (List.Mem.tail _ (List.Mem.tail _ (List.Mem.tail _ (List.Mem.tail _ (List.Mem.tail _ (List.Mem.tail _ (List.Mem.tail _ (List.Mem.tail _ (List.Mem.tail _ (List.Mem.head _))))))))))
  have f10 : 0 ≤ 0 + ((-1) * τ 1000000 + (1 * τ 1000002 + 0)) := hf _ (List.Mem.tail _ (List.Mem.tail _ (List.Mem.tail _ (List.Mem.tail _ (List.Mem.tail _ (List.Mem.tail _ (List.Mem.tail _ (List.Mem.tail _ (List.Mem.tail _ (List.Mem.tail _ (List.Mem.head _)))))))))))
  have f11 : 0 ≤ 0 + (1 * τ 1000001 + ((-1) * τ 1000003 + 0)) := hf _ (List.Mem.tail _ (List.Mem.tail _ (List.Mem.tail _ (List.Mem.tail _ (List.Mem.tail _ (List.Mem.tail _ (List.Mem.tail _ (List.Mem.tail _ (List.Mem.tail _ (List.Mem.tail _ (List.Mem.tail _ (List.Mem.head _))))))))))))
  have f12 : 0 ≤ 0 + ((-1) * τ 1000001 + (1 * τ 1000003 + 0)) := hf _ (List.Mem.tail _ (List.Mem.tail _ (List.Mem.tail _ (List.Mem.tail _ (List.Mem.tail _ (List.Mem.tail _ (List.Mem.tail _ (List.Mem.tail _ (List.Mem.tail _ (List.Mem.tail _ (List.Mem.tail _ (List.Mem.tail _ (List.Mem.head _)))))))))))))
  have f13 : 0 ≤ (-1) + (1 * τ 19001 + ((-1) * τ 19002 + 0)) := hf _ (List.Mem.tail _ (List.Mem.tail _ (List.Mem.tail _ (List.Mem.tail _ (List.Mem.tail _ (List.Mem.tail _ (List.Mem.tail _ (List.Mem.tail _ (List.Mem.tail _ (List.Mem.tail _ (List.Mem.tail _ (List.Mem.tail _ (List.Mem.tail _ (List.Mem.head _))))))))))))))
  have f14 : 0 ≤ (-1) + (1 * τ 133 + ((-1) * τ 19002 + 0)) := hf _ (List.Mem.tail _ (List.Mem.tail _ (List.Mem.tail _ (List.Mem.tail _ (List.Mem.tail _ (List.Mem.tail _ (List.Mem.tail _ (List.Mem.tail _ (List.Mem.tail _ (List.Mem.tail _ (List.Mem.tail _ (List.Mem.tail _ (List.Mem.tail _ (List.Mem.tail _ (List.Mem.head _)))))))))))))))
  have f15 : 0 ≤ (-1) + (1 * τ 133 + ((-1) * τ 19001 + 0)) := hf _ (List.Mem.tail _ (List.Mem.tail _ (List.Mem.tail _ (List.Mem.tail _ (List.Mem.tail _ (List.Mem.tail _ (List.Mem.tail _ (List.Mem.tail _ (List.Mem.tail _ (List.Mem.tail _ (List.Mem.tail _ (List.Mem.tail _ (List.Mem.tail _ (List.Mem.tail _ (List.Mem.tail _ (List.Mem.head _))))))))))))))))
  have mX1 : σ' 18588 = σ 18546 := lw_id (hs 18546 (by decide)) (hm 18588 (by decide))
  have mY1 : σ' 18589 = 8 := (hm 18589 (by decide)).trans rfl
  have mO1 : σ' 18590 = 0 + (1 * τ 1000002 + 0) := hm 18590 (by decide)
  have mA1 : σ' 18546 = 0 + (1 * τ 1000000 + 0) := hm 18546 (by decide)
  unfold sy_or at ho1
  rw [mX1, mY1, show (8 : Int).toNat = 2 ^ 3 from rfl] at ho1
  have mX2 : σ' 18591 = σ 18547 := lw_id (hs 18547 (by decide)) (hm 18591 (by decide))
  have mY2 : σ' 18592 = 4 := (hm 18592 (by decide)).trans rfl
  have mO2 : σ' 18593 = 0 + (1 * τ 1000003 + 0) := hm 18593 (by decide)
  have mA2 : σ' 18547 = 0 + (1 * τ 1000001 + 0) := hm 18547 (by decide)
  unfold sy_or at ho2
  rw [mX2, mY2, show (4 : Int).toNat = 2 ^ 2 from rfl] at ho2
  have ti : lw_ti a1.toNat a2.toNat (fun p => σ (18544 + p)) (fun p => σ' (18544 + p)) := by
    rw [show a1.toNat = 2 by omega, show a2.toNat = 3 by omega]
    intro p hp
    rcases (show p = 0 ∨ p = 1 ∨ p = 2 ∨ p = 3 ∨ p = 4 ∨ p = 5 ∨ p = 6 ∨ p = 7 by omega) with rfl | rfl | rfl | rfl | rfl | rfl | rfl | rfl
    · show σ' 18544 = if (0 : Nat) = 2 then _ else if (0 : Nat) = 3 then _ else _
      rw [if_neg (by decide), if_neg (by decide)]
      exact lw_id (hs _ (by decide)) (hm _ (by decide))
    · show σ' 18545 = if (1 : Nat) = 2 then _ else if (1 : Nat) = 3 then _ else _
      rw [if_neg (by decide), if_neg (by decide)]
      exact lw_id (hs _ (by decide)) (hm _ (by decide))
    · show σ' 18546 = if (2 : Nat) = 2 then _ else _
      rw [if_pos rfl]
      show σ' 18546 = (((σ 18546).toNat ||| 2 ^ 3 : Nat) : Int)
      omega
    · show σ' 18547 = if (3 : Nat) = 2 then _ else if (3 : Nat) = 3 then _ else _
      rw [if_neg (by decide), if_pos rfl]
      show σ' 18547 = (((σ 18547).toNat ||| 2 ^ 2 : Nat) : Int)
      omega
    · show σ' 18548 = if (4 : Nat) = 2 then _ else if (4 : Nat) = 3 then _ else _
      rw [if_neg (by decide), if_neg (by decide)]
      exact lw_id (hs _ (by decide)) (hm _ (by decide))
    · show σ' 18549 = if (5 : Nat) = 2 then _ else if (5 : Nat) = 3 then _ else _
      rw [if_neg (by decide), if_neg (by decide)]
      exact lw_id (hs _ (by decide)) (hm _ (by decide))
    · show σ' 18550 = if (6 : Nat) = 2 then _ else if (6 : Nat) = 3 then _ else _
      rw [if_neg (by decide), if_neg (by decide)]
      exact lw_id (hs _ (by decide)) (hm _ (by decide))
    · show σ' 18551 = if (7 : Nat) = 2 then _ else if (7 : Nat) = 3 then _ else _
      rw [if_neg (by decide), if_neg (by decide)]
      exact lw_id (hs _ (by decide)) (hm _ (by decide))
  exact Or.inl ⟨by omega, by omega, by omega, by omega, by omega, Or.inl ⟨by omega, ti, (fun p hp => (by rcases (show p = 0 ∨ p = 1 ∨ p = 2 ∨ p = 3 ∨ p = 4 ∨ p = 5 ∨ p = 6 ∨ p = 7 by omega) with rfl | rfl | rfl | rfl | rfl | rfl | rfl | rfl <;> exact lw_id (hs _ (by decide)) (hm _ (by decide))))⟩⟩
set_option maxHeartbeats 1000000 in
theorem lw_ux_63 {as : List rv_A} {σ σ' : Nat → Int} {o : rv_O} {x : Int32} {a1 a2 a3 : Int} {τ : Nat → Int} (hx : o.1 = some (.inl x)) (h1 : lw_av as 1 = a1) (h2 : lw_av as 2 = a2) (h3 : lw_av as 3 = a3) (ho1 : sy_or (σ' 18588) (σ' 18589) (σ' 18590)) (ho2 : sy_or (σ' 18591) (σ' 18592) (σ' 18593)) (hW : lw_W ([(18538, 16, 255), (18540, 4, 255), (18590, 16, 255), (18593, 4, 255)], [(0, [(18538, (-1)), (1000000, 1)]), (0, [(18540, (-1)), (1000001, 1)]), ((-1), [(133, 1)]), (11, [(134, (-1))]), ((-2), [(19001, 1)]), (2, [(19001, (-1))]), ((-4), [(19002, 1)]), (4, [(19002, (-1))]), (0, [(19003, (-1))]), (0, [(1000000, 1), (1000002, (-1))]), (0, [(1000000, (-1)), (1000002, 1)]), (0, [(1000001, 1), (1000003, (-1))]), (0, [(1000001, (-1)), (1000003, 1)]), ((-1), [(19001, (-1)), (19002, 1)]), ((-1), [(133, 1), (19002, (-1))]), ((-1), [(133, 1), (19001, (-1))])], [(9, (0, [])), (134, (1, [(134, 1)])), (7048, ((-2), [])), (7049, ((-2), [])), (8069, (0, [])), (11396, ((-2), [])), (18538, (0, [(1000000, 1)])), (18540, (0, [(1000001, 1)])), (18588, (0, [(18538, 1)])), (18589, (16, [])), (18590, (0, [(1000002, 1)])), (18591, (0, [(18540, 1)])), (18592, (4, [])), (18593, (0, [(1000003, 1)])), (18594, (2, []))], some (false, (1, []))) as σ σ' τ o) : lw_ux_C a1 a2 a3 x.toInt σ σ' := by
  unfold lw_ux_C
  obtain ⟨hs, ht, hf, hr, hm, hw⟩ := hW
  have e1 : τ 19001 = a1 := by rw [ht 19001 (by decide) (by decide)]; exact h1
  have e2 : τ 19002 = a2 := by rw [ht 19002 (by decide) (by decide)]; exact h2
  have e3 : τ 19003 = a3 := by rw [ht 19003 (by decide) (by decide)]; exact h3
  rw [hx] at hr
  obtain ⟨y, hy, hv⟩ := hr
  cases hy
  replace hv : x.toInt = 1 + 0 := hv
  have f0 : 0 ≤ 0 + ((-1) * τ 18538 + (1 * τ 1000000 + 0)) := hf _ (List.Mem.head _)
  have f1 : 0 ≤ 0 + ((-1) * τ 18540 + (1 * τ 1000001 + 0)) := hf _ (List.Mem.tail _ (List.Mem.head _))
  have f2 : 0 ≤ (-1) + (1 * τ 133 + 0) := hf _ (List.Mem.tail _ (List.Mem.tail _ (List.Mem.head _)))
  have f3 : 0 ≤ 11 + ((-1) * τ 134 + 0) := hf _ (List.Mem.tail _ (List.Mem.tail _ (List.Mem.tail _ (List.Mem.head _))))
  have f4 : 0 ≤ (-2) + (1 * τ 19001 + 0) := hf _ (List.Mem.tail _ (List.Mem.tail _ (List.Mem.tail _ (List.Mem.tail _ (List.Mem.head _)))))
  have f5 : 0 ≤ 2 + ((-1) * τ 19001 + 0) := hf _ (List.Mem.tail _ (List.Mem.tail _ (List.Mem.tail _ (List.Mem.tail _ (List.Mem.tail _ (List.Mem.head _))))))
  have f6 : 0 ≤ (-4) + (1 * τ 19002 + 0) := hf _ (List.Mem.tail _ (List.Mem.tail _ (List.Mem.tail _ (List.Mem.tail _ (List.Mem.tail _ (List.Mem.tail _ (List.Mem.head _)))))))
  have f7 : 0 ≤ 4 + ((-1) * τ 19002 + 0) := hf _ (List.Mem.tail _ (List.Mem.tail _ (List.Mem.tail _ (List.Mem.tail _ (List.Mem.tail _ (List.Mem.tail _ (List.Mem.tail _ (List.Mem.head _))))))))
  have f8 : 0 ≤ 0 + ((-1) * τ 19003 + 0) := hf _ (List.Mem.tail _ (List.Mem.tail _ (List.Mem.tail _ (List.Mem.tail _ (List.Mem.tail _ (List.Mem.tail _ (List.Mem.tail _ (List.Mem.tail _ (List.Mem.head _)))))))))
  have f9 : 0 ≤ 0 + (1 * τ 1000000 + ((-1) * τ 1000002 + 0)) := hf _ (List.Mem.tail _ (List.Mem.tail _ (List.Mem.tail _ (List.Mem.tail _ (List.Mem.tail _ (List.Mem.tail _ (List.Mem.tail _ (List.Mem.tail _ (List.Mem.tail _ (List.Mem.head _))))))))))
  have f10 : 0 ≤ 0 + ((-1) * τ 1000000 + (1 * τ 1000002 + 0)) := hf _ (List.Mem.tail _ (List.Mem.tail _ (List.Mem.tail _ (List.Mem.tail _ (List.Mem.tail _ (List.Mem.tail _ (List.Mem.tail _ (List.Mem.tail _ (List.Mem.tail _ (List.Mem.tail _ (List.Mem.head _)))))))))))
  have f11 : 0 ≤ 0 + (1 * τ 1000001 + ((-1) * τ 1000003 + 0)) := hf _ (List.Mem.tail _ (List.Mem.tail _ (List.Mem.tail _ (List.Mem.tail _ (List.Mem.tail _ (List.Mem.tail _ (List.Mem.tail _ (List.Mem.tail _ (List.Mem.tail _ (List.Mem.tail _ (List.Mem.tail _ (List.Mem.head _))))))))))))
  have f12 : 0 ≤ 0 + ((-1) * τ 1000001 + (1 * τ 1000003 + 0)) := hf _ (List.Mem.tail _ (List.Mem.tail _ (List.Mem.tail _ (List.Mem.tail _ (List.Mem.tail _ (List.Mem.tail _ (List.Mem.tail _ (List.Mem.tail _ (List.Mem.tail _ (List.Mem.tail _ (List.Mem.tail _ (List.Mem.tail _ (List.Mem.head _)))))))))))))
  have f13 : 0 ≤ (-1) + ((-1) * τ 19001 + (1 * τ 19002 + 0)) := hf _ (List.Mem.tail _ (List.Mem.tail _ (List.Mem.tail _ (List.Mem.tail _ (List.Mem.tail _ (List.Mem.tail _ (List.Mem.tail _ (List.Mem.tail _ (List.Mem.tail _ (List.Mem.tail _ (List.Mem.tail _ (List.Mem.tail _ (List.Mem.tail _ (List.Mem.head _))))))))))))))
  have f14 : 0 ≤ (-1) + (1 * τ 133 + ((-1) * τ 19002 + 0)) := hf _ (List.Mem.tail _ (List.Mem.tail _ (List.Mem.tail _ (List.Mem.tail _ (List.Mem.tail _ (List.Mem.tail _ (List.Mem.tail _ (List.Mem.tail _ (List.Mem.tail _ (List.Mem.tail _ (List.Mem.tail _ (List.Mem.tail _ (List.Mem.tail _ (List.Mem.tail _ (List.Mem.head _)))))))))))))))
  have f15 : 0 ≤ (-1) + (1 * τ 133 + ((-1) * τ 19001 + 0)) := hf _ (List.Mem.tail _ (List.Mem.tail _ (List.Mem.tail _ (List.Mem.tail _ (List.Mem.tail _ (List.Mem.tail _ (List.Mem.tail _ (List.Mem.tail _ (List.Mem.tail _ (List.Mem.tail _ (List.Mem.tail _ (List.Mem.tail _ (List.Mem.tail _ (List.Mem.tail _ (List.Mem.tail _ (List.Mem.head _))))))))))))))))
  have mX1 : σ' 18588 = σ 18538 := lw_id (hs 18538 (by decide)) (hm 18588 (by decide))
  have mY1 : σ' 18589 = 16 := (hm 18589 (by decide)).trans rfl
  have mO1 : σ' 18590 = 0 + (1 * τ 1000002 + 0) := hm 18590 (by decide)
  have mA1 : σ' 18538 = 0 + (1 * τ 1000000 + 0) := hm 18538 (by decide)
  unfold sy_or at ho1
  rw [mX1, mY1, show (16 : Int).toNat = 2 ^ 4 from rfl] at ho1
  have mX2 : σ' 18591 = σ 18540 := lw_id (hs 18540 (by decide)) (hm 18591 (by decide))
  have mY2 : σ' 18592 = 4 := (hm 18592 (by decide)).trans rfl
  have mO2 : σ' 18593 = 0 + (1 * τ 1000003 + 0) := hm 18593 (by decide)
  have mA2 : σ' 18540 = 0 + (1 * τ 1000001 + 0) := hm 18540 (by decide)
  unfold sy_or at ho2
  rw [mX2, mY2, show (4 : Int).toNat = 2 ^ 2 from rfl] at ho2
  have ti : lw_ti a1.toNat a2.toNat (fun p => σ (18536 + p)) (fun p => σ' (18536 + p)) := by
    rw [show a1.toNat = 2 by omega, show a2.toNat = 4 by omega]
    intro p hp
    rcases (show p = 0 ∨ p = 1 ∨ p = 2 ∨ p = 3 ∨ p = 4 ∨ p = 5 ∨ p = 6 ∨ p = 7 by omega) with rfl | rfl | rfl | rfl | rfl | rfl | rfl | rfl
    · show σ' 18536 = if (0 : Nat) = 2 then _ else if (0 : Nat) = 4 then _ else _
      rw [if_neg (by decide), if_neg (by decide)]
      exact lw_id (hs _ (by decide)) (hm _ (by decide))
    · show σ' 18537 = if (1 : Nat) = 2 then _ else if (1 : Nat) = 4 then _ else _
      rw [if_neg (by decide), if_neg (by decide)]
      exact lw_id (hs _ (by decide)) (hm _ (by decide))
    · show σ' 18538 = if (2 : Nat) = 2 then _ else _
      rw [if_pos rfl]
      show σ' 18538 = (((σ 18538).toNat ||| 2 ^ 4 : Nat) : Int)
      omega
    · show σ' 18539 = if (3 : Nat) = 2 then _ else if (3 : Nat) = 4 then _ else _
      rw [if_neg (by decide), if_neg (by decide)]
      exact lw_id (hs _ (by decide)) (hm _ (by decide))
    · show σ' 18540 = if (4 : Nat) = 2 then _ else if (4 : Nat) = 4 then _ else _
      rw [if_neg (by decide), if_pos rfl]
      show σ' 18540 = (((σ 18540).toNat ||| 2 ^ 2 : Nat) : Int)
      omega
    · show σ' 18541 = if (5 : Nat) = 2 then _ else if (5 : Nat) = 4 then _ else _
      rw [if_neg (by decide), if_neg (by decide)]
      exact lw_id (hs _ (by decide)) (hm _ (by decide))
    · show σ' 18542 = if (6 : Nat) = 2 then _ else if (6 : Nat) = 4 then _ else _
      rw [if_neg (by decide), if_neg (by decide)]
      exact lw_id (hs _ (by decide)) (hm _ (by decide))
    · show σ' 18543 = if (7 : Nat) = 2 then _ else if (7 : Nat) = 4 then _ else _
      rw [if_neg (by decide), if_neg (by decide)]
      exact lw_id (hs _ (by decide)) (hm _ (by decide))
  exact Or.inl ⟨by omega, by omega, by omega, by omega, by omega, Or.inr ⟨by omega, ti, (fun p hp => (by rcases (show p = 0 ∨ p = 1 ∨ p = 2 ∨ p = 3 ∨ p = 4 ∨ p = 5 ∨ p = 6 ∨ p = 7 by omega) with rfl | rfl | rfl | rfl | rfl | rfl | rfl | rfl <;> exact lw_id (hs _ (by decide)) (hm _ (by decide))))⟩⟩
set_option maxHeartbeats 1000000 in
theorem lw_ux_64 {as : List rv_A} {σ σ' : Nat → Int} {o : rv_O} {x : Int32} {a1 a2 a3 : Int} {τ : Nat → Int} (hx : o.1 = some (.inl x)) (h1 : lw_av as 1 = a1) (h2 : lw_av as 2 = a2) (h3 : lw_av as 3 = a3) (ho1 : sy_or (σ' 18588) (σ' 18589) (σ' 18590)) (ho2 : sy_or (σ' 18591) (σ' 18592) (σ' 18593)) (hW : lw_W ([(18538, 16, 255), (18540, 4, 255), (18590, 16, 255), (18593, 4, 255)], [(0, [(18538, (-1)), (1000000, 1)]), (0, [(18540, (-1)), (1000001, 1)]), ((-1), [(133, 1)]), (11, [(134, (-1))]), ((-2), [(19001, 1)]), (2, [(19001, (-1))]), ((-4), [(19002, 1)]), (4, [(19002, (-1))]), (0, [(19003, (-1))]), (0, [(1000000, 1), (1000002, (-1))]), (0, [(1000000, (-1)), (1000002, 1)]), (0, [(1000001, 1), (1000003, (-1))]), (0, [(1000001, (-1)), (1000003, 1)]), ((-1), [(19001, 1), (19002, (-1))]), ((-1), [(133, 1), (19002, (-1))]), ((-1), [(133, 1), (19001, (-1))])], [(9, (0, [])), (134, (1, [(134, 1)])), (7048, ((-2), [])), (7049, ((-2), [])), (8069, (0, [])), (11396, ((-2), [])), (18538, (0, [(1000000, 1)])), (18540, (0, [(1000001, 1)])), (18588, (0, [(18538, 1)])), (18589, (16, [])), (18590, (0, [(1000002, 1)])), (18591, (0, [(18540, 1)])), (18592, (4, [])), (18593, (0, [(1000003, 1)])), (18594, (2, []))], some (false, (1, []))) as σ σ' τ o) : lw_ux_C a1 a2 a3 x.toInt σ σ' := by
  unfold lw_ux_C
  obtain ⟨hs, ht, hf, hr, hm, hw⟩ := hW
  have e1 : τ 19001 = a1 := by rw [ht 19001 (by decide) (by decide)]; exact h1
  have e2 : τ 19002 = a2 := by rw [ht 19002 (by decide) (by decide)]; exact h2
  have e3 : τ 19003 = a3 := by rw [ht 19003 (by decide) (by decide)]; exact h3
  rw [hx] at hr
  obtain ⟨y, hy, hv⟩ := hr
  cases hy
  replace hv : x.toInt = 1 + 0 := hv
  have f0 : 0 ≤ 0 + ((-1) * τ 18538 + (1 * τ 1000000 + 0)) := hf _ (List.Mem.head _)
  have f1 : 0 ≤ 0 + ((-1) * τ 18540 + (1 * τ 1000001 + 0)) := hf _ (List.Mem.tail _ (List.Mem.head _))
  have f2 : 0 ≤ (-1) + (1 * τ 133 + 0) := hf _ (List.Mem.tail _ (List.Mem.tail _ (List.Mem.head _)))
  have f3 : 0 ≤ 11 + ((-1) * τ 134 + 0) := hf _ (List.Mem.tail _ (List.Mem.tail _ (List.Mem.tail _ (List.Mem.head _))))
  have f4 : 0 ≤ (-2) + (1 * τ 19001 + 0) := hf _ (List.Mem.tail _ (List.Mem.tail _ (List.Mem.tail _ (List.Mem.tail _ (List.Mem.head _)))))
  have f5 : 0 ≤ 2 + ((-1) * τ 19001 + 0) := hf _ (List.Mem.tail _ (List.Mem.tail _ (List.Mem.tail _ (List.Mem.tail _ (List.Mem.tail _ (List.Mem.head _))))))
  have f6 : 0 ≤ (-4) + (1 * τ 19002 + 0) := hf _ (List.Mem.tail _ (List.Mem.tail _ (List.Mem.tail _ (List.Mem.tail _ (List.Mem.tail _ (List.Mem.tail _ (List.Mem.head _)))))))
  have f7 : 0 ≤ 4 + ((-1) * τ 19002 + 0) := hf _ (List.Mem.tail _ (List.Mem.tail _ (List.Mem.tail _ (List.Mem.tail _ (List.Mem.tail _ (List.Mem.tail _ (List.Mem.tail _ (List.Mem.head _))))))))
  have f8 : 0 ≤ 0 + ((-1) * τ 19003 + 0) := hf _ (List.Mem.tail _ (List.Mem.tail _ (List.Mem.tail _ (List.Mem.tail _ (List.Mem.tail _ (List.Mem.tail _ (List.Mem.tail _ (List.Mem.tail _ (List.Mem.head _)))))))))
  have f9 : 0 ≤ 0 + (1 * τ 1000000 + ((-1) * τ 1000002 + 0)) := hf _ (List.Mem.tail _ (List.Mem.tail _ (List.Mem.tail _ (List.Mem.tail _ (List.Mem.tail _ (List.Mem.tail _ (List.Mem.tail _ (List.Mem.tail _ (List.Mem.tail _ (List.Mem.head _))))))))))
  have f10 : 0 ≤ 0 + ((-1) * τ 1000000 + (1 * τ 1000002 + 0)) := hf _ (List.Mem.tail _ (List.Mem.tail _ (List.Mem.tail _ (List.Mem.tail _ (List.Mem.tail _ (List.Mem.tail _ (List.Mem.tail _ (List.Mem.tail _ (List.Mem.tail _ (List.Mem.tail _ (List.Mem.head _)))))))))))
  have f11 : 0 ≤ 0 + (1 * τ 1000001 + ((-1) * τ 1000003 + 0)) := hf _ (List.Mem.tail _ (List.Mem.tail _ (List.Mem.tail _ (List.Mem.tail _ (List.Mem.tail _ (List.Mem.tail _ (List.Mem.tail _ (List.Mem.tail _ (List.Mem.tail _ (List.Mem.tail _ (List.Mem.tail _ (List.Mem.head _))))))))))))
  have f12 : 0 ≤ 0 + ((-1) * τ 1000001 + (1 * τ 1000003 + 0)) := hf _ (List.Mem.tail _ (List.Mem.tail _ (List.Mem.tail _ (List.Mem.tail _ (List.Mem.tail _ (List.Mem.tail _ (List.Mem.tail _ (List.Mem.tail _ (List.Mem.tail _ (List.Mem.tail _ (List.Mem.tail _ (List.Mem.tail _ (List.Mem.head _)))))))))))))
  have f13 : 0 ≤ (-1) + (1 * τ 19001 + ((-1) * τ 19002 + 0)) := hf _ (List.Mem.tail _ (List.Mem.tail _ (List.Mem.tail _ (List.Mem.tail _ (List.Mem.tail _ (List.Mem.tail _ (List.Mem.tail _ (List.Mem.tail _ (List.Mem.tail _ (List.Mem.tail _ (List.Mem.tail _ (List.Mem.tail _ (List.Mem.tail _ (List.Mem.head _))))))))))))))
  have f14 : 0 ≤ (-1) + (1 * τ 133 + ((-1) * τ 19002 + 0)) := hf _ (List.Mem.tail _ (List.Mem.tail _ (List.Mem.tail _ (List.Mem.tail _ (List.Mem.tail _ (List.Mem.tail _ (List.Mem.tail _ (List.Mem.tail _ (List.Mem.tail _ (List.Mem.tail _ (List.Mem.tail _ (List.Mem.tail _ (List.Mem.tail _ (List.Mem.tail _ (List.Mem.head _)))))))))))))))
  have f15 : 0 ≤ (-1) + (1 * τ 133 + ((-1) * τ 19001 + 0)) := hf _ (List.Mem.tail _ (List.Mem.tail _ (List.Mem.tail _ (List.Mem.tail _ (List.Mem.tail _ (List.Mem.tail _ (List.Mem.tail _ (List.Mem.tail _ (List.Mem.tail _ (List.Mem.tail _ (List.Mem.tail _ (List.Mem.tail _ (List.Mem.tail _ (List.Mem.tail _ (List.Mem.tail _ (List.Mem.head _))))))))))))))))
  have mX1 : σ' 18588 = σ 18538 := lw_id (hs 18538 (by decide)) (hm 18588 (by decide))
  have mY1 : σ' 18589 = 16 := (hm 18589 (by decide)).trans rfl
  have mO1 : σ' 18590 = 0 + (1 * τ 1000002 + 0) := hm 18590 (by decide)
  have mA1 : σ' 18538 = 0 + (1 * τ 1000000 + 0) := hm 18538 (by decide)
  unfold sy_or at ho1
  rw [mX1, mY1, show (16 : Int).toNat = 2 ^ 4 from rfl] at ho1
  have mX2 : σ' 18591 = σ 18540 := lw_id (hs 18540 (by decide)) (hm 18591 (by decide))
  have mY2 : σ' 18592 = 4 := (hm 18592 (by decide)).trans rfl
  have mO2 : σ' 18593 = 0 + (1 * τ 1000003 + 0) := hm 18593 (by decide)
  have mA2 : σ' 18540 = 0 + (1 * τ 1000001 + 0) := hm 18540 (by decide)
  unfold sy_or at ho2
  rw [mX2, mY2, show (4 : Int).toNat = 2 ^ 2 from rfl] at ho2
  have ti : lw_ti a1.toNat a2.toNat (fun p => σ (18536 + p)) (fun p => σ' (18536 + p)) := by
    rw [show a1.toNat = 2 by omega, show a2.toNat = 4 by omega]
    intro p hp
    rcases (show p = 0 ∨ p = 1 ∨ p = 2 ∨ p = 3 ∨ p = 4 ∨ p = 5 ∨ p = 6 ∨ p = 7 by omega) with rfl | rfl | rfl | rfl | rfl | rfl | rfl | rfl
    · show σ' 18536 = if (0 : Nat) = 2 then _ else if (0 : Nat) = 4 then _ else _
      rw [if_neg (by decide), if_neg (by decide)]
      exact lw_id (hs _ (by decide)) (hm _ (by decide))
    · show σ' 18537 = if (1 : Nat) = 2 then _ else if (1 : Nat) = 4 then _ else _
      rw [if_neg (by decide), if_neg (by decide)]
      exact lw_id (hs _ (by decide)) (hm _ (by decide))
    · show σ' 18538 = if (2 : Nat) = 2 then _ else _
      rw [if_pos rfl]
      show σ' 18538 = (((σ 18538).toNat ||| 2 ^ 4 : Nat) : Int)
      omega
    · show σ' 18539 = if (3 : Nat) = 2 then _ else if (3 : Nat) = 4 then _ else _
      rw [if_neg (by decide), if_neg (by decide)]
      exact lw_id (hs _ (by decide)) (hm _ (by decide))
    · show σ' 18540 = if (4 : Nat) = 2 then _ else if (4 : Nat) = 4 then _ else _
      rw [if_neg (by decide), if_pos rfl]
      show σ' 18540 = (((σ 18540).toNat ||| 2 ^ 2 : Nat) : Int)
      omega
    · show σ' 18541 = if (5 : Nat) = 2 then _ else if (5 : Nat) = 4 then _ else _
      rw [if_neg (by decide), if_neg (by decide)]
      exact lw_id (hs _ (by decide)) (hm _ (by decide))
    · show σ' 18542 = if (6 : Nat) = 2 then _ else if (6 : Nat) = 4 then _ else _
      rw [if_neg (by decide), if_neg (by decide)]
      exact lw_id (hs _ (by decide)) (hm _ (by decide))
    · show σ' 18543 = if (7 : Nat) = 2 then _ else if (7 : Nat) = 4 then _ else _
      rw [if_neg (by decide), if_neg (by decide)]
      exact lw_id (hs _ (by decide)) (hm _ (by decide))
  exact Or.inl ⟨by omega, by omega, by omega, by omega, by omega, Or.inr ⟨by omega, ti, (fun p hp => (by rcases (show p = 0 ∨ p = 1 ∨ p = 2 ∨ p = 3 ∨ p = 4 ∨ p = 5 ∨ p = 6 ∨ p = 7 by omega) with rfl | rfl | rfl | rfl | rfl | rfl | rfl | rfl <;> exact lw_id (hs _ (by decide)) (hm _ (by decide))))⟩⟩
set_option maxHeartbeats 1000000 in
theorem lw_ux_65 {as : List rv_A} {σ σ' : Nat → Int} {o : rv_O} {x : Int32} {a1 a2 a3 : Int} {τ : Nat → Int} (hx : o.1 = some (.inl x)) (h1 : lw_av as 1 = a1) (h2 : lw_av as 2 = a2) (h3 : lw_av as 3 = a3) (ho1 : sy_or (σ' 18588) (σ' 18589) (σ' 18590)) (ho2 : sy_or (σ' 18591) (σ' 18592) (σ' 18593)) (hW : lw_W ([(18546, 16, 255), (18548, 4, 255), (18590, 16, 255), (18593, 4, 255)], [(0, [(18546, (-1)), (1000000, 1)]), (0, [(18548, (-1)), (1000001, 1)]), ((-1), [(133, 1)]), (11, [(134, (-1))]), ((-2), [(19001, 1)]), (2, [(19001, (-1))]), ((-4), [(19002, 1)]), (4, [(19002, (-1))]), ((-1), [(19003, 1)]), (0, [(1000000, 1), (1000002, (-1))]), (0, [(1000000, (-1)), (1000002, 1)]), (0, [(1000001, 1), (1000003, (-1))]), (0, [(1000001, (-1)), (1000003, 1)]), ((-1), [(19001, (-1)), (19002, 1)]), ((-1), [(133, 1), (19002, (-1))]), ((-1), [(133, 1), (19001, (-1))])], [(9, (0, [])), (134, (1, [(134, 1)])), (7048, ((-2), [])), (7049, ((-2), [])), (8069, (0, [])), (11396, ((-2), [])), (18546, (0, [(1000000, 1)])), (18548, (0, [(1000001, 1)])), (18588, (0, [(18546, 1)])), (18589, (16, [])), (18590, (0, [(1000002, 1)])), (18591, (0, [(18548, 1)])), (18592, (4, [])), (18593, (0, [(1000003, 1)])), (18594, (2, []))], some (false, (1, []))) as σ σ' τ o) : lw_ux_C a1 a2 a3 x.toInt σ σ' := by
  unfold lw_ux_C
  obtain ⟨hs, ht, hf, hr, hm, hw⟩ := hW
  have e1 : τ 19001 = a1 := by rw [ht 19001 (by decide) (by decide)]; exact h1
  have e2 : τ 19002 = a2 := by rw [ht 19002 (by decide) (by decide)]; exact h2
  have e3 : τ 19003 = a3 := by rw [ht 19003 (by decide) (by decide)]; exact h3
  rw [hx] at hr
  obtain ⟨y, hy, hv⟩ := hr
  cases hy
  replace hv : x.toInt = 1 + 0 := hv
  have f0 : 0 ≤ 0 + ((-1) * τ 18546 + (1 * τ 1000000 + 0)) := hf _ (List.Mem.head _)
  have f1 : 0 ≤ 0 + ((-1) * τ 18548 + (1 * τ 1000001 + 0)) := hf _ (List.Mem.tail _ (List.Mem.head _))
  have f2 : 0 ≤ (-1) + (1 * τ 133 + 0) := hf _ (List.Mem.tail _ (List.Mem.tail _ (List.Mem.head _)))
  have f3 : 0 ≤ 11 + ((-1) * τ 134 + 0) := hf _ (List.Mem.tail _ (List.Mem.tail _ (List.Mem.tail _ (List.Mem.head _))))
  have f4 : 0 ≤ (-2) + (1 * τ 19001 + 0) := hf _ (List.Mem.tail _ (List.Mem.tail _ (List.Mem.tail _ (List.Mem.tail _ (List.Mem.head _)))))
  have f5 : 0 ≤ 2 + ((-1) * τ 19001 + 0) := hf _ (List.Mem.tail _ (List.Mem.tail _ (List.Mem.tail _ (List.Mem.tail _ (List.Mem.tail _ (List.Mem.head _))))))
  have f6 : 0 ≤ (-4) + (1 * τ 19002 + 0) := hf _ (List.Mem.tail _ (List.Mem.tail _ (List.Mem.tail _ (List.Mem.tail _ (List.Mem.tail _ (List.Mem.tail _ (List.Mem.head _)))))))
  have f7 : 0 ≤ 4 + ((-1) * τ 19002 + 0) := hf _ (List.Mem.tail _ (List.Mem.tail _ (List.Mem.tail _ (List.Mem.tail _ (List.Mem.tail _ (List.Mem.tail _ (List.Mem.tail _ (List.Mem.head _))))))))
  have f8 : 0 ≤ (-1) + (1 * τ 19003 + 0) := hf _ (List.Mem.tail _ (List.Mem.tail _ (List.Mem.tail _ (List.Mem.tail _ (List.Mem.tail _ (List.Mem.tail _ (List.Mem.tail _ (List.Mem.tail _ (List.Mem.head _)))))))))
  have f9 : 0 ≤ 0 + (1 * τ 1000000 + ((-1) * τ 1000002 + 0)) := hf _ (List.Mem.tail _ (List.Mem.tail _ (List.Mem.tail _ (List.Mem.tail _ (List.Mem.tail _ (List.Mem.tail _ (List.Mem.tail _ (List.Mem.tail _ (List.Mem.tail _ (List.Mem.head _))))))))))
  have f10 : 0 ≤ 0 + ((-1) * τ 1000000 + (1 * τ 1000002 + 0)) := hf _ (List.Mem.tail _ (List.Mem.tail _ (List.Mem.tail _ (List.Mem.tail _ (List.Mem.tail _ (List.Mem.tail _ (List.Mem.tail _ (List.Mem.tail _ (List.Mem.tail _ (List.Mem.tail _ (List.Mem.head _)))))))))))
  have f11 : 0 ≤ 0 + (1 * τ 1000001 + ((-1) * τ 1000003 + 0)) := hf _ (List.Mem.tail _ (List.Mem.tail _ (List.Mem.tail _ (List.Mem.tail _ (List.Mem.tail _ (List.Mem.tail _ (List.Mem.tail _ (List.Mem.tail _ (List.Mem.tail _ (List.Mem.tail _ (List.Mem.tail _ (List.Mem.head _))))))))))))
  have f12 : 0 ≤ 0 + ((-1) * τ 1000001 + (1 * τ 1000003 + 0)) := hf _ (List.Mem.tail _ (List.Mem.tail _ (List.Mem.tail _ (List.Mem.tail _ (List.Mem.tail _ (List.Mem.tail _ (List.Mem.tail _ (List.Mem.tail _ (List.Mem.tail _ (List.Mem.tail _ (List.Mem.tail _ (List.Mem.tail _ (List.Mem.head _)))))))))))))
  have f13 : 0 ≤ (-1) + ((-1) * τ 19001 + (1 * τ 19002 + 0)) := hf _ (List.Mem.tail _ (List.Mem.tail _ (List.Mem.tail _ (List.Mem.tail _ (List.Mem.tail _ (List.Mem.tail _ (List.Mem.tail _ (List.Mem.tail _ (List.Mem.tail _ (List.Mem.tail _ (List.Mem.tail _ (List.Mem.tail _ (List.Mem.tail _ (List.Mem.head _))))))))))))))
  have f14 : 0 ≤ (-1) + (1 * τ 133 + ((-1) * τ 19002 + 0)) := hf _ (List.Mem.tail _ (List.Mem.tail _ (List.Mem.tail _ (List.Mem.tail _ (List.Mem.tail _ (List.Mem.tail _ (List.Mem.tail _ (List.Mem.tail _ (List.Mem.tail _ (List.Mem.tail _ (List.Mem.tail _ (List.Mem.tail _ (List.Mem.tail _ (List.Mem.tail _ (List.Mem.head _)))))))))))))))
  have f15 : 0 ≤ (-1) + (1 * τ 133 + ((-1) * τ 19001 + 0)) := hf _ (List.Mem.tail _ (List.Mem.tail _ (List.Mem.tail _ (List.Mem.tail _ (List.Mem.tail _ (List.Mem.tail _ (List.Mem.tail _ (List.Mem.tail _ (List.Mem.tail _ (List.Mem.tail _ (List.Mem.tail _ (List.Mem.tail _ (List.Mem.tail _ (List.Mem.tail _ (List.Mem.tail _ (List.Mem.head _))))))))))))))))
  have mX1 : σ' 18588 = σ 18546 := lw_id (hs 18546 (by decide)) (hm 18588 (by decide))
  have mY1 : σ' 18589 = 16 := (hm 18589 (by decide)).trans rfl
  have mO1 : σ' 18590 = 0 + (1 * τ 1000002 + 0) := hm 18590 (by decide)
  have mA1 : σ' 18546 = 0 + (1 * τ 1000000 + 0) := hm 18546 (by decide)
  unfold sy_or at ho1
  rw [mX1, mY1, show (16 : Int).toNat = 2 ^ 4 from rfl] at ho1
  have mX2 : σ' 18591 = σ 18548 := lw_id (hs 18548 (by decide)) (hm 18591 (by decide))
  have mY2 : σ' 18592 = 4 := (hm 18592 (by decide)).trans rfl
  have mO2 : σ' 18593 = 0 + (1 * τ 1000003 + 0) := hm 18593 (by decide)
  have mA2 : σ' 18548 = 0 + (1 * τ 1000001 + 0) := hm 18548 (by decide)
  unfold sy_or at ho2
  rw [mX2, mY2, show (4 : Int).toNat = 2 ^ 2 from rfl] at ho2
  have ti : lw_ti a1.toNat a2.toNat (fun p => σ (18544 + p)) (fun p => σ' (18544 + p)) := by
    rw [show a1.toNat = 2 by omega, show a2.toNat = 4 by omega]
    intro p hp
    rcases (show p = 0 ∨ p = 1 ∨ p = 2 ∨ p = 3 ∨ p = 4 ∨ p = 5 ∨ p = 6 ∨ p = 7 by omega) with rfl | rfl | rfl | rfl | rfl | rfl | rfl | rfl
    · show σ' 18544 = if (0 : Nat) = 2 then _ else if (0 : Nat) = 4 then _ else _
      rw [if_neg (by decide), if_neg (by decide)]
      exact lw_id (hs _ (by decide)) (hm _ (by decide))
    · show σ' 18545 = if (1 : Nat) = 2 then _ else if (1 : Nat) = 4 then _ else _
      rw [if_neg (by decide), if_neg (by decide)]
      exact lw_id (hs _ (by decide)) (hm _ (by decide))
    · show σ' 18546 = if (2 : Nat) = 2 then _ else _
      rw [if_pos rfl]
      show σ' 18546 = (((σ 18546).toNat ||| 2 ^ 4 : Nat) : Int)
      omega
    · show σ' 18547 = if (3 : Nat) = 2 then _ else if (3 : Nat) = 4 then _ else _
      rw [if_neg (by decide), if_neg (by decide)]
      exact lw_id (hs _ (by decide)) (hm _ (by decide))
    · show σ' 18548 = if (4 : Nat) = 2 then _ else if (4 : Nat) = 4 then _ else _
      rw [if_neg (by decide), if_pos rfl]
      show σ' 18548 = (((σ 18548).toNat ||| 2 ^ 2 : Nat) : Int)
      omega
    · show σ' 18549 = if (5 : Nat) = 2 then _ else if (5 : Nat) = 4 then _ else _
      rw [if_neg (by decide), if_neg (by decide)]
      exact lw_id (hs _ (by decide)) (hm _ (by decide))
    · show σ' 18550 = if (6 : Nat) = 2 then _ else if (6 : Nat) = 4 then _ else _
      rw [if_neg (by decide), if_neg (by decide)]
      exact lw_id (hs _ (by decide)) (hm _ (by decide))
    · show σ' 18551 = if (7 : Nat) = 2 then _ else if (7 : Nat) = 4 then _ else _
      rw [if_neg (by decide), if_neg (by decide)]
      exact lw_id (hs _ (by decide)) (hm _ (by decide))
  exact Or.inl ⟨by omega, by omega, by omega, by omega, by omega, Or.inl ⟨by omega, ti, (fun p hp => (by rcases (show p = 0 ∨ p = 1 ∨ p = 2 ∨ p = 3 ∨ p = 4 ∨ p = 5 ∨ p = 6 ∨ p = 7 by omega) with rfl | rfl | rfl | rfl | rfl | rfl | rfl | rfl <;> exact lw_id (hs _ (by decide)) (hm _ (by decide))))⟩⟩
set_option maxHeartbeats 1000000 in
theorem lw_ux_66 {as : List rv_A} {σ σ' : Nat → Int} {o : rv_O} {x : Int32} {a1 a2 a3 : Int} {τ : Nat → Int} (hx : o.1 = some (.inl x)) (h1 : lw_av as 1 = a1) (h2 : lw_av as 2 = a2) (h3 : lw_av as 3 = a3) (ho1 : sy_or (σ' 18588) (σ' 18589) (σ' 18590)) (ho2 : sy_or (σ' 18591) (σ' 18592) (σ' 18593)) (hW : lw_W ([(18546, 16, 255), (18548, 4, 255), (18590, 16, 255), (18593, 4, 255)], [(0, [(18546, (-1)), (1000000, 1)]), (0, [(18548, (-1)), (1000001, 1)]), ((-1), [(133, 1)]), (11, [(134, (-1))]), ((-2), [(19001, 1)]), (2, [(19001, (-1))]), ((-4), [(19002, 1)]), (4, [(19002, (-1))]), ((-1), [(19003, 1)]), (0, [(1000000, 1), (1000002, (-1))]), (0, [(1000000, (-1)), (1000002, 1)]), (0, [(1000001, 1), (1000003, (-1))]), (0, [(1000001, (-1)), (1000003, 1)]), ((-1), [(19001, 1), (19002, (-1))]), ((-1), [(133, 1), (19002, (-1))]), ((-1), [(133, 1), (19001, (-1))])], [(9, (0, [])), (134, (1, [(134, 1)])), (7048, ((-2), [])), (7049, ((-2), [])), (8069, (0, [])), (11396, ((-2), [])), (18546, (0, [(1000000, 1)])), (18548, (0, [(1000001, 1)])), (18588, (0, [(18546, 1)])), (18589, (16, [])), (18590, (0, [(1000002, 1)])), (18591, (0, [(18548, 1)])), (18592, (4, [])), (18593, (0, [(1000003, 1)])), (18594, (2, []))], some (false, (1, []))) as σ σ' τ o) : lw_ux_C a1 a2 a3 x.toInt σ σ' := by
  unfold lw_ux_C
  obtain ⟨hs, ht, hf, hr, hm, hw⟩ := hW
  have e1 : τ 19001 = a1 := by rw [ht 19001 (by decide) (by decide)]; exact h1
  have e2 : τ 19002 = a2 := by rw [ht 19002 (by decide) (by decide)]; exact h2
  have e3 : τ 19003 = a3 := by rw [ht 19003 (by decide) (by decide)]; exact h3
  rw [hx] at hr
  obtain ⟨y, hy, hv⟩ := hr
  cases hy
  replace hv : x.toInt = 1 + 0 := hv
  have f0 : 0 ≤ 0 + ((-1) * τ 18546 + (1 * τ 1000000 + 0)) := hf _ (List.Mem.head _)
  have f1 : 0 ≤ 0 + ((-1) * τ 18548 + (1 * τ 1000001 + 0)) := hf _ (List.Mem.tail _ (List.Mem.head _))
  have f2 : 0 ≤ (-1) + (1 * τ 133 + 0) := hf _ (List.Mem.tail _ (List.Mem.tail _ (List.Mem.head _)))
  have f3 : 0 ≤ 11 + ((-1) * τ 134 + 0) := hf _ (List.Mem.tail _ (List.Mem.tail _ (List.Mem.tail _ (List.Mem.head _))))
  have f4 : 0 ≤ (-2) + (1 * τ 19001 + 0) := hf _ (List.Mem.tail _ (List.Mem.tail _ (List.Mem.tail _ (List.Mem.tail _ (List.Mem.head _)))))
  have f5 : 0 ≤ 2 + ((-1) * τ 19001 + 0) := hf _ (List.Mem.tail _ (List.Mem.tail _ (List.Mem.tail _ (List.Mem.tail _ (List.Mem.tail _ (List.Mem.head _))))))
  have f6 : 0 ≤ (-4) + (1 * τ 19002 + 0) := hf _ (List.Mem.tail _ (List.Mem.tail _ (List.Mem.tail _ (List.Mem.tail _ (List.Mem.tail _ (List.Mem.tail _ (List.Mem.head _)))))))
  have f7 : 0 ≤ 4 + ((-1) * τ 19002 + 0) := hf _ (List.Mem.tail _ (List.Mem.tail _ (List.Mem.tail _ (List.Mem.tail _ (List.Mem.tail _ (List.Mem.tail _ (List.Mem.tail _ (List.Mem.head _))))))))
  have f8 : 0 ≤ (-1) + (1 * τ 19003 + 0) := hf _ (List.Mem.tail _ (List.Mem.tail _ (List.Mem.tail _ (List.Mem.tail _ (List.Mem.tail _ (List.Mem.tail _ (List.Mem.tail _ (List.Mem.tail _ (List.Mem.head _)))))))))
  have f9 : 0 ≤ 0 + (1 * τ 1000000 + ((-1) * τ 1000002 + 0)) := hf _ (List.Mem.tail _ (List.Mem.tail _ (List.Mem.tail _ (List.Mem.tail _ (List.Mem.tail _ (List.Mem.tail _ (List.Mem.tail _ (List.Mem.tail _ (List.Mem.tail _ (List.Mem.head _))))))))))
  have f10 : 0 ≤ 0 + ((-1) * τ 1000000 + (1 * τ 1000002 + 0)) := hf _ (List.Mem.tail _ (List.Mem.tail _ (List.Mem.tail _ (List.Mem.tail _ (List.Mem.tail _ (List.Mem.tail _ (List.Mem.tail _ (List.Mem.tail _ (List.Mem.tail _ (List.Mem.tail _ (List.Mem.head _)))))))))))
  have f11 : 0 ≤ 0 + (1 * τ 1000001 + ((-1) * τ 1000003 + 0)) := hf _ (List.Mem.tail _ (List.Mem.tail _ (List.Mem.tail _ (List.Mem.tail _ (List.Mem.tail _ (List.Mem.tail _ (List.Mem.tail _ (List.Mem.tail _ (List.Mem.tail _ (List.Mem.tail _ (List.Mem.tail _ (List.Mem.head _))))))))))))
  have f12 : 0 ≤ 0 + ((-1) * τ 1000001 + (1 * τ 1000003 + 0)) := hf _ (List.Mem.tail _ (List.Mem.tail _ (List.Mem.tail _ (List.Mem.tail _ (List.Mem.tail _ (List.Mem.tail _ (List.Mem.tail _ (List.Mem.tail _ (List.Mem.tail _ (List.Mem.tail _ (List.Mem.tail _ (List.Mem.tail _ (List.Mem.head _)))))))))))))
  have f13 : 0 ≤ (-1) + (1 * τ 19001 + ((-1) * τ 19002 + 0)) := hf _ (List.Mem.tail _ (List.Mem.tail _ (List.Mem.tail _ (List.Mem.tail _ (List.Mem.tail _ (List.Mem.tail _ (List.Mem.tail _ (List.Mem.tail _ (List.Mem.tail _ (List.Mem.tail _ (List.Mem.tail _ (List.Mem.tail _ (List.Mem.tail _ (List.Mem.head _))))))))))))))
  have f14 : 0 ≤ (-1) + (1 * τ 133 + ((-1) * τ 19002 + 0)) := hf _ (List.Mem.tail _ (List.Mem.tail _ (List.Mem.tail _ (List.Mem.tail _ (List.Mem.tail _ (List.Mem.tail _ (List.Mem.tail _ (List.Mem.tail _ (List.Mem.tail _ (List.Mem.tail _ (List.Mem.tail _ (List.Mem.tail _ (List.Mem.tail _ (List.Mem.tail _ (List.Mem.head _)))))))))))))))
  have f15 : 0 ≤ (-1) + (1 * τ 133 + ((-1) * τ 19001 + 0)) := hf _ (List.Mem.tail _ (List.Mem.tail _ (List.Mem.tail _ (List.Mem.tail _ (List.Mem.tail _ (List.Mem.tail _ (List.Mem.tail _ (List.Mem.tail _ (List.Mem.tail _ (List.Mem.tail _ (List.Mem.tail _ (List.Mem.tail _ (List.Mem.tail _ (List.Mem.tail _ (List.Mem.tail _ (List.Mem.head _))))))))))))))))
  have mX1 : σ' 18588 = σ 18546 := lw_id (hs 18546 (by decide)) (hm 18588 (by decide))
  have mY1 : σ' 18589 = 16 := (hm 18589 (by decide)).trans rfl
  have mO1 : σ' 18590 = 0 + (1 * τ 1000002 + 0) := hm 18590 (by decide)
  have mA1 : σ' 18546 = 0 + (1 * τ 1000000 + 0) := hm 18546 (by decide)
  unfold sy_or at ho1
  rw [mX1, mY1, show (16 : Int).toNat = 2 ^ 4 from rfl] at ho1
  have mX2 : σ' 18591 = σ 18548 := lw_id (hs 18548 (by decide)) (hm 18591 (by decide))
  have mY2 : σ' 18592 = 4 := (hm 18592 (by decide)).trans rfl
  have mO2 : σ' 18593 = 0 + (1 * τ 1000003 + 0) := hm 18593 (by decide)
  have mA2 : σ' 18548 = 0 + (1 * τ 1000001 + 0) := hm 18548 (by decide)
  unfold sy_or at ho2
  rw [mX2, mY2, show (4 : Int).toNat = 2 ^ 2 from rfl] at ho2
  have ti : lw_ti a1.toNat a2.toNat (fun p => σ (18544 + p)) (fun p => σ' (18544 + p)) := by
    rw [show a1.toNat = 2 by omega, show a2.toNat = 4 by omega]
    intro p hp
    rcases (show p = 0 ∨ p = 1 ∨ p = 2 ∨ p = 3 ∨ p = 4 ∨ p = 5 ∨ p = 6 ∨ p = 7 by omega) with rfl | rfl | rfl | rfl | rfl | rfl | rfl | rfl
    · show σ' 18544 = if (0 : Nat) = 2 then _ else if (0 : Nat) = 4 then _ else _
      rw [if_neg (by decide), if_neg (by decide)]
      exact lw_id (hs _ (by decide)) (hm _ (by decide))
    · show σ' 18545 = if (1 : Nat) = 2 then _ else if (1 : Nat) = 4 then _ else _
      rw [if_neg (by decide), if_neg (by decide)]
      exact lw_id (hs _ (by decide)) (hm _ (by decide))
    · show σ' 18546 = if (2 : Nat) = 2 then _ else _
      rw [if_pos rfl]
      show σ' 18546 = (((σ 18546).toNat ||| 2 ^ 4 : Nat) : Int)
      omega
    · show σ' 18547 = if (3 : Nat) = 2 then _ else if (3 : Nat) = 4 then _ else _
      rw [if_neg (by decide), if_neg (by decide)]
      exact lw_id (hs _ (by decide)) (hm _ (by decide))
    · show σ' 18548 = if (4 : Nat) = 2 then _ else if (4 : Nat) = 4 then _ else _
      rw [if_neg (by decide), if_pos rfl]
      show σ' 18548 = (((σ 18548).toNat ||| 2 ^ 2 : Nat) : Int)
      omega
    · show σ' 18549 = if (5 : Nat) = 2 then _ else if (5 : Nat) = 4 then _ else _
      rw [if_neg (by decide), if_neg (by decide)]
      exact lw_id (hs _ (by decide)) (hm _ (by decide))
    · show σ' 18550 = if (6 : Nat) = 2 then _ else if (6 : Nat) = 4 then _ else _
      rw [if_neg (by decide), if_neg (by decide)]
      exact lw_id (hs _ (by decide)) (hm _ (by decide))
    · show σ' 18551 = if (7 : Nat) = 2 then _ else if (7 : Nat) = 4 then _ else _
      rw [if_neg (by decide), if_neg (by decide)]
      exact lw_id (hs _ (by decide)) (hm _ (by decide))
  exact Or.inl ⟨by omega, by omega, by omega, by omega, by omega, Or.inl ⟨by omega, ti, (fun p hp => (by rcases (show p = 0 ∨ p = 1 ∨ p = 2 ∨ p = 3 ∨ p = 4 ∨ p = 5 ∨ p = 6 ∨ p = 7 by omega) with rfl | rfl | rfl | rfl | rfl | rfl | rfl | rfl <;> exact lw_id (hs _ (by decide)) (hm _ (by decide))))⟩⟩
set_option maxHeartbeats 1000000 in
theorem lw_ux_67 {as : List rv_A} {σ σ' : Nat → Int} {o : rv_O} {x : Int32} {a1 a2 a3 : Int} {τ : Nat → Int} (hx : o.1 = some (.inl x)) (h1 : lw_av as 1 = a1) (h2 : lw_av as 2 = a2) (h3 : lw_av as 3 = a3) (ho1 : sy_or (σ' 18588) (σ' 18589) (σ' 18590)) (ho2 : sy_or (σ' 18591) (σ' 18592) (σ' 18593)) (hW : lw_W ([(18538, 32, 255), (18541, 4, 255), (18590, 32, 255), (18593, 4, 255)], [(0, [(18538, (-1)), (1000000, 1)]), (0, [(18541, (-1)), (1000001, 1)]), ((-1), [(133, 1)]), (11, [(134, (-1))]), ((-2), [(19001, 1)]), (2, [(19001, (-1))]), ((-5), [(19002, 1)]), (5, [(19002, (-1))]), (0, [(19003, (-1))]), (0, [(1000000, 1), (1000002, (-1))]), (0, [(1000000, (-1)), (1000002, 1)]), (0, [(1000001, 1), (1000003, (-1))]), (0, [(1000001, (-1)), (1000003, 1)]), ((-1), [(19001, (-1)), (19002, 1)]), ((-1), [(133, 1), (19002, (-1))]), ((-1), [(133, 1), (19001, (-1))])], [(9, (0, [])), (134, (1, [(134, 1)])), (7048, ((-2), [])), (7049, ((-2), [])), (8069, (0, [])), (11396, ((-2), [])), (18538, (0, [(1000000, 1)])), (18541, (0, [(1000001, 1)])), (18588, (0, [(18538, 1)])), (18589, (32, [])), (18590, (0, [(1000002, 1)])), (18591, (0, [(18541, 1)])), (18592, (4, [])), (18593, (0, [(1000003, 1)])), (18594, (2, []))], some (false, (1, []))) as σ σ' τ o) : lw_ux_C a1 a2 a3 x.toInt σ σ' := by
  unfold lw_ux_C
  obtain ⟨hs, ht, hf, hr, hm, hw⟩ := hW
  have e1 : τ 19001 = a1 := by rw [ht 19001 (by decide) (by decide)]; exact h1
  have e2 : τ 19002 = a2 := by rw [ht 19002 (by decide) (by decide)]; exact h2
  have e3 : τ 19003 = a3 := by rw [ht 19003 (by decide) (by decide)]; exact h3
  rw [hx] at hr
  obtain ⟨y, hy, hv⟩ := hr
  cases hy
  replace hv : x.toInt = 1 + 0 := hv
  have f0 : 0 ≤ 0 + ((-1) * τ 18538 + (1 * τ 1000000 + 0)) := hf _ (List.Mem.head _)
  have f1 : 0 ≤ 0 + ((-1) * τ 18541 + (1 * τ 1000001 + 0)) := hf _ (List.Mem.tail _ (List.Mem.head _))
  have f2 : 0 ≤ (-1) + (1 * τ 133 + 0) := hf _ (List.Mem.tail _ (List.Mem.tail _ (List.Mem.head _)))
  have f3 : 0 ≤ 11 + ((-1) * τ 134 + 0) := hf _ (List.Mem.tail _ (List.Mem.tail _ (List.Mem.tail _ (List.Mem.head _))))
  have f4 : 0 ≤ (-2) + (1 * τ 19001 + 0) := hf _ (List.Mem.tail _ (List.Mem.tail _ (List.Mem.tail _ (List.Mem.tail _ (List.Mem.head _)))))
  have f5 : 0 ≤ 2 + ((-1) * τ 19001 + 0) := hf _ (List.Mem.tail _ (List.Mem.tail _ (List.Mem.tail _ (List.Mem.tail _ (List.Mem.tail _ (List.Mem.head _))))))
  have f6 : 0 ≤ (-5) + (1 * τ 19002 + 0) := hf _ (List.Mem.tail _ (List.Mem.tail _ (List.Mem.tail _ (List.Mem.tail _ (List.Mem.tail _ (List.Mem.tail _ (List.Mem.head _)))))))
  have f7 : 0 ≤ 5 + ((-1) * τ 19002 + 0) := hf _ (List.Mem.tail _ (List.Mem.tail _ (List.Mem.tail _ (List.Mem.tail _ (List.Mem.tail _ (List.Mem.tail _ (List.Mem.tail _ (List.Mem.head _))))))))
  have f8 : 0 ≤ 0 + ((-1) * τ 19003 + 0) := hf _ (List.Mem.tail _ (List.Mem.tail _ (List.Mem.tail _ (List.Mem.tail _ (List.Mem.tail _ (List.Mem.tail _ (List.Mem.tail _ (List.Mem.tail _ (List.Mem.head _)))))))))
  have f9 : 0 ≤ 0 + (1 * τ 1000000 + ((-1) * τ 1000002 + 0)) := hf _ (List.Mem.tail _ (List.Mem.tail _ (List.Mem.tail _ (List.Mem.tail _ (List.Mem.tail _ (List.Mem.tail _ (List.Mem.tail _ (List.Mem.tail _ (List.Mem.tail _ (List.Mem.head _))))))))))
  have f10 : 0 ≤ 0 + ((-1) * τ 1000000 + (1 * τ 1000002 + 0)) := hf _ (List.Mem.tail _ (List.Mem.tail _ (List.Mem.tail _ (List.Mem.tail _ (List.Mem.tail _ (List.Mem.tail _ (List.Mem.tail _ (List.Mem.tail _ (List.Mem.tail _ (List.Mem.tail _ (List.Mem.head _)))))))))))
  have f11 : 0 ≤ 0 + (1 * τ 1000001 + ((-1) * τ 1000003 + 0)) := hf _ (List.Mem.tail _ (List.Mem.tail _ (List.Mem.tail _ (List.Mem.tail _ (List.Mem.tail _ (List.Mem.tail _ (List.Mem.tail _ (List.Mem.tail _ (List.Mem.tail _ (List.Mem.tail _ (List.Mem.tail _ (List.Mem.head _))))))))))))
  have f12 : 0 ≤ 0 + ((-1) * τ 1000001 + (1 * τ 1000003 + 0)) := hf _ (List.Mem.tail _ (List.Mem.tail _ (List.Mem.tail _ (List.Mem.tail _ (List.Mem.tail _ (List.Mem.tail _ (List.Mem.tail _ (List.Mem.tail _ (List.Mem.tail _ (List.Mem.tail _ (List.Mem.tail _ (List.Mem.tail _ (List.Mem.head _)))))))))))))
  have f13 : 0 ≤ (-1) + ((-1) * τ 19001 + (1 * τ 19002 + 0)) := hf _ (List.Mem.tail _ (List.Mem.tail _ (List.Mem.tail _ (List.Mem.tail _ (List.Mem.tail _ (List.Mem.tail _ (List.Mem.tail _ (List.Mem.tail _ (List.Mem.tail _ (List.Mem.tail _ (List.Mem.tail _ (List.Mem.tail _ (List.Mem.tail _ (List.Mem.head _))))))))))))))
  have f14 : 0 ≤ (-1) + (1 * τ 133 + ((-1) * τ 19002 + 0)) := hf _ (List.Mem.tail _ (List.Mem.tail _ (List.Mem.tail _ (List.Mem.tail _ (List.Mem.tail _ (List.Mem.tail _ (List.Mem.tail _ (List.Mem.tail _ (List.Mem.tail _ (List.Mem.tail _ (List.Mem.tail _ (List.Mem.tail _ (List.Mem.tail _ (List.Mem.tail _ (List.Mem.head _)))))))))))))))
  have f15 : 0 ≤ (-1) + (1 * τ 133 + ((-1) * τ 19001 + 0)) := hf _ (List.Mem.tail _ (List.Mem.tail _ (List.Mem.tail _ (List.Mem.tail _ (List.Mem.tail _ (List.Mem.tail _ (List.Mem.tail _ (List.Mem.tail _ (List.Mem.tail _ (List.Mem.tail _ (List.Mem.tail _ (List.Mem.tail _ (List.Mem.tail _ (List.Mem.tail _ (List.Mem.tail _ (List.Mem.head _))))))))))))))))
  have mX1 : σ' 18588 = σ 18538 := lw_id (hs 18538 (by decide)) (hm 18588 (by decide))
  have mY1 : σ' 18589 = 32 := (hm 18589 (by decide)).trans rfl
  have mO1 : σ' 18590 = 0 + (1 * τ 1000002 + 0) := hm 18590 (by decide)
  have mA1 : σ' 18538 = 0 + (1 * τ 1000000 + 0) := hm 18538 (by decide)
  unfold sy_or at ho1
  rw [mX1, mY1, show (32 : Int).toNat = 2 ^ 5 from rfl] at ho1
  have mX2 : σ' 18591 = σ 18541 := lw_id (hs 18541 (by decide)) (hm 18591 (by decide))
  have mY2 : σ' 18592 = 4 := (hm 18592 (by decide)).trans rfl
  have mO2 : σ' 18593 = 0 + (1 * τ 1000003 + 0) := hm 18593 (by decide)
  have mA2 : σ' 18541 = 0 + (1 * τ 1000001 + 0) := hm 18541 (by decide)
  unfold sy_or at ho2
  rw [mX2, mY2, show (4 : Int).toNat = 2 ^ 2 from rfl] at ho2
  have ti : lw_ti a1.toNat a2.toNat (fun p => σ (18536 + p)) (fun p => σ' (18536 + p)) := by
    rw [show a1.toNat = 2 by omega, show a2.toNat = 5 by omega]
    intro p hp
    rcases (show p = 0 ∨ p = 1 ∨ p = 2 ∨ p = 3 ∨ p = 4 ∨ p = 5 ∨ p = 6 ∨ p = 7 by omega) with rfl | rfl | rfl | rfl | rfl | rfl | rfl | rfl
    · show σ' 18536 = if (0 : Nat) = 2 then _ else if (0 : Nat) = 5 then _ else _
      rw [if_neg (by decide), if_neg (by decide)]
      exact lw_id (hs _ (by decide)) (hm _ (by decide))
    · show σ' 18537 = if (1 : Nat) = 2 then _ else if (1 : Nat) = 5 then _ else _
      rw [if_neg (by decide), if_neg (by decide)]
      exact lw_id (hs _ (by decide)) (hm _ (by decide))
    · show σ' 18538 = if (2 : Nat) = 2 then _ else _
      rw [if_pos rfl]
      show σ' 18538 = (((σ 18538).toNat ||| 2 ^ 5 : Nat) : Int)
      omega
    · show σ' 18539 = if (3 : Nat) = 2 then _ else if (3 : Nat) = 5 then _ else _
      rw [if_neg (by decide), if_neg (by decide)]
      exact lw_id (hs _ (by decide)) (hm _ (by decide))
    · show σ' 18540 = if (4 : Nat) = 2 then _ else if (4 : Nat) = 5 then _ else _
      rw [if_neg (by decide), if_neg (by decide)]
      exact lw_id (hs _ (by decide)) (hm _ (by decide))
    · show σ' 18541 = if (5 : Nat) = 2 then _ else if (5 : Nat) = 5 then _ else _
      rw [if_neg (by decide), if_pos rfl]
      show σ' 18541 = (((σ 18541).toNat ||| 2 ^ 2 : Nat) : Int)
      omega
    · show σ' 18542 = if (6 : Nat) = 2 then _ else if (6 : Nat) = 5 then _ else _
      rw [if_neg (by decide), if_neg (by decide)]
      exact lw_id (hs _ (by decide)) (hm _ (by decide))
    · show σ' 18543 = if (7 : Nat) = 2 then _ else if (7 : Nat) = 5 then _ else _
      rw [if_neg (by decide), if_neg (by decide)]
      exact lw_id (hs _ (by decide)) (hm _ (by decide))
  exact Or.inl ⟨by omega, by omega, by omega, by omega, by omega, Or.inr ⟨by omega, ti, (fun p hp => (by rcases (show p = 0 ∨ p = 1 ∨ p = 2 ∨ p = 3 ∨ p = 4 ∨ p = 5 ∨ p = 6 ∨ p = 7 by omega) with rfl | rfl | rfl | rfl | rfl | rfl | rfl | rfl <;> exact lw_id (hs _ (by decide)) (hm _ (by decide))))⟩⟩
set_option maxHeartbeats 1000000 in
theorem lw_ux_68 {as : List rv_A} {σ σ' : Nat → Int} {o : rv_O} {x : Int32} {a1 a2 a3 : Int} {τ : Nat → Int} (hx : o.1 = some (.inl x)) (h1 : lw_av as 1 = a1) (h2 : lw_av as 2 = a2) (h3 : lw_av as 3 = a3) (ho1 : sy_or (σ' 18588) (σ' 18589) (σ' 18590)) (ho2 : sy_or (σ' 18591) (σ' 18592) (σ' 18593)) (hW : lw_W ([(18538, 32, 255), (18541, 4, 255), (18590, 32, 255), (18593, 4, 255)], [(0, [(18538, (-1)), (1000000, 1)]), (0, [(18541, (-1)), (1000001, 1)]), ((-1), [(133, 1)]), (11, [(134, (-1))]), ((-2), [(19001, 1)]), (2, [(19001, (-1))]), ((-5), [(19002, 1)]), (5, [(19002, (-1))]), (0, [(19003, (-1))]), (0, [(1000000, 1), (1000002, (-1))]), (0, [(1000000, (-1)), (1000002, 1)]), (0, [(1000001, 1), (1000003, (-1))]), (0, [(1000001, (-1)), (1000003, 1)]), ((-1), [(19001, 1), (19002, (-1))]), ((-1), [(133, 1), (19002, (-1))]), ((-1), [(133, 1), (19001, (-1))])], [(9, (0, [])), (134, (1, [(134, 1)])), (7048, ((-2), [])), (7049, ((-2), [])), (8069, (0, [])), (11396, ((-2), [])), (18538, (0, [(1000000, 1)])), (18541, (0, [(1000001, 1)])), (18588, (0, [(18538, 1)])), (18589, (32, [])), (18590, (0, [(1000002, 1)])), (18591, (0, [(18541, 1)])), (18592, (4, [])), (18593, (0, [(1000003, 1)])), (18594, (2, []))], some (false, (1, []))) as σ σ' τ o) : lw_ux_C a1 a2 a3 x.toInt σ σ' := by
  unfold lw_ux_C
  obtain ⟨hs, ht, hf, hr, hm, hw⟩ := hW
  have e1 : τ 19001 = a1 := by rw [ht 19001 (by decide) (by decide)]; exact h1
  have e2 : τ 19002 = a2 := by rw [ht 19002 (by decide) (by decide)]; exact h2
  have e3 : τ 19003 = a3 := by rw [ht 19003 (by decide) (by decide)]; exact h3
  rw [hx] at hr
  obtain ⟨y, hy, hv⟩ := hr
  cases hy
  replace hv : x.toInt = 1 + 0 := hv
  have f0 : 0 ≤ 0 + ((-1) * τ 18538 + (1 * τ 1000000 + 0)) := hf _ (List.Mem.head _)
  have f1 : 0 ≤ 0 + ((-1) * τ 18541 + (1 * τ 1000001 + 0)) := hf _ (List.Mem.tail _ (List.Mem.head _))
  have f2 : 0 ≤ (-1) + (1 * τ 133 + 0) := hf _ (List.Mem.tail _ (List.Mem.tail _ (List.Mem.head _)))
  have f3 : 0 ≤ 11 + ((-1) * τ 134 + 0) := hf _ (List.Mem.tail _ (List.Mem.tail _ (List.Mem.tail _ (List.Mem.head _))))
  have f4 : 0 ≤ (-2) + (1 * τ 19001 + 0) := hf _ (List.Mem.tail _ (List.Mem.tail _ (List.Mem.tail _ (List.Mem.tail _ (List.Mem.head _)))))
  have f5 : 0 ≤ 2 + ((-1) * τ 19001 + 0) := hf _ (List.Mem.tail _ (List.Mem.tail _ (List.Mem.tail _ (List.Mem.tail _ (List.Mem.tail _ (List.Mem.head _))))))
  have f6 : 0 ≤ (-5) + (1 * τ 19002 + 0) := hf _ (List.Mem.tail _ (List.Mem.tail _ (List.Mem.tail _ (List.Mem.tail _ (List.Mem.tail _ (List.Mem.tail _ (List.Mem.head _)))))))
  have f7 : 0 ≤ 5 + ((-1) * τ 19002 + 0) := hf _ (List.Mem.tail _ (List.Mem.tail _ (List.Mem.tail _ (List.Mem.tail _ (List.Mem.tail _ (List.Mem.tail _ (List.Mem.tail _ (List.Mem.head _))))))))
  have f8 : 0 ≤ 0 + ((-1) * τ 19003 + 0) := hf _ (List.Mem.tail _ (List.Mem.tail _ (List.Mem.tail _ (List.Mem.tail _ (List.Mem.tail _ (List.Mem.tail _ (List.Mem.tail _ (List.Mem.tail _ (List.Mem.head _)))))))))
  have f9 : 0 ≤ 0 + (1 * τ 1000000 + ((-1) * τ 1000002 + 0)) := hf _ (List.Mem.tail _ (List.Mem.tail _ (List.Mem.tail _ (List.Mem.tail _ (List.Mem.tail _ (List.Mem.tail _ (List.Mem.tail _ (List.Mem.tail _ (List.Mem.tail _ (List.Mem.head _))))))))))
  have f10 : 0 ≤ 0 + ((-1) * τ 1000000 + (1 * τ 1000002 + 0)) := hf _ (List.Mem.tail _ (List.Mem.tail _ (List.Mem.tail _ (List.Mem.tail _ (List.Mem.tail _ (List.Mem.tail _ (List.Mem.tail _ (List.Mem.tail _ (List.Mem.tail _ (List.Mem.tail _ (List.Mem.head _)))))))))))
  have f11 : 0 ≤ 0 + (1 * τ 1000001 + ((-1) * τ 1000003 + 0)) := hf _ (List.Mem.tail _ (List.Mem.tail _ (List.Mem.tail _ (List.Mem.tail _ (List.Mem.tail _ (List.Mem.tail _ (List.Mem.tail _ (List.Mem.tail _ (List.Mem.tail _ (List.Mem.tail _ (List.Mem.tail _ (List.Mem.head _))))))))))))
  have f12 : 0 ≤ 0 + ((-1) * τ 1000001 + (1 * τ 1000003 + 0)) := hf _ (List.Mem.tail _ (List.Mem.tail _ (List.Mem.tail _ (List.Mem.tail _ (List.Mem.tail _ (List.Mem.tail _ (List.Mem.tail _ (List.Mem.tail _ (List.Mem.tail _ (List.Mem.tail _ (List.Mem.tail _ (List.Mem.tail _ (List.Mem.head _)))))))))))))
  have f13 : 0 ≤ (-1) + (1 * τ 19001 + ((-1) * τ 19002 + 0)) := hf _ (List.Mem.tail _ (List.Mem.tail _ (List.Mem.tail _ (List.Mem.tail _ (List.Mem.tail _ (List.Mem.tail _ (List.Mem.tail _ (List.Mem.tail _ (List.Mem.tail _ (List.Mem.tail _ (List.Mem.tail _ (List.Mem.tail _ (List.Mem.tail _ (List.Mem.head _))))))))))))))
  have f14 : 0 ≤ (-1) + (1 * τ 133 + ((-1) * τ 19002 + 0)) := hf _ (List.Mem.tail _ (List.Mem.tail _ (List.Mem.tail _ (List.Mem.tail _ (List.Mem.tail _ (List.Mem.tail _ (List.Mem.tail _ (List.Mem.tail _ (List.Mem.tail _ (List.Mem.tail _ (List.Mem.tail _ (List.Mem.tail _ (List.Mem.tail _ (List.Mem.tail _ (List.Mem.head _)))))))))))))))
  have f15 : 0 ≤ (-1) + (1 * τ 133 + ((-1) * τ 19001 + 0)) := hf _ (List.Mem.tail _ (List.Mem.tail _ (List.Mem.tail _ (List.Mem.tail _ (List.Mem.tail _ (List.Mem.tail _ (List.Mem.tail _ (List.Mem.tail _ (List.Mem.tail _ (List.Mem.tail _ (List.Mem.tail _ (List.Mem.tail _ (List.Mem.tail _ (List.Mem.tail _ (List.Mem.tail _ (List.Mem.head _))))))))))))))))
  have mX1 : σ' 18588 = σ 18538 := lw_id (hs 18538 (by decide)) (hm 18588 (by decide))
  have mY1 : σ' 18589 = 32 := (hm 18589 (by decide)).trans rfl
  have mO1 : σ' 18590 = 0 + (1 * τ 1000002 + 0) := hm 18590 (by decide)
  have mA1 : σ' 18538 = 0 + (1 * τ 1000000 + 0) := hm 18538 (by decide)
  unfold sy_or at ho1
  rw [mX1, mY1, show (32 : Int).toNat = 2 ^ 5 from rfl] at ho1
  have mX2 : σ' 18591 = σ 18541 := lw_id (hs 18541 (by decide)) (hm 18591 (by decide))
  have mY2 : σ' 18592 = 4 := (hm 18592 (by decide)).trans rfl
  have mO2 : σ' 18593 = 0 + (1 * τ 1000003 + 0) := hm 18593 (by decide)
  have mA2 : σ' 18541 = 0 + (1 * τ 1000001 + 0) := hm 18541 (by decide)
  unfold sy_or at ho2
  rw [mX2, mY2, show (4 : Int).toNat = 2 ^ 2 from rfl] at ho2
  have ti : lw_ti a1.toNat a2.toNat (fun p => σ (18536 + p)) (fun p => σ' (18536 + p)) := by
    rw [show a1.toNat = 2 by omega, show a2.toNat = 5 by omega]
    intro p hp
    rcases (show p = 0 ∨ p = 1 ∨ p = 2 ∨ p = 3 ∨ p = 4 ∨ p = 5 ∨ p = 6 ∨ p = 7 by omega) with rfl | rfl | rfl | rfl | rfl | rfl | rfl | rfl
    · show σ' 18536 = if (0 : Nat) = 2 then _ else if (0 : Nat) = 5 then _ else _
      rw [if_neg (by decide), if_neg (by decide)]
      exact lw_id (hs _ (by decide)) (hm _ (by decide))
    · show σ' 18537 = if (1 : Nat) = 2 then _ else if (1 : Nat) = 5 then _ else _
      rw [if_neg (by decide), if_neg (by decide)]
      exact lw_id (hs _ (by decide)) (hm _ (by decide))
    · show σ' 18538 = if (2 : Nat) = 2 then _ else _
      rw [if_pos rfl]
      show σ' 18538 = (((σ 18538).toNat ||| 2 ^ 5 : Nat) : Int)
      omega
    · show σ' 18539 = if (3 : Nat) = 2 then _ else if (3 : Nat) = 5 then _ else _
      rw [if_neg (by decide), if_neg (by decide)]
      exact lw_id (hs _ (by decide)) (hm _ (by decide))
    · show σ' 18540 = if (4 : Nat) = 2 then _ else if (4 : Nat) = 5 then _ else _
      rw [if_neg (by decide), if_neg (by decide)]
      exact lw_id (hs _ (by decide)) (hm _ (by decide))
    · show σ' 18541 = if (5 : Nat) = 2 then _ else if (5 : Nat) = 5 then _ else _
      rw [if_neg (by decide), if_pos rfl]
      show σ' 18541 = (((σ 18541).toNat ||| 2 ^ 2 : Nat) : Int)
      omega
    · show σ' 18542 = if (6 : Nat) = 2 then _ else if (6 : Nat) = 5 then _ else _
      rw [if_neg (by decide), if_neg (by decide)]
      exact lw_id (hs _ (by decide)) (hm _ (by decide))
    · show σ' 18543 = if (7 : Nat) = 2 then _ else if (7 : Nat) = 5 then _ else _
      rw [if_neg (by decide), if_neg (by decide)]
      exact lw_id (hs _ (by decide)) (hm _ (by decide))
  exact Or.inl ⟨by omega, by omega, by omega, by omega, by omega, Or.inr ⟨by omega, ti, (fun p hp => (by rcases (show p = 0 ∨ p = 1 ∨ p = 2 ∨ p = 3 ∨ p = 4 ∨ p = 5 ∨ p = 6 ∨ p = 7 by omega) with rfl | rfl | rfl | rfl | rfl | rfl | rfl | rfl <;> exact lw_id (hs _ (by decide)) (hm _ (by decide))))⟩⟩
set_option maxHeartbeats 1000000 in
theorem lw_ux_69 {as : List rv_A} {σ σ' : Nat → Int} {o : rv_O} {x : Int32} {a1 a2 a3 : Int} {τ : Nat → Int} (hx : o.1 = some (.inl x)) (h1 : lw_av as 1 = a1) (h2 : lw_av as 2 = a2) (h3 : lw_av as 3 = a3) (ho1 : sy_or (σ' 18588) (σ' 18589) (σ' 18590)) (ho2 : sy_or (σ' 18591) (σ' 18592) (σ' 18593)) (hW : lw_W ([(18546, 32, 255), (18549, 4, 255), (18590, 32, 255), (18593, 4, 255)], [(0, [(18546, (-1)), (1000000, 1)]), (0, [(18549, (-1)), (1000001, 1)]), ((-1), [(133, 1)]), (11, [(134, (-1))]), ((-2), [(19001, 1)]), (2, [(19001, (-1))]), ((-5), [(19002, 1)]), (5, [(19002, (-1))]), ((-1), [(19003, 1)]), (0, [(1000000, 1), (1000002, (-1))]), (0, [(1000000, (-1)), (1000002, 1)]), (0, [(1000001, 1), (1000003, (-1))]), (0, [(1000001, (-1)), (1000003, 1)]), ((-1), [(19001, (-1)), (19002, 1)]), ((-1), [(133, 1), (19002, (-1))]), ((-1), [(133, 1), (19001, (-1))])], [(9, (0, [])), (134, (1, [(134, 1)])), (7048, ((-2), [])), (7049, ((-2), [])), (8069, (0, [])), (11396, ((-2), [])), (18546, (0, [(1000000, 1)])), (18549, (0, [(1000001, 1)])), (18588, (0, [(18546, 1)])), (18589, (32, [])), (18590, (0, [(1000002, 1)])), (18591, (0, [(18549, 1)])), (18592, (4, [])), (18593, (0, [(1000003, 1)])), (18594, (2, []))], some (false, (1, []))) as σ σ' τ o) : lw_ux_C a1 a2 a3 x.toInt σ σ' := by
  unfold lw_ux_C
  obtain ⟨hs, ht, hf, hr, hm, hw⟩ := hW
  have e1 : τ 19001 = a1 := by rw [ht 19001 (by decide) (by decide)]; exact h1
  have e2 : τ 19002 = a2 := by rw [ht 19002 (by decide) (by decide)]; exact h2
  have e3 : τ 19003 = a3 := by rw [ht 19003 (by decide) (by decide)]; exact h3
  rw [hx] at hr
  obtain ⟨y, hy, hv⟩ := hr
  cases hy
  replace hv : x.toInt = 1 + 0 := hv
  have f0 : 0 ≤ 0 + ((-1) * τ 18546 + (1 * τ 1000000 + 0)) := hf _ (List.Mem.head _)
  have f1 : 0 ≤ 0 + ((-1) * τ 18549 + (1 * τ 1000001 + 0)) := hf _ (List.Mem.tail _ (List.Mem.head _))
  have f2 : 0 ≤ (-1) + (1 * τ 133 + 0) := hf _ (List.Mem.tail _ (List.Mem.tail _ (List.Mem.head _)))
  have f3 : 0 ≤ 11 + ((-1) * τ 134 + 0) := hf _ (List.Mem.tail _ (List.Mem.tail _ (List.Mem.tail _ (List.Mem.head _))))
  have f4 : 0 ≤ (-2) + (1 * τ 19001 + 0) := hf _ (List.Mem.tail _ (List.Mem.tail _ (List.Mem.tail _ (List.Mem.tail _ (List.Mem.head _)))))
  have f5 : 0 ≤ 2 + ((-1) * τ 19001 + 0) := hf _ (List.Mem.tail _ (List.Mem.tail _ (List.Mem.tail _ (List.Mem.tail _ (List.Mem.tail _ (List.Mem.head _))))))
  have f6 : 0 ≤ (-5) + (1 * τ 19002 + 0) := hf _ (List.Mem.tail _ (List.Mem.tail _ (List.Mem.tail _ (List.Mem.tail _ (List.Mem.tail _ (List.Mem.tail _ (List.Mem.head _)))))))
  have f7 : 0 ≤ 5 + ((-1) * τ 19002 + 0) := hf _ (List.Mem.tail _ (List.Mem.tail _ (List.Mem.tail _ (List.Mem.tail _ (List.Mem.tail _ (List.Mem.tail _ (List.Mem.tail _ (List.Mem.head _))))))))
  have f8 : 0 ≤ (-1) + (1 * τ 19003 + 0) := hf _ (List.Mem.tail _ (List.Mem.tail _ (List.Mem.tail _ (List.Mem.tail _ (List.Mem.tail _ (List.Mem.tail _ (List.Mem.tail _ (List.Mem.tail _ (List.Mem.head _)))))))))
  have f9 : 0 ≤ 0 + (1 * τ 1000000 + ((-1) * τ 1000002 + 0)) := hf _ (List.Mem.tail _ (List.Mem.tail _ (List.Mem.tail _ (List.Mem.tail _ (List.Mem.tail _ (List.Mem.tail _ (List.Mem.tail _ (List.Mem.tail _ (List.Mem.tail _ (List.Mem.head _))))))))))
  have f10 : 0 ≤ 0 + ((-1) * τ 1000000 + (1 * τ 1000002 + 0)) := hf _ (List.Mem.tail _ (List.Mem.tail _ (List.Mem.tail _ (List.Mem.tail _ (List.Mem.tail _ (List.Mem.tail _ (List.Mem.tail _ (List.Mem.tail _ (List.Mem.tail _ (List.Mem.tail _ (List.Mem.head _)))))))))))
  have f11 : 0 ≤ 0 + (1 * τ 1000001 + ((-1) * τ 1000003 + 0)) := hf _ (List.Mem.tail _ (List.Mem.tail _ (List.Mem.tail _ (List.Mem.tail _ (List.Mem.tail _ (List.Mem.tail _ (List.Mem.tail _ (List.Mem.tail _ (List.Mem.tail _ (List.Mem.tail _ (List.Mem.tail _ (List.Mem.head _))))))))))))
  have f12 : 0 ≤ 0 + ((-1) * τ 1000001 + (1 * τ 1000003 + 0)) := hf _ (List.Mem.tail _ (List.Mem.tail _ (List.Mem.tail _ (List.Mem.tail _ (List.Mem.tail _ (List.Mem.tail _ (List.Mem.tail _ (List.Mem.tail _ (List.Mem.tail _ (List.Mem.tail _ (List.Mem.tail _ (List.Mem.tail _ (List.Mem.head _)))))))))))))
  have f13 : 0 ≤ (-1) + ((-1) * τ 19001 + (1 * τ 19002 + 0)) := hf _ (List.Mem.tail _ (List.Mem.tail _ (List.Mem.tail _ (List.Mem.tail _ (List.Mem.tail _ (List.Mem.tail _ (List.Mem.tail _ (List.Mem.tail _ (List.Mem.tail _ (List.Mem.tail _ (List.Mem.tail _ (List.Mem.tail _ (List.Mem.tail _ (List.Mem.head _))))))))))))))
  have f14 : 0 ≤ (-1) + (1 * τ 133 + ((-1) * τ 19002 + 0)) := hf _ (List.Mem.tail _ (List.Mem.tail _ (List.Mem.tail _ (List.Mem.tail _ (List.Mem.tail _ (List.Mem.tail _ (List.Mem.tail _ (List.Mem.tail _ (List.Mem.tail _ (List.Mem.tail _ (List.Mem.tail _ (List.Mem.tail _ (List.Mem.tail _ (List.Mem.tail _ (List.Mem.head _)))))))))))))))
  have f15 : 0 ≤ (-1) + (1 * τ 133 + ((-1) * τ 19001 + 0)) := hf _ (List.Mem.tail _ (List.Mem.tail _ (List.Mem.tail _ (List.Mem.tail _ (List.Mem.tail _ (List.Mem.tail _ (List.Mem.tail _ (List.Mem.tail _ (List.Mem.tail _ (List.Mem.tail _ (List.Mem.tail _ (List.Mem.tail _ (List.Mem.tail _ (List.Mem.tail _ (List.Mem.tail _ (List.Mem.head _))))))))))))))))
  have mX1 : σ' 18588 = σ 18546 := lw_id (hs 18546 (by decide)) (hm 18588 (by decide))
  have mY1 : σ' 18589 = 32 := (hm 18589 (by decide)).trans rfl
  have mO1 : σ' 18590 = 0 + (1 * τ 1000002 + 0) := hm 18590 (by decide)
  have mA1 : σ' 18546 = 0 + (1 * τ 1000000 + 0) := hm 18546 (by decide)
  unfold sy_or at ho1
  rw [mX1, mY1, show (32 : Int).toNat = 2 ^ 5 from rfl] at ho1
  have mX2 : σ' 18591 = σ 18549 := lw_id (hs 18549 (by decide)) (hm 18591 (by decide))
  have mY2 : σ' 18592 = 4 := (hm 18592 (by decide)).trans rfl
  have mO2 : σ' 18593 = 0 + (1 * τ 1000003 + 0) := hm 18593 (by decide)
  have mA2 : σ' 18549 = 0 + (1 * τ 1000001 + 0) := hm 18549 (by decide)
  unfold sy_or at ho2
  rw [mX2, mY2, show (4 : Int).toNat = 2 ^ 2 from rfl] at ho2
  have ti : lw_ti a1.toNat a2.toNat (fun p => σ (18544 + p)) (fun p => σ' (18544 + p)) := by
    rw [show a1.toNat = 2 by omega, show a2.toNat = 5 by omega]
    intro p hp
    rcases (show p = 0 ∨ p = 1 ∨ p = 2 ∨ p = 3 ∨ p = 4 ∨ p = 5 ∨ p = 6 ∨ p = 7 by omega) with rfl | rfl | rfl | rfl | rfl | rfl | rfl | rfl
    · show σ' 18544 = if (0 : Nat) = 2 then _ else if (0 : Nat) = 5 then _ else _
      rw [if_neg (by decide), if_neg (by decide)]
      exact lw_id (hs _ (by decide)) (hm _ (by decide))
    · show σ' 18545 = if (1 : Nat) = 2 then _ else if (1 : Nat) = 5 then _ else _
      rw [if_neg (by decide), if_neg (by decide)]
      exact lw_id (hs _ (by decide)) (hm _ (by decide))
    · show σ' 18546 = if (2 : Nat) = 2 then _ else _
      rw [if_pos rfl]
      show σ' 18546 = (((σ 18546).toNat ||| 2 ^ 5 : Nat) : Int)
      omega
    · show σ' 18547 = if (3 : Nat) = 2 then _ else if (3 : Nat) = 5 then _ else _
      rw [if_neg (by decide), if_neg (by decide)]
      exact lw_id (hs _ (by decide)) (hm _ (by decide))
    · show σ' 18548 = if (4 : Nat) = 2 then _ else if (4 : Nat) = 5 then _ else _
      rw [if_neg (by decide), if_neg (by decide)]
      exact lw_id (hs _ (by decide)) (hm _ (by decide))
    · show σ' 18549 = if (5 : Nat) = 2 then _ else if (5 : Nat) = 5 then _ else _
      rw [if_neg (by decide), if_pos rfl]
      show σ' 18549 = (((σ 18549).toNat ||| 2 ^ 2 : Nat) : Int)
      omega
    · show σ' 18550 = if (6 : Nat) = 2 then _ else if (6 : Nat) = 5 then _ else _
      rw [if_neg (by decide), if_neg (by decide)]
      exact lw_id (hs _ (by decide)) (hm _ (by decide))
    · show σ' 18551 = if (7 : Nat) = 2 then _ else if (7 : Nat) = 5 then _ else _
      rw [if_neg (by decide), if_neg (by decide)]
      exact lw_id (hs _ (by decide)) (hm _ (by decide))
  exact Or.inl ⟨by omega, by omega, by omega, by omega, by omega, Or.inl ⟨by omega, ti, (fun p hp => (by rcases (show p = 0 ∨ p = 1 ∨ p = 2 ∨ p = 3 ∨ p = 4 ∨ p = 5 ∨ p = 6 ∨ p = 7 by omega) with rfl | rfl | rfl | rfl | rfl | rfl | rfl | rfl <;> exact lw_id (hs _ (by decide)) (hm _ (by decide))))⟩⟩
set_option maxHeartbeats 1000000 in
theorem lw_ux_70 {as : List rv_A} {σ σ' : Nat → Int} {o : rv_O} {x : Int32} {a1 a2 a3 : Int} {τ : Nat → Int} (hx : o.1 = some (.inl x)) (h1 : lw_av as 1 = a1) (h2 : lw_av as 2 = a2) (h3 : lw_av as 3 = a3) (ho1 : sy_or (σ' 18588) (σ' 18589) (σ' 18590)) (ho2 : sy_or (σ' 18591) (σ' 18592) (σ' 18593)) (hW : lw_W ([(18546, 32, 255), (18549, 4, 255), (18590, 32, 255), (18593, 4, 255)], [(0, [(18546, (-1)), (1000000, 1)]), (0, [(18549, (-1)), (1000001, 1)]), ((-1), [(133, 1)]), (11, [(134, (-1))]), ((-2), [(19001, 1)]), (2, [(19001, (-1))]), ((-5), [(19002, 1)]), (5, [(19002, (-1))]), ((-1), [(19003, 1)]), (0, [(1000000, 1), (1000002, (-1))]), (0, [(1000000, (-1)), (1000002, 1)]), (0, [(1000001, 1), (1000003, (-1))]), (0, [(1000001, (-1)), (1000003, 1)]), ((-1), [(19001, 1), (19002, (-1))]), ((-1), [(133, 1), (19002, (-1))]), ((-1), [(133, 1), (19001, (-1))])], [(9, (0, [])), (134, (1, [(134, 1)])), (7048, ((-2), [])), (7049, ((-2), [])), (8069, (0, [])), (11396, ((-2), [])), (18546, (0, [(1000000, 1)])), (18549, (0, [(1000001, 1)])), (18588, (0, [(18546, 1)])), (18589, (32, [])), (18590, (0, [(1000002, 1)])), (18591, (0, [(18549, 1)])), (18592, (4, [])), (18593, (0, [(1000003, 1)])), (18594, (2, []))], some (false, (1, []))) as σ σ' τ o) : lw_ux_C a1 a2 a3 x.toInt σ σ' := by
  unfold lw_ux_C
  obtain ⟨hs, ht, hf, hr, hm, hw⟩ := hW
  have e1 : τ 19001 = a1 := by rw [ht 19001 (by decide) (by decide)]; exact h1
  have e2 : τ 19002 = a2 := by rw [ht 19002 (by decide) (by decide)]; exact h2
  have e3 : τ 19003 = a3 := by rw [ht 19003 (by decide) (by decide)]; exact h3
  rw [hx] at hr
  obtain ⟨y, hy, hv⟩ := hr
  cases hy
  replace hv : x.toInt = 1 + 0 := hv
  have f0 : 0 ≤ 0 + ((-1) * τ 18546 + (1 * τ 1000000 + 0)) := hf _ (List.Mem.head _)
  have f1 : 0 ≤ 0 + ((-1) * τ 18549 + (1 * τ 1000001 + 0)) := hf _ (List.Mem.tail _ (List.Mem.head _))
  have f2 : 0 ≤ (-1) + (1 * τ 133 + 0) := hf _ (List.Mem.tail _ (List.Mem.tail _ (List.Mem.head _)))
  have f3 : 0 ≤ 11 + ((-1) * τ 134 + 0) := hf _ (List.Mem.tail _ (List.Mem.tail _ (List.Mem.tail _ (List.Mem.head _))))
  have f4 : 0 ≤ (-2) + (1 * τ 19001 + 0) := hf _ (List.Mem.tail _ (List.Mem.tail _ (List.Mem.tail _ (List.Mem.tail _ (List.Mem.head _)))))
  have f5 : 0 ≤ 2 + ((-1) * τ 19001 + 0) := hf _ (List.Mem.tail _ (List.Mem.tail _ (List.Mem.tail _ (List.Mem.tail _ (List.Mem.tail _ (List.Mem.head _))))))
  have f6 : 0 ≤ (-5) + (1 * τ 19002 + 0) := hf _ (List.Mem.tail _ (List.Mem.tail _ (List.Mem.tail _ (List.Mem.tail _ (List.Mem.tail _ (List.Mem.tail _ (List.Mem.head _)))))))
  have f7 : 0 ≤ 5 + ((-1) * τ 19002 + 0) := hf _ (List.Mem.tail _ (List.Mem.tail _ (List.Mem.tail _ (List.Mem.tail _ (List.Mem.tail _ (List.Mem.tail _ (List.Mem.tail _ (List.Mem.head _))))))))
  have f8 : 0 ≤ (-1) + (1 * τ 19003 + 0) := hf _ (List.Mem.tail _ (List.Mem.tail _ (List.Mem.tail _ (List.Mem.tail _ (List.Mem.tail _ (List.Mem.tail _ (List.Mem.tail _ (List.Mem.tail _ (List.Mem.head _)))))))))
  have f9 : 0 ≤ 0 + (1 * τ 1000000 + ((-1) * τ 1000002 + 0)) := hf _ (List.Mem.tail _ (List.Mem.tail _ (List.Mem.tail _ (List.Mem.tail _ (List.Mem.tail _ (List.Mem.tail _ (List.Mem.tail _ (List.Mem.tail _ (List.Mem.tail _ (List.Mem.head _))))))))))
  have f10 : 0 ≤ 0 + ((-1) * τ 1000000 + (1 * τ 1000002 + 0)) := hf _ (List.Mem.tail _ (List.Mem.tail _ (List.Mem.tail _ (List.Mem.tail _ (List.Mem.tail _ (List.Mem.tail _ (List.Mem.tail _ (List.Mem.tail _ (List.Mem.tail _ (List.Mem.tail _ (List.Mem.head _)))))))))))
  have f11 : 0 ≤ 0 + (1 * τ 1000001 + ((-1) * τ 1000003 + 0)) := hf _ (List.Mem.tail _ (List.Mem.tail _ (List.Mem.tail _ (List.Mem.tail _ (List.Mem.tail _ (List.Mem.tail _ (List.Mem.tail _ (List.Mem.tail _ (List.Mem.tail _ (List.Mem.tail _ (List.Mem.tail _ (List.Mem.head _))))))))))))
  have f12 : 0 ≤ 0 + ((-1) * τ 1000001 + (1 * τ 1000003 + 0)) := hf _ (List.Mem.tail _ (List.Mem.tail _ (List.Mem.tail _ (List.Mem.tail _ (List.Mem.tail _ (List.Mem.tail _ (List.Mem.tail _ (List.Mem.tail _ (List.Mem.tail _ (List.Mem.tail _ (List.Mem.tail _ (List.Mem.tail _ (List.Mem.head _)))))))))))))
  have f13 : 0 ≤ (-1) + (1 * τ 19001 + ((-1) * τ 19002 + 0)) := hf _ (List.Mem.tail _ (List.Mem.tail _ (List.Mem.tail _ (List.Mem.tail _ (List.Mem.tail _ (List.Mem.tail _ (List.Mem.tail _ (List.Mem.tail _ (List.Mem.tail _ (List.Mem.tail _ (List.Mem.tail _ (List.Mem.tail _ (List.Mem.tail _ (List.Mem.head _))))))))))))))
  have f14 : 0 ≤ (-1) + (1 * τ 133 + ((-1) * τ 19002 + 0)) := hf _ (List.Mem.tail _ (List.Mem.tail _ (List.Mem.tail _ (List.Mem.tail _ (List.Mem.tail _ (List.Mem.tail _ (List.Mem.tail _ (List.Mem.tail _ (List.Mem.tail _ (List.Mem.tail _ (List.Mem.tail _ (List.Mem.tail _ (List.Mem.tail _ (List.Mem.tail _ (List.Mem.head _)))))))))))))))
  have f15 : 0 ≤ (-1) + (1 * τ 133 + ((-1) * τ 19001 + 0)) := hf _ (List.Mem.tail _ (List.Mem.tail _ (List.Mem.tail _ (List.Mem.tail _ (List.Mem.tail _ (List.Mem.tail _ (List.Mem.tail _ (List.Mem.tail _ (List.Mem.tail _ (List.Mem.tail _ (List.Mem.tail _ (List.Mem.tail _ (List.Mem.tail _ (List.Mem.tail _ (List.Mem.tail _ (List.Mem.head _))))))))))))))))
  have mX1 : σ' 18588 = σ 18546 := lw_id (hs 18546 (by decide)) (hm 18588 (by decide))
  have mY1 : σ' 18589 = 32 := (hm 18589 (by decide)).trans rfl
  have mO1 : σ' 18590 = 0 + (1 * τ 1000002 + 0) := hm 18590 (by decide)
  have mA1 : σ' 18546 = 0 + (1 * τ 1000000 + 0) := hm 18546 (by decide)
  unfold sy_or at ho1
  rw [mX1, mY1, show (32 : Int).toNat = 2 ^ 5 from rfl] at ho1
  have mX2 : σ' 18591 = σ 18549 := lw_id (hs 18549 (by decide)) (hm 18591 (by decide))
  have mY2 : σ' 18592 = 4 := (hm 18592 (by decide)).trans rfl
  have mO2 : σ' 18593 = 0 + (1 * τ 1000003 + 0) := hm 18593 (by decide)
  have mA2 : σ' 18549 = 0 + (1 * τ 1000001 + 0) := hm 18549 (by decide)
  unfold sy_or at ho2
  rw [mX2, mY2, show (4 : Int).toNat = 2 ^ 2 from rfl] at ho2
  have ti : lw_ti a1.toNat a2.toNat (fun p => σ (18544 + p)) (fun p => σ' (18544 + p)) := by
    rw [show a1.toNat = 2 by omega, show a2.toNat = 5 by omega]
    intro p hp
    rcases (show p = 0 ∨ p = 1 ∨ p = 2 ∨ p = 3 ∨ p = 4 ∨ p = 5 ∨ p = 6 ∨ p = 7 by omega) with rfl | rfl | rfl | rfl | rfl | rfl | rfl | rfl
    · show σ' 18544 = if (0 : Nat) = 2 then _ else if (0 : Nat) = 5 then _ else _
      rw [if_neg (by decide), if_neg (by decide)]
      exact lw_id (hs _ (by decide)) (hm _ (by decide))
    · show σ' 18545 = if (1 : Nat) = 2 then _ else if (1 : Nat) = 5 then _ else _
      rw [if_neg (by decide), if_neg (by decide)]
      exact lw_id (hs _ (by decide)) (hm _ (by decide))
    · show σ' 18546 = if (2 : Nat) = 2 then _ else _
      rw [if_pos rfl]
      show σ' 18546 = (((σ 18546).toNat ||| 2 ^ 5 : Nat) : Int)
      omega
    · show σ' 18547 = if (3 : Nat) = 2 then _ else if (3 : Nat) = 5 then _ else _
      rw [if_neg (by decide), if_neg (by decide)]
      exact lw_id (hs _ (by decide)) (hm _ (by decide))
    · show σ' 18548 = if (4 : Nat) = 2 then _ else if (4 : Nat) = 5 then _ else _
      rw [if_neg (by decide), if_neg (by decide)]
      exact lw_id (hs _ (by decide)) (hm _ (by decide))
    · show σ' 18549 = if (5 : Nat) = 2 then _ else if (5 : Nat) = 5 then _ else _
      rw [if_neg (by decide), if_pos rfl]
      show σ' 18549 = (((σ 18549).toNat ||| 2 ^ 2 : Nat) : Int)
      omega
    · show σ' 18550 = if (6 : Nat) = 2 then _ else if (6 : Nat) = 5 then _ else _
      rw [if_neg (by decide), if_neg (by decide)]
      exact lw_id (hs _ (by decide)) (hm _ (by decide))
    · show σ' 18551 = if (7 : Nat) = 2 then _ else if (7 : Nat) = 5 then _ else _
      rw [if_neg (by decide), if_neg (by decide)]
      exact lw_id (hs _ (by decide)) (hm _ (by decide))
  exact Or.inl ⟨by omega, by omega, by omega, by omega, by omega, Or.inl ⟨by omega, ti, (fun p hp => (by rcases (show p = 0 ∨ p = 1 ∨ p = 2 ∨ p = 3 ∨ p = 4 ∨ p = 5 ∨ p = 6 ∨ p = 7 by omega) with rfl | rfl | rfl | rfl | rfl | rfl | rfl | rfl <;> exact lw_id (hs _ (by decide)) (hm _ (by decide))))⟩⟩
set_option maxHeartbeats 1000000 in
theorem lw_ux_71 {as : List rv_A} {σ σ' : Nat → Int} {o : rv_O} {x : Int32} {a1 a2 a3 : Int} {τ : Nat → Int} (hx : o.1 = some (.inl x)) (h1 : lw_av as 1 = a1) (h2 : lw_av as 2 = a2) (h3 : lw_av as 3 = a3) (ho1 : sy_or (σ' 18588) (σ' 18589) (σ' 18590)) (ho2 : sy_or (σ' 18591) (σ' 18592) (σ' 18593)) (hW : lw_W ([(18538, 64, 255), (18542, 4, 255), (18590, 64, 255), (18593, 4, 255)], [(0, [(18538, (-1)), (1000000, 1)]), (0, [(18542, (-1)), (1000001, 1)]), ((-1), [(133, 1)]), (11, [(134, (-1))]), ((-2), [(19001, 1)]), (2, [(19001, (-1))]), ((-6), [(19002, 1)]), (6, [(19002, (-1))]), (0, [(19003, (-1))]), (0, [(1000000, 1), (1000002, (-1))]), (0, [(1000000, (-1)), (1000002, 1)]), (0, [(1000001, 1), (1000003, (-1))]), (0, [(1000001, (-1)), (1000003, 1)]), ((-1), [(19001, (-1)), (19002, 1)]), ((-1), [(133, 1), (19002, (-1))]), ((-1), [(133, 1), (19001, (-1))])], [(9, (0, [])), (134, (1, [(134, 1)])), (7048, ((-2), [])), (7049, ((-2), [])), (8069, (0, [])), (11396, ((-2), [])), (18538, (0, [(1000000, 1)])), (18542, (0, [(1000001, 1)])), (18588, (0, [(18538, 1)])), (18589, (64, [])), (18590, (0, [(1000002, 1)])), (18591, (0, [(18542, 1)])), (18592, (4, [])), (18593, (0, [(1000003, 1)])), (18594, (2, []))], some (false, (1, []))) as σ σ' τ o) : lw_ux_C a1 a2 a3 x.toInt σ σ' := by
  unfold lw_ux_C
  obtain ⟨hs, ht, hf, hr, hm, hw⟩ := hW
  have e1 : τ 19001 = a1 := by rw [ht 19001 (by decide) (by decide)]; exact h1
  have e2 : τ 19002 = a2 := by rw [ht 19002 (by decide) (by decide)]; exact h2
  have e3 : τ 19003 = a3 := by rw [ht 19003 (by decide) (by decide)]; exact h3
  rw [hx] at hr
  obtain ⟨y, hy, hv⟩ := hr
  cases hy
  replace hv : x.toInt = 1 + 0 := hv
  have f0 : 0 ≤ 0 + ((-1) * τ 18538 + (1 * τ 1000000 + 0)) := hf _ (List.Mem.head _)
  have f1 : 0 ≤ 0 + ((-1) * τ 18542 + (1 * τ 1000001 + 0)) := hf _ (List.Mem.tail _ (List.Mem.head _))
  have f2 : 0 ≤ (-1) + (1 * τ 133 + 0) := hf _ (List.Mem.tail _ (List.Mem.tail _ (List.Mem.head _)))
  have f3 : 0 ≤ 11 + ((-1) * τ 134 + 0) := hf _ (List.Mem.tail _ (List.Mem.tail _ (List.Mem.tail _ (List.Mem.head _))))
  have f4 : 0 ≤ (-2) + (1 * τ 19001 + 0) := hf _ (List.Mem.tail _ (List.Mem.tail _ (List.Mem.tail _ (List.Mem.tail _ (List.Mem.head _)))))
  have f5 : 0 ≤ 2 + ((-1) * τ 19001 + 0) := hf _ (List.Mem.tail _ (List.Mem.tail _ (List.Mem.tail _ (List.Mem.tail _ (List.Mem.tail _ (List.Mem.head _))))))
  have f6 : 0 ≤ (-6) + (1 * τ 19002 + 0) := hf _ (List.Mem.tail _ (List.Mem.tail _ (List.Mem.tail _ (List.Mem.tail _ (List.Mem.tail _ (List.Mem.tail _ (List.Mem.head _)))))))
  have f7 : 0 ≤ 6 + ((-1) * τ 19002 + 0) := hf _ (List.Mem.tail _ (List.Mem.tail _ (List.Mem.tail _ (List.Mem.tail _ (List.Mem.tail _ (List.Mem.tail _ (List.Mem.tail _ (List.Mem.head _))))))))
  have f8 : 0 ≤ 0 + ((-1) * τ 19003 + 0) := hf _ (List.Mem.tail _ (List.Mem.tail _ (List.Mem.tail _ (List.Mem.tail _ (List.Mem.tail _ (List.Mem.tail _ (List.Mem.tail _ (List.Mem.tail _ (List.Mem.head _)))))))))
  have f9 : 0 ≤ 0 + (1 * τ 1000000 + ((-1) * τ 1000002 + 0)) := hf _ (List.Mem.tail _ (List.Mem.tail _ (List.Mem.tail _ (List.Mem.tail _ (List.Mem.tail _ (List.Mem.tail _ (List.Mem.tail _ (List.Mem.tail _ (List.Mem.tail _ (List.Mem.head _))))))))))
  have f10 : 0 ≤ 0 + ((-1) * τ 1000000 + (1 * τ 1000002 + 0)) := hf _ (List.Mem.tail _ (List.Mem.tail _ (List.Mem.tail _ (List.Mem.tail _ (List.Mem.tail _ (List.Mem.tail _ (List.Mem.tail _ (List.Mem.tail _ (List.Mem.tail _ (List.Mem.tail _ (List.Mem.head _)))))))))))
  have f11 : 0 ≤ 0 + (1 * τ 1000001 + ((-1) * τ 1000003 + 0)) := hf _ (List.Mem.tail _ (List.Mem.tail _ (List.Mem.tail _ (List.Mem.tail _ (List.Mem.tail _ (List.Mem.tail _ (List.Mem.tail _ (List.Mem.tail _ (List.Mem.tail _ (List.Mem.tail _ (List.Mem.tail _ (List.Mem.head _))))))))))))
  have f12 : 0 ≤ 0 + ((-1) * τ 1000001 + (1 * τ 1000003 + 0)) := hf _ (List.Mem.tail _ (List.Mem.tail _ (List.Mem.tail _ (List.Mem.tail _ (List.Mem.tail _ (List.Mem.tail _ (List.Mem.tail _ (List.Mem.tail _ (List.Mem.tail _ (List.Mem.tail _ (List.Mem.tail _ (List.Mem.tail _ (List.Mem.head _)))))))))))))
  have f13 : 0 ≤ (-1) + ((-1) * τ 19001 + (1 * τ 19002 + 0)) := hf _ (List.Mem.tail _ (List.Mem.tail _ (List.Mem.tail _ (List.Mem.tail _ (List.Mem.tail _ (List.Mem.tail _ (List.Mem.tail _ (List.Mem.tail _ (List.Mem.tail _ (List.Mem.tail _ (List.Mem.tail _ (List.Mem.tail _ (List.Mem.tail _ (List.Mem.head _))))))))))))))
  have f14 : 0 ≤ (-1) + (1 * τ 133 + ((-1) * τ 19002 + 0)) := hf _ (List.Mem.tail _ (List.Mem.tail _ (List.Mem.tail _ (List.Mem.tail _ (List.Mem.tail _ (List.Mem.tail _ (List.Mem.tail _ (List.Mem.tail _ (List.Mem.tail _ (List.Mem.tail _ (List.Mem.tail _ (List.Mem.tail _ (List.Mem.tail _ (List.Mem.tail _ (List.Mem.head _)))))))))))))))
  have f15 : 0 ≤ (-1) + (1 * τ 133 + ((-1) * τ 19001 + 0)) := hf _ (List.Mem.tail _ (List.Mem.tail _ (List.Mem.tail _ (List.Mem.tail _ (List.Mem.tail _ (List.Mem.tail _ (List.Mem.tail _ (List.Mem.tail _ (List.Mem.tail _ (List.Mem.tail _ (List.Mem.tail _ (List.Mem.tail _ (List.Mem.tail _ (List.Mem.tail _ (List.Mem.tail _ (List.Mem.head _))))))))))))))))
  have mX1 : σ' 18588 = σ 18538 := lw_id (hs 18538 (by decide)) (hm 18588 (by decide))
  have mY1 : σ' 18589 = 64 := (hm 18589 (by decide)).trans rfl
  have mO1 : σ' 18590 = 0 + (1 * τ 1000002 + 0) := hm 18590 (by decide)
  have mA1 : σ' 18538 = 0 + (1 * τ 1000000 + 0) := hm 18538 (by decide)
  unfold sy_or at ho1
  rw [mX1, mY1, show (64 : Int).toNat = 2 ^ 6 from rfl] at ho1
  have mX2 : σ' 18591 = σ 18542 := lw_id (hs 18542 (by decide)) (hm 18591 (by decide))
  have mY2 : σ' 18592 = 4 := (hm 18592 (by decide)).trans rfl
  have mO2 : σ' 18593 = 0 + (1 * τ 1000003 + 0) := hm 18593 (by decide)
  have mA2 : σ' 18542 = 0 + (1 * τ 1000001 + 0) := hm 18542 (by decide)
  unfold sy_or at ho2
  rw [mX2, mY2, show (4 : Int).toNat = 2 ^ 2 from rfl] at ho2
  have ti : lw_ti a1.toNat a2.toNat (fun p => σ (18536 + p)) (fun p => σ' (18536 + p)) := by
    rw [show a1.toNat = 2 by omega, show a2.toNat = 6 by omega]
    intro p hp
    rcases (show p = 0 ∨ p = 1 ∨ p = 2 ∨ p = 3 ∨ p = 4 ∨ p = 5 ∨ p = 6 ∨ p = 7 by omega) with rfl | rfl | rfl | rfl | rfl | rfl | rfl | rfl
    · show σ' 18536 = if (0 : Nat) = 2 then _ else if (0 : Nat) = 6 then _ else _
      rw [if_neg (by decide), if_neg (by decide)]
      exact lw_id (hs _ (by decide)) (hm _ (by decide))
    · show σ' 18537 = if (1 : Nat) = 2 then _ else if (1 : Nat) = 6 then _ else _
      rw [if_neg (by decide), if_neg (by decide)]
      exact lw_id (hs _ (by decide)) (hm _ (by decide))
    · show σ' 18538 = if (2 : Nat) = 2 then _ else _
      rw [if_pos rfl]
      show σ' 18538 = (((σ 18538).toNat ||| 2 ^ 6 : Nat) : Int)
      omega
    · show σ' 18539 = if (3 : Nat) = 2 then _ else if (3 : Nat) = 6 then _ else _
      rw [if_neg (by decide), if_neg (by decide)]
      exact lw_id (hs _ (by decide)) (hm _ (by decide))
    · show σ' 18540 = if (4 : Nat) = 2 then _ else if (4 : Nat) = 6 then _ else _
      rw [if_neg (by decide), if_neg (by decide)]
      exact lw_id (hs _ (by decide)) (hm _ (by decide))
    · show σ' 18541 = if (5 : Nat) = 2 then _ else if (5 : Nat) = 6 then _ else _
      rw [if_neg (by decide), if_neg (by decide)]
      exact lw_id (hs _ (by decide)) (hm _ (by decide))
    · show σ' 18542 = if (6 : Nat) = 2 then _ else if (6 : Nat) = 6 then _ else _
      rw [if_neg (by decide), if_pos rfl]
      show σ' 18542 = (((σ 18542).toNat ||| 2 ^ 2 : Nat) : Int)
      omega
    · show σ' 18543 = if (7 : Nat) = 2 then _ else if (7 : Nat) = 6 then _ else _
      rw [if_neg (by decide), if_neg (by decide)]
      exact lw_id (hs _ (by decide)) (hm _ (by decide))
  exact Or.inl ⟨by omega, by omega, by omega, by omega, by omega, Or.inr ⟨by omega, ti, (fun p hp => (by rcases (show p = 0 ∨ p = 1 ∨ p = 2 ∨ p = 3 ∨ p = 4 ∨ p = 5 ∨ p = 6 ∨ p = 7 by omega) with rfl | rfl | rfl | rfl | rfl | rfl | rfl | rfl <;> exact lw_id (hs _ (by decide)) (hm _ (by decide))))⟩⟩
set_option maxHeartbeats 1000000 in
theorem lw_ux_72 {as : List rv_A} {σ σ' : Nat → Int} {o : rv_O} {x : Int32} {a1 a2 a3 : Int} {τ : Nat → Int} (hx : o.1 = some (.inl x)) (h1 : lw_av as 1 = a1) (h2 : lw_av as 2 = a2) (h3 : lw_av as 3 = a3) (ho1 : sy_or (σ' 18588) (σ' 18589) (σ' 18590)) (ho2 : sy_or (σ' 18591) (σ' 18592) (σ' 18593)) (hW : lw_W ([(18538, 64, 255), (18542, 4, 255), (18590, 64, 255), (18593, 4, 255)], [(0, [(18538, (-1)), (1000000, 1)]), (0, [(18542, (-1)), (1000001, 1)]), ((-1), [(133, 1)]), (11, [(134, (-1))]), ((-2), [(19001, 1)]), (2, [(19001, (-1))]), ((-6), [(19002, 1)]), (6, [(19002, (-1))]), (0, [(19003, (-1))]), (0, [(1000000, 1), (1000002, (-1))]), (0, [(1000000, (-1)), (1000002, 1)]), (0, [(1000001, 1), (1000003, (-1))]), (0, [(1000001, (-1)), (1000003, 1)]), ((-1), [(19001, 1), (19002, (-1))]), ((-1), [(133, 1), (19002, (-1))]), ((-1), [(133, 1), (19001, (-1))])], [(9, (0, [])), (134, (1, [(134, 1)])), (7048, ((-2), [])), (7049, ((-2), [])), (8069, (0, [])), (11396, ((-2), [])), (18538, (0, [(1000000, 1)])), (18542, (0, [(1000001, 1)])), (18588, (0, [(18538, 1)])), (18589, (64, [])), (18590, (0, [(1000002, 1)])), (18591, (0, [(18542, 1)])), (18592, (4, [])), (18593, (0, [(1000003, 1)])), (18594, (2, []))], some (false, (1, []))) as σ σ' τ o) : lw_ux_C a1 a2 a3 x.toInt σ σ' := by
  unfold lw_ux_C
  obtain ⟨hs, ht, hf, hr, hm, hw⟩ := hW
  have e1 : τ 19001 = a1 := by rw [ht 19001 (by decide) (by decide)]; exact h1
  have e2 : τ 19002 = a2 := by rw [ht 19002 (by decide) (by decide)]; exact h2
  have e3 : τ 19003 = a3 := by rw [ht 19003 (by decide) (by decide)]; exact h3
  rw [hx] at hr
  obtain ⟨y, hy, hv⟩ := hr
  cases hy
  replace hv : x.toInt = 1 + 0 := hv
  have f0 : 0 ≤ 0 + ((-1) * τ 18538 + (1 * τ 1000000 + 0)) := hf _ (List.Mem.head _)
  have f1 : 0 ≤ 0 + ((-1) * τ 18542 + (1 * τ 1000001 + 0)) := hf _ (List.Mem.tail _ (List.Mem.head _))
  have f2 : 0 ≤ (-1) + (1 * τ 133 + 0) := hf _ (List.Mem.tail _ (List.Mem.tail _ (List.Mem.head _)))
  have f3 : 0 ≤ 11 + ((-1) * τ 134 + 0) := hf _ (List.Mem.tail _ (List.Mem.tail _ (List.Mem.tail _ (List.Mem.head _))))
  have f4 : 0 ≤ (-2) + (1 * τ 19001 + 0) := hf _ (List.Mem.tail _ (List.Mem.tail _ (List.Mem.tail _ (List.Mem.tail _ (List.Mem.head _)))))
  have f5 : 0 ≤ 2 + ((-1) * τ 19001 + 0) := hf _ (List.Mem.tail _ (List.Mem.tail _ (List.Mem.tail _ (List.Mem.tail _ (List.Mem.tail _ (List.Mem.head _))))))
  have f6 : 0 ≤ (-6) + (1 * τ 19002 + 0) := hf _ (List.Mem.tail _ (List.Mem.tail _ (List.Mem.tail _ (List.Mem.tail _ (List.Mem.tail _ (List.Mem.tail _ (List.Mem.head _)))))))
  have f7 : 0 ≤ 6 + ((-1) * τ 19002 + 0) := hf _ (List.Mem.tail _ (List.Mem.tail _ (List.Mem.tail _ (List.Mem.tail _ (List.Mem.tail _ (List.Mem.tail _ (List.Mem.tail _ (List.Mem.head _))))))))
  have f8 : 0 ≤ 0 + ((-1) * τ 19003 + 0) := hf _ (List.Mem.tail _ (List.Mem.tail _ (List.Mem.tail _ (List.Mem.tail _ (List.Mem.tail _ (List.Mem.tail _ (List.Mem.tail _ (List.Mem.tail _ (List.Mem.head _)))))))))
  have f9 : 0 ≤ 0 + (1 * τ 1000000 + ((-1) * τ 1000002 + 0)) := hf _ (List.Mem.tail _ (List.Mem.tail _ (List.Mem.tail _ (List.Mem.tail _ (List.Mem.tail _ (List.Mem.tail _ (List.Mem.tail _ (List.Mem.tail _ (List.Mem.tail _ (List.Mem.head _))))))))))
  have f10 : 0 ≤ 0 + ((-1) * τ 1000000 + (1 * τ 1000002 + 0)) := hf _ (List.Mem.tail _ (List.Mem.tail _ (List.Mem.tail _ (List.Mem.tail _ (List.Mem.tail _ (List.Mem.tail _ (List.Mem.tail _ (List.Mem.tail _ (List.Mem.tail _ (List.Mem.tail _ (List.Mem.head _)))))))))))
  have f11 : 0 ≤ 0 + (1 * τ 1000001 + ((-1) * τ 1000003 + 0)) := hf _ (List.Mem.tail _ (List.Mem.tail _ (List.Mem.tail _ (List.Mem.tail _ (List.Mem.tail _ (List.Mem.tail _ (List.Mem.tail _ (List.Mem.tail _ (List.Mem.tail _ (List.Mem.tail _ (List.Mem.tail _ (List.Mem.head _))))))))))))
  have f12 : 0 ≤ 0 + ((-1) * τ 1000001 + (1 * τ 1000003 + 0)) := hf _ (List.Mem.tail _ (List.Mem.tail _ (List.Mem.tail _ (List.Mem.tail _ (List.Mem.tail _ (List.Mem.tail _ (List.Mem.tail _ (List.Mem.tail _ (List.Mem.tail _ (List.Mem.tail _ (List.Mem.tail _ (List.Mem.tail _ (List.Mem.head _)))))))))))))
  have f13 : 0 ≤ (-1) + (1 * τ 19001 + ((-1) * τ 19002 + 0)) := hf _ (List.Mem.tail _ (List.Mem.tail _ (List.Mem.tail _ (List.Mem.tail _ (List.Mem.tail _ (List.Mem.tail _ (List.Mem.tail _ (List.Mem.tail _ (List.Mem.tail _ (List.Mem.tail _ (List.Mem.tail _ (List.Mem.tail _ (List.Mem.tail _ (List.Mem.head _))))))))))))))
  have f14 : 0 ≤ (-1) + (1 * τ 133 + ((-1) * τ 19002 + 0)) := hf _ (List.Mem.tail _ (List.Mem.tail _ (List.Mem.tail _ (List.Mem.tail _ (List.Mem.tail _ (List.Mem.tail _ (List.Mem.tail _ (List.Mem.tail _ (List.Mem.tail _ (List.Mem.tail _ (List.Mem.tail _ (List.Mem.tail _ (List.Mem.tail _ (List.Mem.tail _ (List.Mem.head _)))))))))))))))
  have f15 : 0 ≤ (-1) + (1 * τ 133 + ((-1) * τ 19001 + 0)) := hf _ (List.Mem.tail _ (List.Mem.tail _ (List.Mem.tail _ (List.Mem.tail _ (List.Mem.tail _ (List.Mem.tail _ (List.Mem.tail _ (List.Mem.tail _ (List.Mem.tail _ (List.Mem.tail _ (List.Mem.tail _ (List.Mem.tail _ (List.Mem.tail _ (List.Mem.tail _ (List.Mem.tail _ (List.Mem.head _))))))))))))))))
  have mX1 : σ' 18588 = σ 18538 := lw_id (hs 18538 (by decide)) (hm 18588 (by decide))
  have mY1 : σ' 18589 = 64 := (hm 18589 (by decide)).trans rfl
  have mO1 : σ' 18590 = 0 + (1 * τ 1000002 + 0) := hm 18590 (by decide)
  have mA1 : σ' 18538 = 0 + (1 * τ 1000000 + 0) := hm 18538 (by decide)
  unfold sy_or at ho1
  rw [mX1, mY1, show (64 : Int).toNat = 2 ^ 6 from rfl] at ho1
  have mX2 : σ' 18591 = σ 18542 := lw_id (hs 18542 (by decide)) (hm 18591 (by decide))
  have mY2 : σ' 18592 = 4 := (hm 18592 (by decide)).trans rfl
  have mO2 : σ' 18593 = 0 + (1 * τ 1000003 + 0) := hm 18593 (by decide)
  have mA2 : σ' 18542 = 0 + (1 * τ 1000001 + 0) := hm 18542 (by decide)
  unfold sy_or at ho2
  rw [mX2, mY2, show (4 : Int).toNat = 2 ^ 2 from rfl] at ho2
  have ti : lw_ti a1.toNat a2.toNat (fun p => σ (18536 + p)) (fun p => σ' (18536 + p)) := by
    rw [show a1.toNat = 2 by omega, show a2.toNat = 6 by omega]
    intro p hp
    rcases (show p = 0 ∨ p = 1 ∨ p = 2 ∨ p = 3 ∨ p = 4 ∨ p = 5 ∨ p = 6 ∨ p = 7 by omega) with rfl | rfl | rfl | rfl | rfl | rfl | rfl | rfl
    · show σ' 18536 = if (0 : Nat) = 2 then _ else if (0 : Nat) = 6 then _ else _
      rw [if_neg (by decide), if_neg (by decide)]
      exact lw_id (hs _ (by decide)) (hm _ (by decide))
    · show σ' 18537 = if (1 : Nat) = 2 then _ else if (1 : Nat) = 6 then _ else _
      rw [if_neg (by decide), if_neg (by decide)]
      exact lw_id (hs _ (by decide)) (hm _ (by decide))
    · show σ' 18538 = if (2 : Nat) = 2 then _ else _
      rw [if_pos rfl]
      show σ' 18538 = (((σ 18538).toNat ||| 2 ^ 6 : Nat) : Int)
      omega
    · show σ' 18539 = if (3 : Nat) = 2 then _ else if (3 : Nat) = 6 then _ else _
      rw [if_neg (by decide), if_neg (by decide)]
      exact lw_id (hs _ (by decide)) (hm _ (by decide))
    · show σ' 18540 = if (4 : Nat) = 2 then _ else if (4 : Nat) = 6 then _ else _
      rw [if_neg (by decide), if_neg (by decide)]
      exact lw_id (hs _ (by decide)) (hm _ (by decide))
    · show σ' 18541 = if (5 : Nat) = 2 then _ else if (5 : Nat) = 6 then _ else _
      rw [if_neg (by decide), if_neg (by decide)]
      exact lw_id (hs _ (by decide)) (hm _ (by decide))
    · show σ' 18542 = if (6 : Nat) = 2 then _ else if (6 : Nat) = 6 then _ else _
      rw [if_neg (by decide), if_pos rfl]
      show σ' 18542 = (((σ 18542).toNat ||| 2 ^ 2 : Nat) : Int)
      omega
    · show σ' 18543 = if (7 : Nat) = 2 then _ else if (7 : Nat) = 6 then _ else _
      rw [if_neg (by decide), if_neg (by decide)]
      exact lw_id (hs _ (by decide)) (hm _ (by decide))
  exact Or.inl ⟨by omega, by omega, by omega, by omega, by omega, Or.inr ⟨by omega, ti, (fun p hp => (by rcases (show p = 0 ∨ p = 1 ∨ p = 2 ∨ p = 3 ∨ p = 4 ∨ p = 5 ∨ p = 6 ∨ p = 7 by omega) with rfl | rfl | rfl | rfl | rfl | rfl | rfl | rfl <;> exact lw_id (hs _ (by decide)) (hm _ (by decide))))⟩⟩
set_option maxHeartbeats 1000000 in
theorem lw_ux_73 {as : List rv_A} {σ σ' : Nat → Int} {o : rv_O} {x : Int32} {a1 a2 a3 : Int} {τ : Nat → Int} (hx : o.1 = some (.inl x)) (h1 : lw_av as 1 = a1) (h2 : lw_av as 2 = a2) (h3 : lw_av as 3 = a3) (ho1 : sy_or (σ' 18588) (σ' 18589) (σ' 18590)) (ho2 : sy_or (σ' 18591) (σ' 18592) (σ' 18593)) (hW : lw_W ([(18546, 64, 255), (18550, 4, 255), (18590, 64, 255), (18593, 4, 255)], [(0, [(18546, (-1)), (1000000, 1)]), (0, [(18550, (-1)), (1000001, 1)]), ((-1), [(133, 1)]), (11, [(134, (-1))]), ((-2), [(19001, 1)]), (2, [(19001, (-1))]), ((-6), [(19002, 1)]), (6, [(19002, (-1))]), ((-1), [(19003, 1)]), (0, [(1000000, 1), (1000002, (-1))]), (0, [(1000000, (-1)), (1000002, 1)]), (0, [(1000001, 1), (1000003, (-1))]), (0, [(1000001, (-1)), (1000003, 1)]), ((-1), [(19001, (-1)), (19002, 1)]), ((-1), [(133, 1), (19002, (-1))]), ((-1), [(133, 1), (19001, (-1))])], [(9, (0, [])), (134, (1, [(134, 1)])), (7048, ((-2), [])), (7049, ((-2), [])), (8069, (0, [])), (11396, ((-2), [])), (18546, (0, [(1000000, 1)])), (18550, (0, [(1000001, 1)])), (18588, (0, [(18546, 1)])), (18589, (64, [])), (18590, (0, [(1000002, 1)])), (18591, (0, [(18550, 1)])), (18592, (4, [])), (18593, (0, [(1000003, 1)])), (18594, (2, []))], some (false, (1, []))) as σ σ' τ o) : lw_ux_C a1 a2 a3 x.toInt σ σ' := by
  unfold lw_ux_C
  obtain ⟨hs, ht, hf, hr, hm, hw⟩ := hW
  have e1 : τ 19001 = a1 := by rw [ht 19001 (by decide) (by decide)]; exact h1
  have e2 : τ 19002 = a2 := by rw [ht 19002 (by decide) (by decide)]; exact h2
  have e3 : τ 19003 = a3 := by rw [ht 19003 (by decide) (by decide)]; exact h3
  rw [hx] at hr
  obtain ⟨y, hy, hv⟩ := hr
  cases hy
  replace hv : x.toInt = 1 + 0 := hv
  have f0 : 0 ≤ 0 + ((-1) * τ 18546 + (1 * τ 1000000 + 0)) := hf _ (List.Mem.head _)
  have f1 : 0 ≤ 0 + ((-1) * τ 18550 + (1 * τ 1000001 + 0)) := hf _ (List.Mem.tail _ (List.Mem.head _))
  have f2 : 0 ≤ (-1) + (1 * τ 133 + 0) := hf _ (List.Mem.tail _ (List.Mem.tail _ (List.Mem.head _)))
  have f3 : 0 ≤ 11 + ((-1) * τ 134 + 0) := hf _ (List.Mem.tail _ (List.Mem.tail _ (List.Mem.tail _ (List.Mem.head _))))
  have f4 : 0 ≤ (-2) + (1 * τ 19001 + 0) := hf _ (List.Mem.tail _ (List.Mem.tail _ (List.Mem.tail _ (List.Mem.tail _ (List.Mem.head _)))))
  have f5 : 0 ≤ 2 + ((-1) * τ 19001 + 0) := hf _ (List.Mem.tail _ (List.Mem.tail _ (List.Mem.tail _ (List.Mem.tail _ (List.Mem.tail _ (List.Mem.head _))))))
  have f6 : 0 ≤ (-6) + (1 * τ 19002 + 0) := hf _ (List.Mem.tail _ (List.Mem.tail _ (List.Mem.tail _ (List.Mem.tail _ (List.Mem.tail _ (List.Mem.tail _ (List.Mem.head _)))))))
  have f7 : 0 ≤ 6 + ((-1) * τ 19002 + 0) := hf _ (List.Mem.tail _ (List.Mem.tail _ (List.Mem.tail _ (List.Mem.tail _ (List.Mem.tail _ (List.Mem.tail _ (List.Mem.tail _ (List.Mem.head _))))))))
  have f8 : 0 ≤ (-1) + (1 * τ 19003 + 0) := hf _ (List.Mem.tail _ (List.Mem.tail _ (List.Mem.tail _ (List.Mem.tail _ (List.Mem.tail _ (List.Mem.tail _ (List.Mem.tail _ (List.Mem.tail _ (List.Mem.head _)))))))))
  have f9 : 0 ≤ 0 + (1 * τ 1000000 + ((-1) * τ 1000002 + 0)) := hf _ (List.Mem.tail _ (List.Mem.tail _ (List.Mem.tail _ (List.Mem.tail _ (List.Mem.tail _ (List.Mem.tail _ (List.Mem.tail _ (List.Mem.tail _ (List.Mem.tail _ (List.Mem.head _))))))))))
  have f10 : 0 ≤ 0 + ((-1) * τ 1000000 + (1 * τ 1000002 + 0)) := hf _ (List.Mem.tail _ (List.Mem.tail _ (List.Mem.tail _ (List.Mem.tail _ (List.Mem.tail _ (List.Mem.tail _ (List.Mem.tail _ (List.Mem.tail _ (List.Mem.tail _ (List.Mem.tail _ (List.Mem.head _)))))))))))
  have f11 : 0 ≤ 0 + (1 * τ 1000001 + ((-1) * τ 1000003 + 0)) := hf _ (List.Mem.tail _ (List.Mem.tail _ (List.Mem.tail _ (List.Mem.tail _ (List.Mem.tail _ (List.Mem.tail _ (List.Mem.tail _ (List.Mem.tail _ (List.Mem.tail _ (List.Mem.tail _ (List.Mem.tail _ (List.Mem.head _))))))))))))
  have f12 : 0 ≤ 0 + ((-1) * τ 1000001 + (1 * τ 1000003 + 0)) := hf _ (List.Mem.tail _ (List.Mem.tail _ (List.Mem.tail _ (List.Mem.tail _ (List.Mem.tail _ (List.Mem.tail _ (List.Mem.tail _ (List.Mem.tail _ (List.Mem.tail _ (List.Mem.tail _ (List.Mem.tail _ (List.Mem.tail _ (List.Mem.head _)))))))))))))
  have f13 : 0 ≤ (-1) + ((-1) * τ 19001 + (1 * τ 19002 + 0)) := hf _ (List.Mem.tail _ (List.Mem.tail _ (List.Mem.tail _ (List.Mem.tail _ (List.Mem.tail _ (List.Mem.tail _ (List.Mem.tail _ (List.Mem.tail _ (List.Mem.tail _ (List.Mem.tail _ (List.Mem.tail _ (List.Mem.tail _ (List.Mem.tail _ (List.Mem.head _))))))))))))))
  have f14 : 0 ≤ (-1) + (1 * τ 133 + ((-1) * τ 19002 + 0)) := hf _ (List.Mem.tail _ (List.Mem.tail _ (List.Mem.tail _ (List.Mem.tail _ (List.Mem.tail _ (List.Mem.tail _ (List.Mem.tail _ (List.Mem.tail _ (List.Mem.tail _ (List.Mem.tail _ (List.Mem.tail _ (List.Mem.tail _ (List.Mem.tail _ (List.Mem.tail _ (List.Mem.head _)))))))))))))))
  have f15 : 0 ≤ (-1) + (1 * τ 133 + ((-1) * τ 19001 + 0)) := hf _ (List.Mem.tail _ (List.Mem.tail _ (List.Mem.tail _ (List.Mem.tail _ (List.Mem.tail _ (List.Mem.tail _ (List.Mem.tail _ (List.Mem.tail _ (List.Mem.tail _ (List.Mem.tail _ (List.Mem.tail _ (List.Mem.tail _ (List.Mem.tail _ (List.Mem.tail _ (List.Mem.tail _ (List.Mem.head _))))))))))))))))
  have mX1 : σ' 18588 = σ 18546 := lw_id (hs 18546 (by decide)) (hm 18588 (by decide))
  have mY1 : σ' 18589 = 64 := (hm 18589 (by decide)).trans rfl
  have mO1 : σ' 18590 = 0 + (1 * τ 1000002 + 0) := hm 18590 (by decide)
  have mA1 : σ' 18546 = 0 + (1 * τ 1000000 + 0) := hm 18546 (by decide)
  unfold sy_or at ho1
  rw [mX1, mY1, show (64 : Int).toNat = 2 ^ 6 from rfl] at ho1
  have mX2 : σ' 18591 = σ 18550 := lw_id (hs 18550 (by decide)) (hm 18591 (by decide))
  have mY2 : σ' 18592 = 4 := (hm 18592 (by decide)).trans rfl
  have mO2 : σ' 18593 = 0 + (1 * τ 1000003 + 0) := hm 18593 (by decide)
  have mA2 : σ' 18550 = 0 + (1 * τ 1000001 + 0) := hm 18550 (by decide)
  unfold sy_or at ho2
  rw [mX2, mY2, show (4 : Int).toNat = 2 ^ 2 from rfl] at ho2
  have ti : lw_ti a1.toNat a2.toNat (fun p => σ (18544 + p)) (fun p => σ' (18544 + p)) := by
    rw [show a1.toNat = 2 by omega, show a2.toNat = 6 by omega]
    intro p hp
    rcases (show p = 0 ∨ p = 1 ∨ p = 2 ∨ p = 3 ∨ p = 4 ∨ p = 5 ∨ p = 6 ∨ p = 7 by omega) with rfl | rfl | rfl | rfl | rfl | rfl | rfl | rfl
    · show σ' 18544 = if (0 : Nat) = 2 then _ else if (0 : Nat) = 6 then _ else _
      rw [if_neg (by decide), if_neg (by decide)]
      exact lw_id (hs _ (by decide)) (hm _ (by decide))
    · show σ' 18545 = if (1 : Nat) = 2 then _ else if (1 : Nat) = 6 then _ else _
      rw [if_neg (by decide), if_neg (by decide)]
      exact lw_id (hs _ (by decide)) (hm _ (by decide))
    · show σ' 18546 = if (2 : Nat) = 2 then _ else _
      rw [if_pos rfl]
      show σ' 18546 = (((σ 18546).toNat ||| 2 ^ 6 : Nat) : Int)
      omega
    · show σ' 18547 = if (3 : Nat) = 2 then _ else if (3 : Nat) = 6 then _ else _
      rw [if_neg (by decide), if_neg (by decide)]
      exact lw_id (hs _ (by decide)) (hm _ (by decide))
    · show σ' 18548 = if (4 : Nat) = 2 then _ else if (4 : Nat) = 6 then _ else _
      rw [if_neg (by decide), if_neg (by decide)]
      exact lw_id (hs _ (by decide)) (hm _ (by decide))
    · show σ' 18549 = if (5 : Nat) = 2 then _ else if (5 : Nat) = 6 then _ else _
      rw [if_neg (by decide), if_neg (by decide)]
      exact lw_id (hs _ (by decide)) (hm _ (by decide))
    · show σ' 18550 = if (6 : Nat) = 2 then _ else if (6 : Nat) = 6 then _ else _
      rw [if_neg (by decide), if_pos rfl]
      show σ' 18550 = (((σ 18550).toNat ||| 2 ^ 2 : Nat) : Int)
      omega
    · show σ' 18551 = if (7 : Nat) = 2 then _ else if (7 : Nat) = 6 then _ else _
      rw [if_neg (by decide), if_neg (by decide)]
      exact lw_id (hs _ (by decide)) (hm _ (by decide))
  exact Or.inl ⟨by omega, by omega, by omega, by omega, by omega, Or.inl ⟨by omega, ti, (fun p hp => (by rcases (show p = 0 ∨ p = 1 ∨ p = 2 ∨ p = 3 ∨ p = 4 ∨ p = 5 ∨ p = 6 ∨ p = 7 by omega) with rfl | rfl | rfl | rfl | rfl | rfl | rfl | rfl <;> exact lw_id (hs _ (by decide)) (hm _ (by decide))))⟩⟩
set_option maxHeartbeats 1000000 in
theorem lw_ux_74 {as : List rv_A} {σ σ' : Nat → Int} {o : rv_O} {x : Int32} {a1 a2 a3 : Int} {τ : Nat → Int} (hx : o.1 = some (.inl x)) (h1 : lw_av as 1 = a1) (h2 : lw_av as 2 = a2) (h3 : lw_av as 3 = a3) (ho1 : sy_or (σ' 18588) (σ' 18589) (σ' 18590)) (ho2 : sy_or (σ' 18591) (σ' 18592) (σ' 18593)) (hW : lw_W ([(18546, 64, 255), (18550, 4, 255), (18590, 64, 255), (18593, 4, 255)], [(0, [(18546, (-1)), (1000000, 1)]), (0, [(18550, (-1)), (1000001, 1)]), ((-1), [(133, 1)]), (11, [(134, (-1))]), ((-2), [(19001, 1)]), (2, [(19001, (-1))]), ((-6), [(19002, 1)]), (6, [(19002, (-1))]), ((-1), [(19003, 1)]), (0, [(1000000, 1), (1000002, (-1))]), (0, [(1000000, (-1)), (1000002, 1)]), (0, [(1000001, 1), (1000003, (-1))]), (0, [(1000001, (-1)), (1000003, 1)]), ((-1), [(19001, 1), (19002, (-1))]), ((-1), [(133, 1), (19002, (-1))]), ((-1), [(133, 1), (19001, (-1))])], [(9, (0, [])), (134, (1, [(134, 1)])), (7048, ((-2), [])), (7049, ((-2), [])), (8069, (0, [])), (11396, ((-2), [])), (18546, (0, [(1000000, 1)])), (18550, (0, [(1000001, 1)])), (18588, (0, [(18546, 1)])), (18589, (64, [])), (18590, (0, [(1000002, 1)])), (18591, (0, [(18550, 1)])), (18592, (4, [])), (18593, (0, [(1000003, 1)])), (18594, (2, []))], some (false, (1, []))) as σ σ' τ o) : lw_ux_C a1 a2 a3 x.toInt σ σ' := by
  unfold lw_ux_C
  obtain ⟨hs, ht, hf, hr, hm, hw⟩ := hW
  have e1 : τ 19001 = a1 := by rw [ht 19001 (by decide) (by decide)]; exact h1
  have e2 : τ 19002 = a2 := by rw [ht 19002 (by decide) (by decide)]; exact h2
  have e3 : τ 19003 = a3 := by rw [ht 19003 (by decide) (by decide)]; exact h3
  rw [hx] at hr
  obtain ⟨y, hy, hv⟩ := hr
  cases hy
  replace hv : x.toInt = 1 + 0 := hv
  have f0 : 0 ≤ 0 + ((-1) * τ 18546 + (1 * τ 1000000 + 0)) := hf _ (List.Mem.head _)
  have f1 : 0 ≤ 0 + ((-1) * τ 18550 + (1 * τ 1000001 + 0)) := hf _ (List.Mem.tail _ (List.Mem.head _))
  have f2 : 0 ≤ (-1) + (1 * τ 133 + 0) := hf _ (List.Mem.tail _ (List.Mem.tail _ (List.Mem.head _)))
  have f3 : 0 ≤ 11 + ((-1) * τ 134 + 0) := hf _ (List.Mem.tail _ (List.Mem.tail _ (List.Mem.tail _ (List.Mem.head _))))
  have f4 : 0 ≤ (-2) + (1 * τ 19001 + 0) := hf _ (List.Mem.tail _ (List.Mem.tail _ (List.Mem.tail _ (List.Mem.tail _ (List.Mem.head _)))))
  have f5 : 0 ≤ 2 + ((-1) * τ 19001 + 0) := hf _ (List.Mem.tail _ (List.Mem.tail _ (List.Mem.tail _ (List.Mem.tail _ (List.Mem.tail _ (List.Mem.head _))))))
  have f6 : 0 ≤ (-6) + (1 * τ 19002 + 0) := hf _ (List.Mem.tail _ (List.Mem.tail _ (List.Mem.tail _ (List.Mem.tail _ (List.Mem.tail _ (List.Mem.tail _ (List.Mem.head _)))))))
  have f7 : 0 ≤ 6 + ((-1) * τ 19002 + 0) := hf _ (List.Mem.tail _ (List.Mem.tail _ (List.Mem.tail _ (List.Mem.tail _ (List.Mem.tail _ (List.Mem.tail _ (List.Mem.tail _ (List.Mem.head _))))))))
  have f8 : 0 ≤ (-1) + (1 * τ 19003 + 0) := hf _ (List.Mem.tail _ (List.Mem.tail _ (List.Mem.tail _ (List.Mem.tail _ (List.Mem.tail _ (List.Mem.tail _ (List.Mem.tail _ (List.Mem.tail _ (List.Mem.head _)))))))))
  have f9 : 0 ≤ 0 + (1 * τ 1000000 + ((-1) * τ 1000002 + 0)) := hf _ (List.Mem.tail _ (List.Mem.tail _ (List.Mem.tail _ (List.Mem.tail _ (List.Mem.tail _ (List.Mem.tail _ (List.Mem.tail _ (List.Mem.tail _ (List.Mem.tail _ (List.Mem.head _))))))))))
  have f10 : 0 ≤ 0 + ((-1) * τ 1000000 + (1 * τ 1000002 + 0)) := hf _ (List.Mem.tail _ (List.Mem.tail _ (List.Mem.tail _ (List.Mem.tail _ (List.Mem.tail _ (List.Mem.tail _ (List.Mem.tail _ (List.Mem.tail _ (List.Mem.tail _ (List.Mem.tail _ (List.Mem.head _)))))))))))
  have f11 : 0 ≤ 0 + (1 * τ 1000001 + ((-1) * τ 1000003 + 0)) := hf _ (List.Mem.tail _ (List.Mem.tail _ (List.Mem.tail _ (List.Mem.tail _ (List.Mem.tail _ (List.Mem.tail _ (List.Mem.tail _ (List.Mem.tail _ (List.Mem.tail _ (List.Mem.tail _ (List.Mem.tail _ (List.Mem.head _))))))))))))
  have f12 : 0 ≤ 0 + ((-1) * τ 1000001 + (1 * τ 1000003 + 0)) := hf _ (List.Mem.tail _ (List.Mem.tail _ (List.Mem.tail _ (List.Mem.tail _ (List.Mem.tail _ (List.Mem.tail _ (List.Mem.tail _ (List.Mem.tail _ (List.Mem.tail _ (List.Mem.tail _ (List.Mem.tail _ (List.Mem.tail _ (List.Mem.head _)))))))))))))
  have f13 : 0 ≤ (-1) + (1 * τ 19001 + ((-1) * τ 19002 + 0)) := hf _ (List.Mem.tail _ (List.Mem.tail _ (List.Mem.tail _ (List.Mem.tail _ (List.Mem.tail _ (List.Mem.tail _ (List.Mem.tail _ (List.Mem.tail _ (List.Mem.tail _ (List.Mem.tail _ (List.Mem.tail _ (List.Mem.tail _ (List.Mem.tail _ (List.Mem.head _))))))))))))))
  have f14 : 0 ≤ (-1) + (1 * τ 133 + ((-1) * τ 19002 + 0)) := hf _ (List.Mem.tail _ (List.Mem.tail _ (List.Mem.tail _ (List.Mem.tail _ (List.Mem.tail _ (List.Mem.tail _ (List.Mem.tail _ (List.Mem.tail _ (List.Mem.tail _ (List.Mem.tail _ (List.Mem.tail _ (List.Mem.tail _ (List.Mem.tail _ (List.Mem.tail _ (List.Mem.head _)))))))))))))))
  have f15 : 0 ≤ (-1) + (1 * τ 133 + ((-1) * τ 19001 + 0)) := hf _ (List.Mem.tail _ (List.Mem.tail _ (List.Mem.tail _ (List.Mem.tail _ (List.Mem.tail _ (List.Mem.tail _ (List.Mem.tail _ (List.Mem.tail _ (List.Mem.tail _ (List.Mem.tail _ (List.Mem.tail _ (List.Mem.tail _ (List.Mem.tail _ (List.Mem.tail _ (List.Mem.tail _ (List.Mem.head _))))))))))))))))
  have mX1 : σ' 18588 = σ 18546 := lw_id (hs 18546 (by decide)) (hm 18588 (by decide))
  have mY1 : σ' 18589 = 64 := (hm 18589 (by decide)).trans rfl
  have mO1 : σ' 18590 = 0 + (1 * τ 1000002 + 0) := hm 18590 (by decide)
  have mA1 : σ' 18546 = 0 + (1 * τ 1000000 + 0) := hm 18546 (by decide)
  unfold sy_or at ho1
  rw [mX1, mY1, show (64 : Int).toNat = 2 ^ 6 from rfl] at ho1
  have mX2 : σ' 18591 = σ 18550 := lw_id (hs 18550 (by decide)) (hm 18591 (by decide))
  have mY2 : σ' 18592 = 4 := (hm 18592 (by decide)).trans rfl
  have mO2 : σ' 18593 = 0 + (1 * τ 1000003 + 0) := hm 18593 (by decide)
  have mA2 : σ' 18550 = 0 + (1 * τ 1000001 + 0) := hm 18550 (by decide)
  unfold sy_or at ho2
  rw [mX2, mY2, show (4 : Int).toNat = 2 ^ 2 from rfl] at ho2
  have ti : lw_ti a1.toNat a2.toNat (fun p => σ (18544 + p)) (fun p => σ' (18544 + p)) := by
    rw [show a1.toNat = 2 by omega, show a2.toNat = 6 by omega]
    intro p hp
    rcases (show p = 0 ∨ p = 1 ∨ p = 2 ∨ p = 3 ∨ p = 4 ∨ p = 5 ∨ p = 6 ∨ p = 7 by omega) with rfl | rfl | rfl | rfl | rfl | rfl | rfl | rfl
    · show σ' 18544 = if (0 : Nat) = 2 then _ else if (0 : Nat) = 6 then _ else _
      rw [if_neg (by decide), if_neg (by decide)]
      exact lw_id (hs _ (by decide)) (hm _ (by decide))
    · show σ' 18545 = if (1 : Nat) = 2 then _ else if (1 : Nat) = 6 then _ else _
      rw [if_neg (by decide), if_neg (by decide)]
      exact lw_id (hs _ (by decide)) (hm _ (by decide))
    · show σ' 18546 = if (2 : Nat) = 2 then _ else _
      rw [if_pos rfl]
      show σ' 18546 = (((σ 18546).toNat ||| 2 ^ 6 : Nat) : Int)
      omega
    · show σ' 18547 = if (3 : Nat) = 2 then _ else if (3 : Nat) = 6 then _ else _
      rw [if_neg (by decide), if_neg (by decide)]
      exact lw_id (hs _ (by decide)) (hm _ (by decide))
    · show σ' 18548 = if (4 : Nat) = 2 then _ else if (4 : Nat) = 6 then _ else _
      rw [if_neg (by decide), if_neg (by decide)]
      exact lw_id (hs _ (by decide)) (hm _ (by decide))
    · show σ' 18549 = if (5 : Nat) = 2 then _ else if (5 : Nat) = 6 then _ else _
      rw [if_neg (by decide), if_neg (by decide)]
      exact lw_id (hs _ (by decide)) (hm _ (by decide))
    · show σ' 18550 = if (6 : Nat) = 2 then _ else if (6 : Nat) = 6 then _ else _
      rw [if_neg (by decide), if_pos rfl]
      show σ' 18550 = (((σ 18550).toNat ||| 2 ^ 2 : Nat) : Int)
      omega
    · show σ' 18551 = if (7 : Nat) = 2 then _ else if (7 : Nat) = 6 then _ else _
      rw [if_neg (by decide), if_neg (by decide)]
      exact lw_id (hs _ (by decide)) (hm _ (by decide))
  exact Or.inl ⟨by omega, by omega, by omega, by omega, by omega, Or.inl ⟨by omega, ti, (fun p hp => (by rcases (show p = 0 ∨ p = 1 ∨ p = 2 ∨ p = 3 ∨ p = 4 ∨ p = 5 ∨ p = 6 ∨ p = 7 by omega) with rfl | rfl | rfl | rfl | rfl | rfl | rfl | rfl <;> exact lw_id (hs _ (by decide)) (hm _ (by decide))))⟩⟩
set_option maxHeartbeats 1000000 in
theorem lw_ux_75 {as : List rv_A} {σ σ' : Nat → Int} {o : rv_O} {x : Int32} {a1 a2 a3 : Int} {τ : Nat → Int} (hx : o.1 = some (.inl x)) (h1 : lw_av as 1 = a1) (h2 : lw_av as 2 = a2) (h3 : lw_av as 3 = a3) (ho1 : sy_or (σ' 18588) (σ' 18589) (σ' 18590)) (ho2 : sy_or (σ' 18591) (σ' 18592) (σ' 18593)) (hW : lw_W ([(18538, 128, 255), (18543, 4, 255), (18590, 128, 255), (18593, 4, 255)], [(0, [(18538, (-1)), (1000000, 1)]), (0, [(18543, (-1)), (1000001, 1)]), ((-1), [(133, 1)]), (11, [(134, (-1))]), ((-2), [(19001, 1)]), (2, [(19001, (-1))]), ((-7), [(19002, 1)]), (7, [(19002, (-1))]), (0, [(19003, (-1))]), (0, [(1000000, 1), (1000002, (-1))]), (0, [(1000000, (-1)), (1000002, 1)]), (0, [(1000001, 1), (1000003, (-1))]), (0, [(1000001, (-1)), (1000003, 1)]), ((-1), [(19001, (-1)), (19002, 1)]), ((-1), [(133, 1), (19002, (-1))]), ((-1), [(133, 1), (19001, (-1))])], [(9, (0, [])), (134, (1, [(134, 1)])), (7048, ((-2), [])), (7049, ((-2), [])), (8069, (0, [])), (11396, ((-2), [])), (18538, (0, [(1000000, 1)])), (18543, (0, [(1000001, 1)])), (18588, (0, [(18538, 1)])), (18589, (128, [])), (18590, (0, [(1000002, 1)])), (18591, (0, [(18543, 1)])), (18592, (4, [])), (18593, (0, [(1000003, 1)])), (18594, (2, []))], some (false, (1, []))) as σ σ' τ o) : lw_ux_C a1 a2 a3 x.toInt σ σ' := by
  unfold lw_ux_C
  obtain ⟨hs, ht, hf, hr, hm, hw⟩ := hW
  have e1 : τ 19001 = a1 := by rw [ht 19001 (by decide) (by decide)]; exact h1
  have e2 : τ 19002 = a2 := by rw [ht 19002 (by decide) (by decide)]; exact h2
  have e3 : τ 19003 = a3 := by rw [ht 19003 (by decide) (by decide)]; exact h3
  rw [hx] at hr
  obtain ⟨y, hy, hv⟩ := hr
  cases hy
  replace hv : x.toInt = 1 + 0 := hv
  have f0 : 0 ≤ 0 + ((-1) * τ 18538 + (1 * τ 1000000 + 0)) := hf _ (List.Mem.head _)
  have f1 : 0 ≤ 0 + ((-1) * τ 18543 + (1 * τ 1000001 + 0)) := hf _ (List.Mem.tail _ (List.Mem.head _))
  have f2 : 0 ≤ (-1) + (1 * τ 133 + 0) := hf _ (List.Mem.tail _ (List.Mem.tail _ (List.Mem.head _)))
  have f3 : 0 ≤ 11 + ((-1) * τ 134 + 0) := hf _ (List.Mem.tail _ (List.Mem.tail _ (List.Mem.tail _ (List.Mem.head _))))
  have f4 : 0 ≤ (-2) + (1 * τ 19001 + 0) := hf _ (List.Mem.tail _ (List.Mem.tail _ (List.Mem.tail _ (List.Mem.tail _ (List.Mem.head _)))))
  have f5 : 0 ≤ 2 + ((-1) * τ 19001 + 0) := hf _ (List.Mem.tail _ (List.Mem.tail _ (List.Mem.tail _ (List.Mem.tail _ (List.Mem.tail _ (List.Mem.head _))))))
  have f6 : 0 ≤ (-7) + (1 * τ 19002 + 0) := hf _ (List.Mem.tail _ (List.Mem.tail _ (List.Mem.tail _ (List.Mem.tail _ (List.Mem.tail _ (List.Mem.tail _ (List.Mem.head _)))))))
  have f7 : 0 ≤ 7 + ((-1) * τ 19002 + 0) := hf _ (List.Mem.tail _ (List.Mem.tail _ (List.Mem.tail _ (List.Mem.tail _ (List.Mem.tail _ (List.Mem.tail _ (List.Mem.tail _ (List.Mem.head _))))))))
  have f8 : 0 ≤ 0 + ((-1) * τ 19003 + 0) := hf _ (List.Mem.tail _ (List.Mem.tail _ (List.Mem.tail _ (List.Mem.tail _ (List.Mem.tail _ (List.Mem.tail _ (List.Mem.tail _ (List.Mem.tail _ (List.Mem.head _)))))))))
  have f9 : 0 ≤ 0 + (1 * τ 1000000 + ((-1) * τ 1000002 + 0)) := hf _ (List.Mem.tail _ (List.Mem.tail _ (List.Mem.tail _ (List.Mem.tail _ (List.Mem.tail _ (List.Mem.tail _ (List.Mem.tail _ (List.Mem.tail _ (List.Mem.tail _ (List.Mem.head _))))))))))
  have f10 : 0 ≤ 0 + ((-1) * τ 1000000 + (1 * τ 1000002 + 0)) := hf _ (List.Mem.tail _ (List.Mem.tail _ (List.Mem.tail _ (List.Mem.tail _ (List.Mem.tail _ (List.Mem.tail _ (List.Mem.tail _ (List.Mem.tail _ (List.Mem.tail _ (List.Mem.tail _ (List.Mem.head _)))))))))))
  have f11 : 0 ≤ 0 + (1 * τ 1000001 + ((-1) * τ 1000003 + 0)) := hf _ (List.Mem.tail _ (List.Mem.tail _ (List.Mem.tail _ (List.Mem.tail _ (List.Mem.tail _ (List.Mem.tail _ (List.Mem.tail _ (List.Mem.tail _ (List.Mem.tail _ (List.Mem.tail _ (List.Mem.tail _ (List.Mem.head _))))))))))))
  have f12 : 0 ≤ 0 + ((-1) * τ 1000001 + (1 * τ 1000003 + 0)) := hf _ (List.Mem.tail _ (List.Mem.tail _ (List.Mem.tail _ (List.Mem.tail _ (List.Mem.tail _ (List.Mem.tail _ (List.Mem.tail _ (List.Mem.tail _ (List.Mem.tail _ (List.Mem.tail _ (List.Mem.tail _ (List.Mem.tail _ (List.Mem.head _)))))))))))))
  have f13 : 0 ≤ (-1) + ((-1) * τ 19001 + (1 * τ 19002 + 0)) := hf _ (List.Mem.tail _ (List.Mem.tail _ (List.Mem.tail _ (List.Mem.tail _ (List.Mem.tail _ (List.Mem.tail _ (List.Mem.tail _ (List.Mem.tail _ (List.Mem.tail _ (List.Mem.tail _ (List.Mem.tail _ (List.Mem.tail _ (List.Mem.tail _ (List.Mem.head _))))))))))))))
  have f14 : 0 ≤ (-1) + (1 * τ 133 + ((-1) * τ 19002 + 0)) := hf _ (List.Mem.tail _ (List.Mem.tail _ (List.Mem.tail _ (List.Mem.tail _ (List.Mem.tail _ (List.Mem.tail _ (List.Mem.tail _ (List.Mem.tail _ (List.Mem.tail _ (List.Mem.tail _ (List.Mem.tail _ (List.Mem.tail _ (List.Mem.tail _ (List.Mem.tail _ (List.Mem.head _)))))))))))))))
  have f15 : 0 ≤ (-1) + (1 * τ 133 + ((-1) * τ 19001 + 0)) := hf _ (List.Mem.tail _ (List.Mem.tail _ (List.Mem.tail _ (List.Mem.tail _ (List.Mem.tail _ (List.Mem.tail _ (List.Mem.tail _ (List.Mem.tail _ (List.Mem.tail _ (List.Mem.tail _ (List.Mem.tail _ (List.Mem.tail _ (List.Mem.tail _ (List.Mem.tail _ (List.Mem.tail _ (List.Mem.head _))))))))))))))))
  have mX1 : σ' 18588 = σ 18538 := lw_id (hs 18538 (by decide)) (hm 18588 (by decide))
  have mY1 : σ' 18589 = 128 := (hm 18589 (by decide)).trans rfl
  have mO1 : σ' 18590 = 0 + (1 * τ 1000002 + 0) := hm 18590 (by decide)
  have mA1 : σ' 18538 = 0 + (1 * τ 1000000 + 0) := hm 18538 (by decide)
  unfold sy_or at ho1
  rw [mX1, mY1, show (128 : Int).toNat = 2 ^ 7 from rfl] at ho1
  have mX2 : σ' 18591 = σ 18543 := lw_id (hs 18543 (by decide)) (hm 18591 (by decide))
  have mY2 : σ' 18592 = 4 := (hm 18592 (by decide)).trans rfl
  have mO2 : σ' 18593 = 0 + (1 * τ 1000003 + 0) := hm 18593 (by decide)
  have mA2 : σ' 18543 = 0 + (1 * τ 1000001 + 0) := hm 18543 (by decide)
  unfold sy_or at ho2
  rw [mX2, mY2, show (4 : Int).toNat = 2 ^ 2 from rfl] at ho2
  have ti : lw_ti a1.toNat a2.toNat (fun p => σ (18536 + p)) (fun p => σ' (18536 + p)) := by
    rw [show a1.toNat = 2 by omega, show a2.toNat = 7 by omega]
    intro p hp
    rcases (show p = 0 ∨ p = 1 ∨ p = 2 ∨ p = 3 ∨ p = 4 ∨ p = 5 ∨ p = 6 ∨ p = 7 by omega) with rfl | rfl | rfl | rfl | rfl | rfl | rfl | rfl
    · show σ' 18536 = if (0 : Nat) = 2 then _ else if (0 : Nat) = 7 then _ else _
      rw [if_neg (by decide), if_neg (by decide)]
      exact lw_id (hs _ (by decide)) (hm _ (by decide))
    · show σ' 18537 = if (1 : Nat) = 2 then _ else if (1 : Nat) = 7 then _ else _
      rw [if_neg (by decide), if_neg (by decide)]
      exact lw_id (hs _ (by decide)) (hm _ (by decide))
    · show σ' 18538 = if (2 : Nat) = 2 then _ else _
      rw [if_pos rfl]
      show σ' 18538 = (((σ 18538).toNat ||| 2 ^ 7 : Nat) : Int)
      omega
    · show σ' 18539 = if (3 : Nat) = 2 then _ else if (3 : Nat) = 7 then _ else _
      rw [if_neg (by decide), if_neg (by decide)]
      exact lw_id (hs _ (by decide)) (hm _ (by decide))
    · show σ' 18540 = if (4 : Nat) = 2 then _ else if (4 : Nat) = 7 then _ else _
      rw [if_neg (by decide), if_neg (by decide)]
      exact lw_id (hs _ (by decide)) (hm _ (by decide))
    · show σ' 18541 = if (5 : Nat) = 2 then _ else if (5 : Nat) = 7 then _ else _
      rw [if_neg (by decide), if_neg (by decide)]
      exact lw_id (hs _ (by decide)) (hm _ (by decide))
    · show σ' 18542 = if (6 : Nat) = 2 then _ else if (6 : Nat) = 7 then _ else _
      rw [if_neg (by decide), if_neg (by decide)]
      exact lw_id (hs _ (by decide)) (hm _ (by decide))
    · show σ' 18543 = if (7 : Nat) = 2 then _ else if (7 : Nat) = 7 then _ else _
      rw [if_neg (by decide), if_pos rfl]
      show σ' 18543 = (((σ 18543).toNat ||| 2 ^ 2 : Nat) : Int)
      omega
  exact Or.inl ⟨by omega, by omega, by omega, by omega, by omega, Or.inr ⟨by omega, ti, (fun p hp => (by rcases (show p = 0 ∨ p = 1 ∨ p = 2 ∨ p = 3 ∨ p = 4 ∨ p = 5 ∨ p = 6 ∨ p = 7 by omega) with rfl | rfl | rfl | rfl | rfl | rfl | rfl | rfl <;> exact lw_id (hs _ (by decide)) (hm _ (by decide))))⟩⟩
set_option maxHeartbeats 1000000 in
theorem lw_ux_76 {as : List rv_A} {σ σ' : Nat → Int} {o : rv_O} {x : Int32} {a1 a2 a3 : Int} {τ : Nat → Int} (hx : o.1 = some (.inl x)) (h1 : lw_av as 1 = a1) (h2 : lw_av as 2 = a2) (h3 : lw_av as 3 = a3) (ho1 : sy_or (σ' 18588) (σ' 18589) (σ' 18590)) (ho2 : sy_or (σ' 18591) (σ' 18592) (σ' 18593)) (hW : lw_W ([(18546, 128, 255), (18551, 4, 255), (18590, 128, 255), (18593, 4, 255)], [(0, [(18546, (-1)), (1000000, 1)]), (0, [(18551, (-1)), (1000001, 1)]), ((-1), [(133, 1)]), (11, [(134, (-1))]), ((-2), [(19001, 1)]), (2, [(19001, (-1))]), ((-7), [(19002, 1)]), (7, [(19002, (-1))]), ((-1), [(19003, 1)]), (0, [(1000000, 1), (1000002, (-1))]), (0, [(1000000, (-1)), (1000002, 1)]), (0, [(1000001, 1), (1000003, (-1))]), (0, [(1000001, (-1)), (1000003, 1)]), ((-1), [(19001, (-1)), (19002, 1)]), ((-1), [(133, 1), (19002, (-1))]), ((-1), [(133, 1), (19001, (-1))])], [(9, (0, [])), (134, (1, [(134, 1)])), (7048, ((-2), [])), (7049, ((-2), [])), (8069, (0, [])), (11396, ((-2), [])), (18546, (0, [(1000000, 1)])), (18551, (0, [(1000001, 1)])), (18588, (0, [(18546, 1)])), (18589, (128, [])), (18590, (0, [(1000002, 1)])), (18591, (0, [(18551, 1)])), (18592, (4, [])), (18593, (0, [(1000003, 1)])), (18594, (2, []))], some (false, (1, []))) as σ σ' τ o) : lw_ux_C a1 a2 a3 x.toInt σ σ' := by
  unfold lw_ux_C
  obtain ⟨hs, ht, hf, hr, hm, hw⟩ := hW
  have e1 : τ 19001 = a1 := by rw [ht 19001 (by decide) (by decide)]; exact h1
  have e2 : τ 19002 = a2 := by rw [ht 19002 (by decide) (by decide)]; exact h2
  have e3 : τ 19003 = a3 := by rw [ht 19003 (by decide) (by decide)]; exact h3
  rw [hx] at hr
  obtain ⟨y, hy, hv⟩ := hr
  cases hy
  replace hv : x.toInt = 1 + 0 := hv
  have f0 : 0 ≤ 0 + ((-1) * τ 18546 + (1 * τ 1000000 + 0)) := hf _ (List.Mem.head _)
  have f1 : 0 ≤ 0 + ((-1) * τ 18551 + (1 * τ 1000001 + 0)) := hf _ (List.Mem.tail _ (List.Mem.head _))
  have f2 : 0 ≤ (-1) + (1 * τ 133 + 0) := hf _ (List.Mem.tail _ (List.Mem.tail _ (List.Mem.head _)))
  have f3 : 0 ≤ 11 + ((-1) * τ 134 + 0) := hf _ (List.Mem.tail _ (List.Mem.tail _ (List.Mem.tail _ (List.Mem.head _))))
  have f4 : 0 ≤ (-2) + (1 * τ 19001 + 0) := hf _ (List.Mem.tail _ (List.Mem.tail _ (List.Mem.tail _ (List.Mem.tail _ (List.Mem.head _)))))
  have f5 : 0 ≤ 2 + ((-1) * τ 19001 + 0) := hf _ (List.Mem.tail _ (List.Mem.tail _ (List.Mem.tail _ (List.Mem.tail _ (List.Mem.tail _ (List.Mem.head _))))))
  have f6 : 0 ≤ (-7) + (1 * τ 19002 + 0) := hf _ (List.Mem.tail _ (List.Mem.tail _ (List.Mem.tail _ (List.Mem.tail _ (List.Mem.tail _ (List.Mem.tail _ (List.Mem.head _)))))))
  have f7 : 0 ≤ 7 + ((-1) * τ 19002 + 0) := hf _ (List.Mem.tail _ (List.Mem.tail _ (List.Mem.tail _ (List.Mem.tail _ (List.Mem.tail _ (List.Mem.tail _ (List.Mem.tail _ (List.Mem.head _))))))))
  have f8 : 0 ≤ (-1) + (1 * τ 19003 + 0) := hf _ (List.Mem.tail _ (List.Mem.tail _ (List.Mem.tail _ (List.Mem.tail _ (List.Mem.tail _ (List.Mem.tail _ (List.Mem.tail _ (List.Mem.tail _ (List.Mem.head _)))))))))
  have f9 : 0 ≤ 0 + (1 * τ 1000000 + ((-1) * τ 1000002 + 0)) := hf _ (List.Mem.tail _ (List.Mem.tail _ (List.Mem.tail _ (List.Mem.tail _ (List.Mem.tail _ (List.Mem.tail _ (List.Mem.tail _ (List.Mem.tail _ (List.Mem.tail _ (List.Mem.head _))))))))))
  have f10 : 0 ≤ 0 + ((-1) * τ 1000000 + (1 * τ 1000002 + 0)) := hf _ (List.Mem.tail _ (List.Mem.tail _ (List.Mem.tail _ (List.Mem.tail _ (List.Mem.tail _ (List.Mem.tail _ (List.Mem.tail _ (List.Mem.tail _ (List.Mem.tail _ (List.Mem.tail _ (List.Mem.head _)))))))))))
  have f11 : 0 ≤ 0 + (1 * τ 1000001 + ((-1) * τ 1000003 + 0)) := hf _ (List.Mem.tail _ (List.Mem.tail _ (List.Mem.tail _ (List.Mem.tail _ (List.Mem.tail _ (List.Mem.tail _ (List.Mem.tail _ (List.Mem.tail _ (List.Mem.tail _ (List.Mem.tail _ (List.Mem.tail _ (List.Mem.head _))))))))))))
  have f12 : 0 ≤ 0 + ((-1) * τ 1000001 + (1 * τ 1000003 + 0)) := hf _ (List.Mem.tail _ (List.Mem.tail _ (List.Mem.tail _ (List.Mem.tail _ (List.Mem.tail _ (List.Mem.tail _ (List.Mem.tail _ (List.Mem.tail _ (List.Mem.tail _ (List.Mem.tail _ (List.Mem.tail _ (List.Mem.tail _ (List.Mem.head _)))))))))))))
  have f13 : 0 ≤ (-1) + ((-1) * τ 19001 + (1 * τ 19002 + 0)) := hf _ (List.Mem.tail _ (List.Mem.tail _ (List.Mem.tail _ (List.Mem.tail _ (List.Mem.tail _ (List.Mem.tail _ (List.Mem.tail _ (List.Mem.tail _ (List.Mem.tail _ (List.Mem.tail _ (List.Mem.tail _ (List.Mem.tail _ (List.Mem.tail _ (List.Mem.head _))))))))))))))
  have f14 : 0 ≤ (-1) + (1 * τ 133 + ((-1) * τ 19002 + 0)) := hf _ (List.Mem.tail _ (List.Mem.tail _ (List.Mem.tail _ (List.Mem.tail _ (List.Mem.tail _ (List.Mem.tail _ (List.Mem.tail _ (List.Mem.tail _ (List.Mem.tail _ (List.Mem.tail _ (List.Mem.tail _ (List.Mem.tail _ (List.Mem.tail _ (List.Mem.tail _ (List.Mem.head _)))))))))))))))
  have f15 : 0 ≤ (-1) + (1 * τ 133 + ((-1) * τ 19001 + 0)) := hf _ (List.Mem.tail _ (List.Mem.tail _ (List.Mem.tail _ (List.Mem.tail _ (List.Mem.tail _ (List.Mem.tail _ (List.Mem.tail _ (List.Mem.tail _ (List.Mem.tail _ (List.Mem.tail _ (List.Mem.tail _ (List.Mem.tail _ (List.Mem.tail _ (List.Mem.tail _ (List.Mem.tail _ (List.Mem.head _))))))))))))))))
  have mX1 : σ' 18588 = σ 18546 := lw_id (hs 18546 (by decide)) (hm 18588 (by decide))
  have mY1 : σ' 18589 = 128 := (hm 18589 (by decide)).trans rfl
  have mO1 : σ' 18590 = 0 + (1 * τ 1000002 + 0) := hm 18590 (by decide)
  have mA1 : σ' 18546 = 0 + (1 * τ 1000000 + 0) := hm 18546 (by decide)
  unfold sy_or at ho1
  rw [mX1, mY1, show (128 : Int).toNat = 2 ^ 7 from rfl] at ho1
  have mX2 : σ' 18591 = σ 18551 := lw_id (hs 18551 (by decide)) (hm 18591 (by decide))
  have mY2 : σ' 18592 = 4 := (hm 18592 (by decide)).trans rfl
  have mO2 : σ' 18593 = 0 + (1 * τ 1000003 + 0) := hm 18593 (by decide)
  have mA2 : σ' 18551 = 0 + (1 * τ 1000001 + 0) := hm 18551 (by decide)
  unfold sy_or at ho2
  rw [mX2, mY2, show (4 : Int).toNat = 2 ^ 2 from rfl] at ho2
  have ti : lw_ti a1.toNat a2.toNat (fun p => σ (18544 + p)) (fun p => σ' (18544 + p)) := by
    rw [show a1.toNat = 2 by omega, show a2.toNat = 7 by omega]
    intro p hp
    rcases (show p = 0 ∨ p = 1 ∨ p = 2 ∨ p = 3 ∨ p = 4 ∨ p = 5 ∨ p = 6 ∨ p = 7 by omega) with rfl | rfl | rfl | rfl | rfl | rfl | rfl | rfl
    · show σ' 18544 = if (0 : Nat) = 2 then _ else if (0 : Nat) = 7 then _ else _
      rw [if_neg (by decide), if_neg (by decide)]
      exact lw_id (hs _ (by decide)) (hm _ (by decide))
    · show σ' 18545 = if (1 : Nat) = 2 then _ else if (1 : Nat) = 7 then _ else _
      rw [if_neg (by decide), if_neg (by decide)]
      exact lw_id (hs _ (by decide)) (hm _ (by decide))
    · show σ' 18546 = if (2 : Nat) = 2 then _ else _
      rw [if_pos rfl]
      show σ' 18546 = (((σ 18546).toNat ||| 2 ^ 7 : Nat) : Int)
      omega
    · show σ' 18547 = if (3 : Nat) = 2 then _ else if (3 : Nat) = 7 then _ else _
      rw [if_neg (by decide), if_neg (by decide)]
      exact lw_id (hs _ (by decide)) (hm _ (by decide))
    · show σ' 18548 = if (4 : Nat) = 2 then _ else if (4 : Nat) = 7 then _ else _
      rw [if_neg (by decide), if_neg (by decide)]
      exact lw_id (hs _ (by decide)) (hm _ (by decide))
    · show σ' 18549 = if (5 : Nat) = 2 then _ else if (5 : Nat) = 7 then _ else _
      rw [if_neg (by decide), if_neg (by decide)]
      exact lw_id (hs _ (by decide)) (hm _ (by decide))
    · show σ' 18550 = if (6 : Nat) = 2 then _ else if (6 : Nat) = 7 then _ else _
      rw [if_neg (by decide), if_neg (by decide)]
      exact lw_id (hs _ (by decide)) (hm _ (by decide))
    · show σ' 18551 = if (7 : Nat) = 2 then _ else if (7 : Nat) = 7 then _ else _
      rw [if_neg (by decide), if_pos rfl]
      show σ' 18551 = (((σ 18551).toNat ||| 2 ^ 2 : Nat) : Int)
      omega
  exact Or.inl ⟨by omega, by omega, by omega, by omega, by omega, Or.inl ⟨by omega, ti, (fun p hp => (by rcases (show p = 0 ∨ p = 1 ∨ p = 2 ∨ p = 3 ∨ p = 4 ∨ p = 5 ∨ p = 6 ∨ p = 7 by omega) with rfl | rfl | rfl | rfl | rfl | rfl | rfl | rfl <;> exact lw_id (hs _ (by decide)) (hm _ (by decide))))⟩⟩
set_option maxHeartbeats 1000000 in
theorem lw_ux_77 {as : List rv_A} {σ σ' : Nat → Int} {o : rv_O} {x : Int32} {a1 a2 a3 : Int} {τ : Nat → Int} (hx : o.1 = some (.inl x)) (h1 : lw_av as 1 = a1) (h2 : lw_av as 2 = a2) (h3 : lw_av as 3 = a3) (ho1 : sy_or (σ' 18588) (σ' 18589) (σ' 18590)) (ho2 : sy_or (σ' 18591) (σ' 18592) (σ' 18593)) (hW : lw_W ([(18536, 8, 255), (18539, 1, 255), (18590, 1, 255), (18593, 8, 255)], [(0, [(18536, (-1)), (1000000, 1)]), (0, [(18539, (-1)), (1000001, 1)]), ((-1), [(133, 1)]), (11, [(134, (-1))]), ((-3), [(19001, 1)]), (3, [(19001, (-1))]), (0, [(19002, 1)]), (0, [(19002, (-1))]), (0, [(19003, (-1))]), (0, [(1000000, 1), (1000003, (-1))]), (0, [(1000000, (-1)), (1000003, 1)]), (0, [(1000001, 1), (1000002, (-1))]), (0, [(1000001, (-1)), (1000002, 1)]), ((-1), [(19001, 1), (19002, (-1))]), ((-1), [(133, 1), (19002, (-1))]), ((-1), [(133, 1), (19001, (-1))])], [(9, (0, [])), (134, (1, [(134, 1)])), (7048, ((-2), [])), (7049, ((-2), [])), (8069, (0, [])), (11396, ((-2), [])), (18536, (0, [(1000000, 1)])), (18539, (0, [(1000001, 1)])), (18588, (0, [(18539, 1)])), (18589, (1, [])), (18590, (0, [(1000002, 1)])), (18591, (0, [(18536, 1)])), (18592, (8, [])), (18593, (0, [(1000003, 1)])), (18594, (2, []))], some (false, (1, []))) as σ σ' τ o) : lw_ux_C a1 a2 a3 x.toInt σ σ' := by
  unfold lw_ux_C
  obtain ⟨hs, ht, hf, hr, hm, hw⟩ := hW
  have e1 : τ 19001 = a1 := by rw [ht 19001 (by decide) (by decide)]; exact h1
  have e2 : τ 19002 = a2 := by rw [ht 19002 (by decide) (by decide)]; exact h2
  have e3 : τ 19003 = a3 := by rw [ht 19003 (by decide) (by decide)]; exact h3
  rw [hx] at hr
  obtain ⟨y, hy, hv⟩ := hr
  cases hy
  replace hv : x.toInt = 1 + 0 := hv
  have f0 : 0 ≤ 0 + ((-1) * τ 18536 + (1 * τ 1000000 + 0)) := hf _ (List.Mem.head _)
  have f1 : 0 ≤ 0 + ((-1) * τ 18539 + (1 * τ 1000001 + 0)) := hf _ (List.Mem.tail _ (List.Mem.head _))
  have f2 : 0 ≤ (-1) + (1 * τ 133 + 0) := hf _ (List.Mem.tail _ (List.Mem.tail _ (List.Mem.head _)))
  have f3 : 0 ≤ 11 + ((-1) * τ 134 + 0) := hf _ (List.Mem.tail _ (List.Mem.tail _ (List.Mem.tail _ (List.Mem.head _))))
  have f4 : 0 ≤ (-3) + (1 * τ 19001 + 0) := hf _ (List.Mem.tail _ (List.Mem.tail _ (List.Mem.tail _ (List.Mem.tail _ (List.Mem.head _)))))
  have f5 : 0 ≤ 3 + ((-1) * τ 19001 + 0) := hf _ (List.Mem.tail _ (List.Mem.tail _ (List.Mem.tail _ (List.Mem.tail _ (List.Mem.tail _ (List.Mem.head _))))))
  have f6 : 0 ≤ 0 + (1 * τ 19002 + 0) := hf _ (List.Mem.tail _ (List.Mem.tail _ (List.Mem.tail _ (List.Mem.tail _ (List.Mem.tail _ (List.Mem.tail _ (List.Mem.head _)))))))
  have f7 : 0 ≤ 0 + ((-1) * τ 19002 + 0) := hf _ (List.Mem.tail _ (List.Mem.tail _ (List.Mem.tail _ (List.Mem.tail _ (List.Mem.tail _ (List.Mem.tail _ (List.Mem.tail _ (List.Mem.head _))))))))
  have f8 : 0 ≤ 0 + ((-1) * τ 19003 + 0) := hf _ (List.Mem.tail _ (List.Mem.tail _ (List.Mem.tail _ (List.Mem.tail _ (List.Mem.tail _ (List.Mem.tail _ (List.Mem.tail _ (List.Mem.tail _ (List.Mem.head _)))))))))
  have f9 : 0 ≤ 0 + (1 * τ 1000000 + ((-1) * τ 1000003 + 0)) := hf _ (List.Mem.tail _ (List.Mem.tail _ (List.Mem.tail _ (List.Mem.tail _ (List.Mem.tail _ (List.Mem.tail _ (List.Mem.tail _ (List.Mem.tail _ (List.Mem.tail _ (List.Mem.head _))))))))))
  have f10 : 0 ≤ 0 + ((-1) * τ 1000000 + (1 * τ 1000003 + 0)) := hf _ (List.Mem.tail _ (List.Mem.tail _ (List.Mem.tail _ (List.Mem.tail _ (List.Mem.tail _ (List.Mem.tail _ (List.Mem.tail _ (List.Mem.tail _ (List.Mem.tail _ (List.Mem.tail _ (List.Mem.head _)))))))))))
  have f11 : 0 ≤ 0 + (1 * τ 1000001 + ((-1) * τ 1000002 + 0)) := hf _ (List.Mem.tail _ (List.Mem.tail _ (List.Mem.tail _ (List.Mem.tail _ (List.Mem.tail _ (List.Mem.tail _ (List.Mem.tail _ (List.Mem.tail _ (List.Mem.tail _ (List.Mem.tail _ (List.Mem.tail _ (List.Mem.head _))))))))))))
  have f12 : 0 ≤ 0 + ((-1) * τ 1000001 + (1 * τ 1000002 + 0)) := hf _ (List.Mem.tail _ (List.Mem.tail _ (List.Mem.tail _ (List.Mem.tail _ (List.Mem.tail _ (List.Mem.tail _ (List.Mem.tail _ (List.Mem.tail _ (List.Mem.tail _ (List.Mem.tail _ (List.Mem.tail _ (List.Mem.tail _ (List.Mem.head _)))))))))))))
  have f13 : 0 ≤ (-1) + (1 * τ 19001 + ((-1) * τ 19002 + 0)) := hf _ (List.Mem.tail _ (List.Mem.tail _ (List.Mem.tail _ (List.Mem.tail _ (List.Mem.tail _ (List.Mem.tail _ (List.Mem.tail _ (List.Mem.tail _ (List.Mem.tail _ (List.Mem.tail _ (List.Mem.tail _ (List.Mem.tail _ (List.Mem.tail _ (List.Mem.head _))))))))))))))
  have f14 : 0 ≤ (-1) + (1 * τ 133 + ((-1) * τ 19002 + 0)) := hf _ (List.Mem.tail _ (List.Mem.tail _ (List.Mem.tail _ (List.Mem.tail _ (List.Mem.tail _ (List.Mem.tail _ (List.Mem.tail _ (List.Mem.tail _ (List.Mem.tail _ (List.Mem.tail _ (List.Mem.tail _ (List.Mem.tail _ (List.Mem.tail _ (List.Mem.tail _ (List.Mem.head _)))))))))))))))
  have f15 : 0 ≤ (-1) + (1 * τ 133 + ((-1) * τ 19001 + 0)) := hf _ (List.Mem.tail _ (List.Mem.tail _ (List.Mem.tail _ (List.Mem.tail _ (List.Mem.tail _ (List.Mem.tail _ (List.Mem.tail _ (List.Mem.tail _ (List.Mem.tail _ (List.Mem.tail _ (List.Mem.tail _ (List.Mem.tail _ (List.Mem.tail _ (List.Mem.tail _ (List.Mem.tail _ (List.Mem.head _))))))))))))))))
  have mX1 : σ' 18588 = σ 18539 := lw_id (hs 18539 (by decide)) (hm 18588 (by decide))
  have mY1 : σ' 18589 = 1 := (hm 18589 (by decide)).trans rfl
  have mO1 : σ' 18590 = 0 + (1 * τ 1000002 + 0) := hm 18590 (by decide)
  have mA1 : σ' 18539 = 0 + (1 * τ 1000001 + 0) := hm 18539 (by decide)
  unfold sy_or at ho1
  rw [mX1, mY1, show (1 : Int).toNat = 2 ^ 0 from rfl] at ho1
  have mX2 : σ' 18591 = σ 18536 := lw_id (hs 18536 (by decide)) (hm 18591 (by decide))
  have mY2 : σ' 18592 = 8 := (hm 18592 (by decide)).trans rfl
  have mO2 : σ' 18593 = 0 + (1 * τ 1000003 + 0) := hm 18593 (by decide)
  have mA2 : σ' 18536 = 0 + (1 * τ 1000000 + 0) := hm 18536 (by decide)
  unfold sy_or at ho2
  rw [mX2, mY2, show (8 : Int).toNat = 2 ^ 3 from rfl] at ho2
  have ti : lw_ti a1.toNat a2.toNat (fun p => σ (18536 + p)) (fun p => σ' (18536 + p)) := by
    rw [show a1.toNat = 3 by omega, show a2.toNat = 0 by omega]
    intro p hp
    rcases (show p = 0 ∨ p = 1 ∨ p = 2 ∨ p = 3 ∨ p = 4 ∨ p = 5 ∨ p = 6 ∨ p = 7 by omega) with rfl | rfl | rfl | rfl | rfl | rfl | rfl | rfl
    · show σ' 18536 = if (0 : Nat) = 3 then _ else if (0 : Nat) = 0 then _ else _
      rw [if_neg (by decide), if_pos rfl]
      show σ' 18536 = (((σ 18536).toNat ||| 2 ^ 3 : Nat) : Int)
      omega
    · show σ' 18537 = if (1 : Nat) = 3 then _ else if (1 : Nat) = 0 then _ else _
      rw [if_neg (by decide), if_neg (by decide)]
      exact lw_id (hs _ (by decide)) (hm _ (by decide))
    · show σ' 18538 = if (2 : Nat) = 3 then _ else if (2 : Nat) = 0 then _ else _
      rw [if_neg (by decide), if_neg (by decide)]
      exact lw_id (hs _ (by decide)) (hm _ (by decide))
    · show σ' 18539 = if (3 : Nat) = 3 then _ else _
      rw [if_pos rfl]
      show σ' 18539 = (((σ 18539).toNat ||| 2 ^ 0 : Nat) : Int)
      omega
    · show σ' 18540 = if (4 : Nat) = 3 then _ else if (4 : Nat) = 0 then _ else _
      rw [if_neg (by decide), if_neg (by decide)]
      exact lw_id (hs _ (by decide)) (hm _ (by decide))
    · show σ' 18541 = if (5 : Nat) = 3 then _ else if (5 : Nat) = 0 then _ else _
      rw [if_neg (by decide), if_neg (by decide)]
      exact lw_id (hs _ (by decide)) (hm _ (by decide))
    · show σ' 18542 = if (6 : Nat) = 3 then _ else if (6 : Nat) = 0 then _ else _
      rw [if_neg (by decide), if_neg (by decide)]
      exact lw_id (hs _ (by decide)) (hm _ (by decide))
    · show σ' 18543 = if (7 : Nat) = 3 then _ else if (7 : Nat) = 0 then _ else _
      rw [if_neg (by decide), if_neg (by decide)]
      exact lw_id (hs _ (by decide)) (hm _ (by decide))
  exact Or.inl ⟨by omega, by omega, by omega, by omega, by omega, Or.inr ⟨by omega, ti, (fun p hp => (by rcases (show p = 0 ∨ p = 1 ∨ p = 2 ∨ p = 3 ∨ p = 4 ∨ p = 5 ∨ p = 6 ∨ p = 7 by omega) with rfl | rfl | rfl | rfl | rfl | rfl | rfl | rfl <;> exact lw_id (hs _ (by decide)) (hm _ (by decide))))⟩⟩
set_option maxHeartbeats 1000000 in
theorem lw_ux_78 {as : List rv_A} {σ σ' : Nat → Int} {o : rv_O} {x : Int32} {a1 a2 a3 : Int} {τ : Nat → Int} (hx : o.1 = some (.inl x)) (h1 : lw_av as 1 = a1) (h2 : lw_av as 2 = a2) (h3 : lw_av as 3 = a3) (ho1 : sy_or (σ' 18588) (σ' 18589) (σ' 18590)) (ho2 : sy_or (σ' 18591) (σ' 18592) (σ' 18593)) (hW : lw_W ([(18544, 8, 255), (18547, 1, 255), (18590, 1, 255), (18593, 8, 255)], [(0, [(18544, (-1)), (1000000, 1)]), (0, [(18547, (-1)), (1000001, 1)]), ((-1), [(133, 1)]), (11, [(134, (-1))]), ((-3), [(19001, 1)]), (3, [(19001, (-1))]), (0, [(19002, 1)]), (0, [(19002, (-1))]), ((-1), [(19003, 1)]), (0, [(1000000, 1), (1000003, (-1))]), (0, [(1000000, (-1)), (1000003, 1)]), (0, [(1000001, 1), (1000002, (-1))]), (0, [(1000001, (-1)), (1000002, 1)]), ((-1), [(19001, 1), (19002, (-1))]), ((-1), [(133, 1), (19002, (-1))]), ((-1), [(133, 1), (19001, (-1))])], [(9, (0, [])), (134, (1, [(134, 1)])), (7048, ((-2), [])), (7049, ((-2), [])), (8069, (0, [])), (11396, ((-2), [])), (18544, (0, [(1000000, 1)])), (18547, (0, [(1000001, 1)])), (18588, (0, [(18547, 1)])), (18589, (1, [])), (18590, (0, [(1000002, 1)])), (18591, (0, [(18544, 1)])), (18592, (8, [])), (18593, (0, [(1000003, 1)])), (18594, (2, []))], some (false, (1, []))) as σ σ' τ o) : lw_ux_C a1 a2 a3 x.toInt σ σ' := by
  unfold lw_ux_C
  obtain ⟨hs, ht, hf, hr, hm, hw⟩ := hW
  have e1 : τ 19001 = a1 := by rw [ht 19001 (by decide) (by decide)]; exact h1
  have e2 : τ 19002 = a2 := by rw [ht 19002 (by decide) (by decide)]; exact h2
  have e3 : τ 19003 = a3 := by rw [ht 19003 (by decide) (by decide)]; exact h3
  rw [hx] at hr
  obtain ⟨y, hy, hv⟩ := hr
  cases hy
  replace hv : x.toInt = 1 + 0 := hv
  have f0 : 0 ≤ 0 + ((-1) * τ 18544 + (1 * τ 1000000 + 0)) := hf _ (List.Mem.head _)
  have f1 : 0 ≤ 0 + ((-1) * τ 18547 + (1 * τ 1000001 + 0)) := hf _ (List.Mem.tail _ (List.Mem.head _))
  have f2 : 0 ≤ (-1) + (1 * τ 133 + 0) := hf _ (List.Mem.tail _ (List.Mem.tail _ (List.Mem.head _)))
  have f3 : 0 ≤ 11 + ((-1) * τ 134 + 0) := hf _ (List.Mem.tail _ (List.Mem.tail _ (List.Mem.tail _ (List.Mem.head _))))
  have f4 : 0 ≤ (-3) + (1 * τ 19001 + 0) := hf _ (List.Mem.tail _ (List.Mem.tail _ (List.Mem.tail _ (List.Mem.tail _ (List.Mem.head _)))))
  have f5 : 0 ≤ 3 + ((-1) * τ 19001 + 0) := hf _ (List.Mem.tail _ (List.Mem.tail _ (List.Mem.tail _ (List.Mem.tail _ (List.Mem.tail _ (List.Mem.head _))))))
  have f6 : 0 ≤ 0 + (1 * τ 19002 + 0) := hf _ (List.Mem.tail _ (List.Mem.tail _ (List.Mem.tail _ (List.Mem.tail _ (List.Mem.tail _ (List.Mem.tail _ (List.Mem.head _)))))))
  have f7 : 0 ≤ 0 + ((-1) * τ 19002 + 0) := hf _ (List.Mem.tail _ (List.Mem.tail _ (List.Mem.tail _ (List.Mem.tail _ (List.Mem.tail _ (List.Mem.tail _ (List.Mem.tail _ (List.Mem.head _))))))))
  have f8 : 0 ≤ (-1) + (1 * τ 19003 + 0) := hf _ (List.Mem.tail _ (List.Mem.tail _ (List.Mem.tail _ (List.Mem.tail _ (List.Mem.tail _ (List.Mem.tail _ (List.Mem.tail _ (List.Mem.tail _ (List.Mem.head _)))))))))
  have f9 : 0 ≤ 0 + (1 * τ 1000000 + ((-1) * τ 1000003 + 0)) := hf _ (List.Mem.tail _ (List.Mem.tail _ (List.Mem.tail _ (List.Mem.tail _ (List.Mem.tail _ (List.Mem.tail _ (List.Mem.tail _ (List.Mem.tail _ (List.Mem.tail _ (List.Mem.head _))))))))))
  have f10 : 0 ≤ 0 + ((-1) * τ 1000000 + (1 * τ 1000003 + 0)) := hf _ (List.Mem.tail _ (List.Mem.tail _ (List.Mem.tail _ (List.Mem.tail _ (List.Mem.tail _ (List.Mem.tail _ (List.Mem.tail _ (List.Mem.tail _ (List.Mem.tail _ (List.Mem.tail _ (List.Mem.head _)))))))))))
  have f11 : 0 ≤ 0 + (1 * τ 1000001 + ((-1) * τ 1000002 + 0)) := hf _ (List.Mem.tail _ (List.Mem.tail _ (List.Mem.tail _ (List.Mem.tail _ (List.Mem.tail _ (List.Mem.tail _ (List.Mem.tail _ (List.Mem.tail _ (List.Mem.tail _ (List.Mem.tail _ (List.Mem.tail _ (List.Mem.head _))))))))))))
  have f12 : 0 ≤ 0 + ((-1) * τ 1000001 + (1 * τ 1000002 + 0)) := hf _ (List.Mem.tail _ (List.Mem.tail _ (List.Mem.tail _ (List.Mem.tail _ (List.Mem.tail _ (List.Mem.tail _ (List.Mem.tail _ (List.Mem.tail _ (List.Mem.tail _ (List.Mem.tail _ (List.Mem.tail _ (List.Mem.tail _ (List.Mem.head _)))))))))))))
  have f13 : 0 ≤ (-1) + (1 * τ 19001 + ((-1) * τ 19002 + 0)) := hf _ (List.Mem.tail _ (List.Mem.tail _ (List.Mem.tail _ (List.Mem.tail _ (List.Mem.tail _ (List.Mem.tail _ (List.Mem.tail _ (List.Mem.tail _ (List.Mem.tail _ (List.Mem.tail _ (List.Mem.tail _ (List.Mem.tail _ (List.Mem.tail _ (List.Mem.head _))))))))))))))
  have f14 : 0 ≤ (-1) + (1 * τ 133 + ((-1) * τ 19002 + 0)) := hf _ (List.Mem.tail _ (List.Mem.tail _ (List.Mem.tail _ (List.Mem.tail _ (List.Mem.tail _ (List.Mem.tail _ (List.Mem.tail _ (List.Mem.tail _ (List.Mem.tail _ (List.Mem.tail _ (List.Mem.tail _ (List.Mem.tail _ (List.Mem.tail _ (List.Mem.tail _ (List.Mem.head _)))))))))))))))
  have f15 : 0 ≤ (-1) + (1 * τ 133 + ((-1) * τ 19001 + 0)) := hf _ (List.Mem.tail _ (List.Mem.tail _ (List.Mem.tail _ (List.Mem.tail _ (List.Mem.tail _ (List.Mem.tail _ (List.Mem.tail _ (List.Mem.tail _ (List.Mem.tail _ (List.Mem.tail _ (List.Mem.tail _ (List.Mem.tail _ (List.Mem.tail _ (List.Mem.tail _ (List.Mem.tail _ (List.Mem.head _))))))))))))))))
  have mX1 : σ' 18588 = σ 18547 := lw_id (hs 18547 (by decide)) (hm 18588 (by decide))
  have mY1 : σ' 18589 = 1 := (hm 18589 (by decide)).trans rfl
  have mO1 : σ' 18590 = 0 + (1 * τ 1000002 + 0) := hm 18590 (by decide)
  have mA1 : σ' 18547 = 0 + (1 * τ 1000001 + 0) := hm 18547 (by decide)
  unfold sy_or at ho1
  rw [mX1, mY1, show (1 : Int).toNat = 2 ^ 0 from rfl] at ho1
  have mX2 : σ' 18591 = σ 18544 := lw_id (hs 18544 (by decide)) (hm 18591 (by decide))
  have mY2 : σ' 18592 = 8 := (hm 18592 (by decide)).trans rfl
  have mO2 : σ' 18593 = 0 + (1 * τ 1000003 + 0) := hm 18593 (by decide)
  have mA2 : σ' 18544 = 0 + (1 * τ 1000000 + 0) := hm 18544 (by decide)
  unfold sy_or at ho2
  rw [mX2, mY2, show (8 : Int).toNat = 2 ^ 3 from rfl] at ho2
  have ti : lw_ti a1.toNat a2.toNat (fun p => σ (18544 + p)) (fun p => σ' (18544 + p)) := by
    rw [show a1.toNat = 3 by omega, show a2.toNat = 0 by omega]
    intro p hp
    rcases (show p = 0 ∨ p = 1 ∨ p = 2 ∨ p = 3 ∨ p = 4 ∨ p = 5 ∨ p = 6 ∨ p = 7 by omega) with rfl | rfl | rfl | rfl | rfl | rfl | rfl | rfl
    · show σ' 18544 = if (0 : Nat) = 3 then _ else if (0 : Nat) = 0 then _ else _
      rw [if_neg (by decide), if_pos rfl]
      show σ' 18544 = (((σ 18544).toNat ||| 2 ^ 3 : Nat) : Int)
      omega
    · show σ' 18545 = if (1 : Nat) = 3 then _ else if (1 : Nat) = 0 then _ else _
      rw [if_neg (by decide), if_neg (by decide)]
      exact lw_id (hs _ (by decide)) (hm _ (by decide))
    · show σ' 18546 = if (2 : Nat) = 3 then _ else if (2 : Nat) = 0 then _ else _
      rw [if_neg (by decide), if_neg (by decide)]
      exact lw_id (hs _ (by decide)) (hm _ (by decide))
    · show σ' 18547 = if (3 : Nat) = 3 then _ else _
      rw [if_pos rfl]
      show σ' 18547 = (((σ 18547).toNat ||| 2 ^ 0 : Nat) : Int)
      omega
    · show σ' 18548 = if (4 : Nat) = 3 then _ else if (4 : Nat) = 0 then _ else _
      rw [if_neg (by decide), if_neg (by decide)]
      exact lw_id (hs _ (by decide)) (hm _ (by decide))
    · show σ' 18549 = if (5 : Nat) = 3 then _ else if (5 : Nat) = 0 then _ else _
      rw [if_neg (by decide), if_neg (by decide)]
      exact lw_id (hs _ (by decide)) (hm _ (by decide))
    · show σ' 18550 = if (6 : Nat) = 3 then _ else if (6 : Nat) = 0 then _ else _
      rw [if_neg (by decide), if_neg (by decide)]
      exact lw_id (hs _ (by decide)) (hm _ (by decide))
    · show σ' 18551 = if (7 : Nat) = 3 then _ else if (7 : Nat) = 0 then _ else _
      rw [if_neg (by decide), if_neg (by decide)]
      exact lw_id (hs _ (by decide)) (hm _ (by decide))
  exact Or.inl ⟨by omega, by omega, by omega, by omega, by omega, Or.inl ⟨by omega, ti, (fun p hp => (by rcases (show p = 0 ∨ p = 1 ∨ p = 2 ∨ p = 3 ∨ p = 4 ∨ p = 5 ∨ p = 6 ∨ p = 7 by omega) with rfl | rfl | rfl | rfl | rfl | rfl | rfl | rfl <;> exact lw_id (hs _ (by decide)) (hm _ (by decide))))⟩⟩
set_option maxHeartbeats 1000000 in
theorem lw_ux_79 {as : List rv_A} {σ σ' : Nat → Int} {o : rv_O} {x : Int32} {a1 a2 a3 : Int} {τ : Nat → Int} (hx : o.1 = some (.inl x)) (h1 : lw_av as 1 = a1) (h2 : lw_av as 2 = a2) (h3 : lw_av as 3 = a3) (ho1 : sy_or (σ' 18588) (σ' 18589) (σ' 18590)) (ho2 : sy_or (σ' 18591) (σ' 18592) (σ' 18593)) (hW : lw_W ([(18537, 8, 255), (18539, 2, 255), (18590, 2, 255), (18593, 8, 255)], [(0, [(18537, (-1)), (1000000, 1)]), (0, [(18539, (-1)), (1000001, 1)]), ((-1), [(133, 1)]), (11, [(134, (-1))]), ((-3), [(19001, 1)]), (3, [(19001, (-1))]), ((-1), [(19002, 1)]), (1, [(19002, (-1))]), (0, [(19003, (-1))]), (0, [(1000000, 1), (1000003, (-1))]), (0, [(1000000, (-1)), (1000003, 1)]), (0, [(1000001, 1), (1000002, (-1))]), (0, [(1000001, (-1)), (1000002, 1)]), ((-1), [(19001, (-1)), (19002, 1)]), ((-1), [(133, 1), (19002, (-1))]), ((-1), [(133, 1), (19001, (-1))])], [(9, (0, [])), (134, (1, [(134, 1)])), (7048, ((-2), [])), (7049, ((-2), [])), (8069, (0, [])), (11396, ((-2), [])), (18537, (0, [(1000000, 1)])), (18539, (0, [(1000001, 1)])), (18588, (0, [(18539, 1)])), (18589, (2, [])), (18590, (0, [(1000002, 1)])), (18591, (0, [(18537, 1)])), (18592, (8, [])), (18593, (0, [(1000003, 1)])), (18594, (2, []))], some (false, (1, []))) as σ σ' τ o) : lw_ux_C a1 a2 a3 x.toInt σ σ' := by
  unfold lw_ux_C
  obtain ⟨hs, ht, hf, hr, hm, hw⟩ := hW
  have e1 : τ 19001 = a1 := by rw [ht 19001 (by decide) (by decide)]; exact h1
  have e2 : τ 19002 = a2 := by rw [ht 19002 (by decide) (by decide)]; exact h2
  have e3 : τ 19003 = a3 := by rw [ht 19003 (by decide) (by decide)]; exact h3
  rw [hx] at hr
  obtain ⟨y, hy, hv⟩ := hr
  cases hy
  replace hv : x.toInt = 1 + 0 := hv
  have f0 : 0 ≤ 0 + ((-1) * τ 18537 + (1 * τ 1000000 + 0)) := hf _ (List.Mem.head _)
  have f1 : 0 ≤ 0 + ((-1) * τ 18539 + (1 * τ 1000001 + 0)) := hf _ (List.Mem.tail _ (List.Mem.head _))
  have f2 : 0 ≤ (-1) + (1 * τ 133 + 0) := hf _ (List.Mem.tail _ (List.Mem.tail _ (List.Mem.head _)))
  have f3 : 0 ≤ 11 + ((-1) * τ 134 + 0) := hf _ (List.Mem.tail _ (List.Mem.tail _ (List.Mem.tail _ (List.Mem.head _))))
  have f4 : 0 ≤ (-3) + (1 * τ 19001 + 0) := hf _ (List.Mem.tail _ (List.Mem.tail _ (List.Mem.tail _ (List.Mem.tail _ (List.Mem.head _)))))
  have f5 : 0 ≤ 3 + ((-1) * τ 19001 + 0) := hf _ (List.Mem.tail _ (List.Mem.tail _ (List.Mem.tail _ (List.Mem.tail _ (List.Mem.tail _ (List.Mem.head _))))))
  have f6 : 0 ≤ (-1) + (1 * τ 19002 + 0) := hf _ (List.Mem.tail _ (List.Mem.tail _ (List.Mem.tail _ (List.Mem.tail _ (List.Mem.tail _ (List.Mem.tail _ (List.Mem.head _)))))))
  have f7 : 0 ≤ 1 + ((-1) * τ 19002 + 0) := hf _ (List.Mem.tail _ (List.Mem.tail _ (List.Mem.tail _ (List.Mem.tail _ (List.Mem.tail _ (List.Mem.tail _ (List.Mem.tail _ (List.Mem.head _))))))))
  have f8 : 0 ≤ 0 + ((-1) * τ 19003 + 0) := hf _ (List.Mem.tail _ (List.Mem.tail _ (List.Mem.tail _ (List.Mem.tail _ (List.Mem.tail _ (List.Mem.tail _ (List.Mem.tail _ (List.Mem.tail _ (List.Mem.head _)))))))))
  have f9 : 0 ≤ 0 + (1 * τ 1000000 + ((-1) * τ 1000003 + 0)) := hf _ (List.Mem.tail _ (List.Mem.tail _ (List.Mem.tail _ (List.Mem.tail _ (List.Mem.tail _ (List.Mem.tail _ (List.Mem.tail _ (List.Mem.tail _ (List.Mem.tail _ (List.Mem.head _))))))))))
  have f10 : 0 ≤ 0 + ((-1) * τ 1000000 + (1 * τ 1000003 + 0)) := hf _ (List.Mem.tail _ (List.Mem.tail _ (List.Mem.tail _ (List.Mem.tail _ (List.Mem.tail _ (List.Mem.tail _ (List.Mem.tail _ (List.Mem.tail _ (List.Mem.tail _ (List.Mem.tail _ (List.Mem.head _)))))))))))
  have f11 : 0 ≤ 0 + (1 * τ 1000001 + ((-1) * τ 1000002 + 0)) := hf _ (List.Mem.tail _ (List.Mem.tail _ (List.Mem.tail _ (List.Mem.tail _ (List.Mem.tail _ (List.Mem.tail _ (List.Mem.tail _ (List.Mem.tail _ (List.Mem.tail _ (List.Mem.tail _ (List.Mem.tail _ (List.Mem.head _))))))))))))
  have f12 : 0 ≤ 0 + ((-1) * τ 1000001 + (1 * τ 1000002 + 0)) := hf _ (List.Mem.tail _ (List.Mem.tail _ (List.Mem.tail _ (List.Mem.tail _ (List.Mem.tail _ (List.Mem.tail _ (List.Mem.tail _ (List.Mem.tail _ (List.Mem.tail _ (List.Mem.tail _ (List.Mem.tail _ (List.Mem.tail _ (List.Mem.head _)))))))))))))
  have f13 : 0 ≤ (-1) + ((-1) * τ 19001 + (1 * τ 19002 + 0)) := hf _ (List.Mem.tail _ (List.Mem.tail _ (List.Mem.tail _ (List.Mem.tail _ (List.Mem.tail _ (List.Mem.tail _ (List.Mem.tail _ (List.Mem.tail _ (List.Mem.tail _ (List.Mem.tail _ (List.Mem.tail _ (List.Mem.tail _ (List.Mem.tail _ (List.Mem.head _))))))))))))))
  have f14 : 0 ≤ (-1) + (1 * τ 133 + ((-1) * τ 19002 + 0)) := hf _ (List.Mem.tail _ (List.Mem.tail _ (List.Mem.tail _ (List.Mem.tail _ (List.Mem.tail _ (List.Mem.tail _ (List.Mem.tail _ (List.Mem.tail _ (List.Mem.tail _ (List.Mem.tail _ (List.Mem.tail _ (List.Mem.tail _ (List.Mem.tail _ (List.Mem.tail _ (List.Mem.head _)))))))))))))))
  have f15 : 0 ≤ (-1) + (1 * τ 133 + ((-1) * τ 19001 + 0)) := hf _ (List.Mem.tail _ (List.Mem.tail _ (List.Mem.tail _ (List.Mem.tail _ (List.Mem.tail _ (List.Mem.tail _ (List.Mem.tail _ (List.Mem.tail _ (List.Mem.tail _ (List.Mem.tail _ (List.Mem.tail _ (List.Mem.tail _ (List.Mem.tail _ (List.Mem.tail _ (List.Mem.tail _ (List.Mem.head _))))))))))))))))
  have mX1 : σ' 18588 = σ 18539 := lw_id (hs 18539 (by decide)) (hm 18588 (by decide))
  have mY1 : σ' 18589 = 2 := (hm 18589 (by decide)).trans rfl
  have mO1 : σ' 18590 = 0 + (1 * τ 1000002 + 0) := hm 18590 (by decide)
  have mA1 : σ' 18539 = 0 + (1 * τ 1000001 + 0) := hm 18539 (by decide)
  unfold sy_or at ho1
  rw [mX1, mY1, show (2 : Int).toNat = 2 ^ 1 from rfl] at ho1
  have mX2 : σ' 18591 = σ 18537 := lw_id (hs 18537 (by decide)) (hm 18591 (by decide))
  have mY2 : σ' 18592 = 8 := (hm 18592 (by decide)).trans rfl
  have mO2 : σ' 18593 = 0 + (1 * τ 1000003 + 0) := hm 18593 (by decide)
  have mA2 : σ' 18537 = 0 + (1 * τ 1000000 + 0) := hm 18537 (by decide)
  unfold sy_or at ho2
  rw [mX2, mY2, show (8 : Int).toNat = 2 ^ 3 from rfl] at ho2
  have ti : lw_ti a1.toNat a2.toNat (fun p => σ (18536 + p)) (fun p => σ' (18536 + p)) := by
    rw [show a1.toNat = 3 by omega, show a2.toNat = 1 by omega]
    intro p hp
    rcases (show p = 0 ∨ p = 1 ∨ p = 2 ∨ p = 3 ∨ p = 4 ∨ p = 5 ∨ p = 6 ∨ p = 7 by omega) with rfl | rfl | rfl | rfl | rfl | rfl | rfl | rfl
    · show σ' 18536 = if (0 : Nat) = 3 then _ else if (0 : Nat) = 1 then _ else _
      rw [if_neg (by decide), if_neg (by decide)]
      exact lw_id (hs _ (by decide)) (hm _ (by decide))
    · show σ' 18537 = if (1 : Nat) = 3 then _ else if (1 : Nat) = 1 then _ else _
      rw [if_neg (by decide), if_pos rfl]
      show σ' 18537 = (((σ 18537).toNat ||| 2 ^ 3 : Nat) : Int)
      omega
    · show σ' 18538 = if (2 : Nat) = 3 then _ else if (2 : Nat) = 1 then _ else _
      rw [if_neg (by decide), if_neg (by decide)]
      exact lw_id (hs _ (by decide)) (hm _ (by decide))
    · show σ' 18539 = if (3 : Nat) = 3 then _ else _
      rw [if_pos rfl]
      show σ' 18539 = (((σ 18539).toNat ||| 2 ^ 1 : Nat) : Int)
      omega
    · show σ' 18540 = if (4 : Nat) = 3 then _ else if (4 : Nat) = 1 then _ else _
      rw [if_neg (by decide), if_neg (by decide)]
      exact lw_id (hs _ (by decide)) (hm _ (by decide))
    · show σ' 18541 = if (5 : Nat) = 3 then _ else if (5 : Nat) = 1 then _ else _
      rw [if_neg (by decide), if_neg (by decide)]
      exact lw_id (hs _ (by decide)) (hm _ (by decide))
    · show σ' 18542 = if (6 : Nat) = 3 then _ else if (6 : Nat) = 1 then _ else _
      rw [if_neg (by decide), if_neg (by decide)]
      exact lw_id (hs _ (by decide)) (hm _ (by decide))
    · show σ' 18543 = if (7 : Nat) = 3 then _ else if (7 : Nat) = 1 then _ else _
      rw [if_neg (by decide), if_neg (by decide)]
      exact lw_id (hs _ (by decide)) (hm _ (by decide))
  exact Or.inl ⟨by omega, by omega, by omega, by omega, by omega, Or.inr ⟨by omega, ti, (fun p hp => (by rcases (show p = 0 ∨ p = 1 ∨ p = 2 ∨ p = 3 ∨ p = 4 ∨ p = 5 ∨ p = 6 ∨ p = 7 by omega) with rfl | rfl | rfl | rfl | rfl | rfl | rfl | rfl <;> exact lw_id (hs _ (by decide)) (hm _ (by decide))))⟩⟩
set_option maxHeartbeats 1000000 in
theorem lw_ux_80 {as : List rv_A} {σ σ' : Nat → Int} {o : rv_O} {x : Int32} {a1 a2 a3 : Int} {τ : Nat → Int} (hx : o.1 = some (.inl x)) (h1 : lw_av as 1 = a1) (h2 : lw_av as 2 = a2) (h3 : lw_av as 3 = a3) (ho1 : sy_or (σ' 18588) (σ' 18589) (σ' 18590)) (ho2 : sy_or (σ' 18591) (σ' 18592) (σ' 18593)) (hW : lw_W ([(18537, 8, 255), (18539, 2, 255), (18590, 2, 255), (18593, 8, 255)], [(0, [(18537, (-1)), (1000000, 1)]), (0, [(18539, (-1)), (1000001, 1)]), ((-1), [(133, 1)]), (11, [(134, (-1))]), ((-3), [(19001, 1)]), (3, [(19001, (-1))]), ((-1), [(19002, 1)]), (1, [(19002, (-1))]), (0, [(19003, (-1))]), (0, [(1000000, 1), (1000003, (-1))]), (0, [(1000000, (-1)), (1000003, 1)]), (0, [(1000001, 1), (1000002, (-1))]), (0, [(1000001, (-1)), (1000002, 1)]), ((-1), [(19001, 1), (19002, (-1))]), ((-1), [(133, 1), (19002, (-1))]), ((-1), [(133, 1), (19001, (-1))])], [(9, (0, [])), (134, (1, [(134, 1)])), (7048, ((-2), [])), (7049, ((-2), [])), (8069, (0, [])), (11396, ((-2), [])), (18537, (0, [(1000000, 1)])), (18539, (0, [(1000001, 1)])), (18588, (0, [(18539, 1)])), (18589, (2, [])), (18590, (0, [(1000002, 1)])), (18591, (0, [(18537, 1)])), (18592, (8, [])), (18593, (0, [(1000003, 1)])), (18594, (2, []))], some (false, (1, []))) as σ σ' τ o) : lw_ux_C a1 a2 a3 x.toInt σ σ' := by
  unfold lw_ux_C
  obtain ⟨hs, ht, hf, hr, hm, hw⟩ := hW
  have e1 : τ 19001 = a1 := by rw [ht 19001 (by decide) (by decide)]; exact h1
  have e2 : τ 19002 = a2 := by rw [ht 19002 (by decide) (by decide)]; exact h2
  have e3 : τ 19003 = a3 := by rw [ht 19003 (by decide) (by decide)]; exact h3
  rw [hx] at hr
  obtain ⟨y, hy, hv⟩ := hr
  cases hy
  replace hv : x.toInt = 1 + 0 := hv
  have f0 : 0 ≤ 0 + ((-1) * τ 18537 + (1 * τ 1000000 + 0)) := hf _ (List.Mem.head _)
  have f1 : 0 ≤ 0 + ((-1) * τ 18539 + (1 * τ 1000001 + 0)) := hf _ (List.Mem.tail _ (List.Mem.head _))
  have f2 : 0 ≤ (-1) + (1 * τ 133 + 0) := hf _ (List.Mem.tail _ (List.Mem.tail _ (List.Mem.head _)))
  have f3 : 0 ≤ 11 + ((-1) * τ 134 + 0) := hf _ (List.Mem.tail _ (List.Mem.tail _ (List.Mem.tail _ (List.Mem.head _))))
  have f4 : 0 ≤ (-3) + (1 * τ 19001 + 0) := hf _ (List.Mem.tail _ (List.Mem.tail _ (List.Mem.tail _ (List.Mem.tail _ (List.Mem.head _)))))
  have f5 : 0 ≤ 3 + ((-1) * τ 19001 + 0) := hf _ (List.Mem.tail _ (List.Mem.tail _ (List.Mem.tail _ (List.Mem.tail _ (List.Mem.tail _ (List.Mem.head _))))))
  have f6 : 0 ≤ (-1) + (1 * τ 19002 + 0) := hf _ (List.Mem.tail _ (List.Mem.tail _ (List.Mem.tail _ (List.Mem.tail _ (List.Mem.tail _ (List.Mem.tail _ (List.Mem.head _)))))))
  have f7 : 0 ≤ 1 + ((-1) * τ 19002 + 0) := hf _ (List.Mem.tail _ (List.Mem.tail _ (List.Mem.tail _ (List.Mem.tail _ (List.Mem.tail _ (List.Mem.tail _ (List.Mem.tail _ (List.Mem.head _))))))))
  have f8 : 0 ≤ 0 + ((-1) * τ 19003 + 0) := hf _ (List.Mem.tail _ (List.Mem.tail _ (List.Mem.tail _ (List.Mem.tail _ (List.Mem.tail _ (List.Mem.tail _ (List.Mem.tail _ (List.Mem.tail _ (List.Mem.head _)))))))))
  have f9 : 0 ≤ 0 + (1 * τ 1000000 + ((-1) * τ 1000003 + 0)) := hf _ (List.Mem.tail _ (List.Mem.tail _ (List.Mem.tail _ (List.Mem.tail _ (List.Mem.tail _ (List.Mem.tail _ (List.Mem.tail _ (List.Mem.tail _ (List.Mem.tail _ (List.Mem.head _))))))))))
  have f10 : 0 ≤ 0 + ((-1) * τ 1000000 + (1 * τ 1000003 + 0)) := hf _ (List.Mem.tail _ (List.Mem.tail _ (List.Mem.tail _ (List.Mem.tail _ (List.Mem.tail _ (List.Mem.tail _ (List.Mem.tail _ (List.Mem.tail _ (List.Mem.tail _ (List.Mem.tail _ (List.Mem.head _)))))))))))
  have f11 : 0 ≤ 0 + (1 * τ 1000001 + ((-1) * τ 1000002 + 0)) := hf _ (List.Mem.tail _ (List.Mem.tail _ (List.Mem.tail _ (List.Mem.tail _ (List.Mem.tail _ (List.Mem.tail _ (List.Mem.tail _ (List.Mem.tail _ (List.Mem.tail _ (List.Mem.tail _ (List.Mem.tail _ (List.Mem.head _))))))))))))
  have f12 : 0 ≤ 0 + ((-1) * τ 1000001 + (1 * τ 1000002 + 0)) := hf _ (List.Mem.tail _ (List.Mem.tail _ (List.Mem.tail _ (List.Mem.tail _ (List.Mem.tail _ (List.Mem.tail _ (List.Mem.tail _ (List.Mem.tail _ (List.Mem.tail _ (List.Mem.tail _ (List.Mem.tail _ (List.Mem.tail _ (List.Mem.head _)))))))))))))
  have f13 : 0 ≤ (-1) + (1 * τ 19001 + ((-1) * τ 19002 + 0)) := hf _ (List.Mem.tail _ (List.Mem.tail _ (List.Mem.tail _ (List.Mem.tail _ (List.Mem.tail _ (List.Mem.tail _ (List.Mem.tail _ (List.Mem.tail _ (List.Mem.tail _ (List.Mem.tail _ (List.Mem.tail _ (List.Mem.tail _ (List.Mem.tail _ (List.Mem.head _))))))))))))))
  have f14 : 0 ≤ (-1) + (1 * τ 133 + ((-1) * τ 19002 + 0)) := hf _ (List.Mem.tail _ (List.Mem.tail _ (List.Mem.tail _ (List.Mem.tail _ (List.Mem.tail _ (List.Mem.tail _ (List.Mem.tail _ (List.Mem.tail _ (List.Mem.tail _ (List.Mem.tail _ (List.Mem.tail _ (List.Mem.tail _ (List.Mem.tail _ (List.Mem.tail _ (List.Mem.head _)))))))))))))))
  have f15 : 0 ≤ (-1) + (1 * τ 133 + ((-1) * τ 19001 + 0)) := hf _ (List.Mem.tail _ (List.Mem.tail _ (List.Mem.tail _ (List.Mem.tail _ (List.Mem.tail _ (List.Mem.tail _ (List.Mem.tail _ (List.Mem.tail _ (List.Mem.tail _ (List.Mem.tail _ (List.Mem.tail _ (List.Mem.tail _ (List.Mem.tail _ (List.Mem.tail _ (List.Mem.tail _ (List.Mem.head _))))))))))))))))
  have mX1 : σ' 18588 = σ 18539 := lw_id (hs 18539 (by decide)) (hm 18588 (by decide))
  have mY1 : σ' 18589 = 2 := (hm 18589 (by decide)).trans rfl
  have mO1 : σ' 18590 = 0 + (1 * τ 1000002 + 0) := hm 18590 (by decide)
  have mA1 : σ' 18539 = 0 + (1 * τ 1000001 + 0) := hm 18539 (by decide)
  unfold sy_or at ho1
  rw [mX1, mY1, show (2 : Int).toNat = 2 ^ 1 from rfl] at ho1
  have mX2 : σ' 18591 = σ 18537 := lw_id (hs 18537 (by decide)) (hm 18591 (by decide))
  have mY2 : σ' 18592 = 8 := (hm 18592 (by decide)).trans rfl
  have mO2 : σ' 18593 = 0 + (1 * τ 1000003 + 0) := hm 18593 (by decide)
  have mA2 : σ' 18537 = 0 + (1 * τ 1000000 + 0) := hm 18537 (by decide)
  unfold sy_or at ho2
  rw [mX2, mY2, show (8 : Int).toNat = 2 ^ 3 from rfl] at ho2
  have ti : lw_ti a1.toNat a2.toNat (fun p => σ (18536 + p)) (fun p => σ' (18536 + p)) := by
    rw [show a1.toNat = 3 by omega, show a2.toNat = 1 by omega]
    intro p hp
    rcases (show p = 0 ∨ p = 1 ∨ p = 2 ∨ p = 3 ∨ p = 4 ∨ p = 5 ∨ p = 6 ∨ p = 7 by omega) with rfl | rfl | rfl | rfl | rfl | rfl | rfl | rfl
    · show σ' 18536 = if (0 : Nat) = 3 then _ else if (0 : Nat) = 1 then _ else _
      rw [if_neg (by decide), if_neg (by decide)]
      exact lw_id (hs _ (by decide)) (hm _ (by decide))
    · show σ' 18537 = if (1 : Nat) = 3 then _ else if (1 : Nat) = 1 then _ else _
      rw [if_neg (by decide), if_pos rfl]
      show σ' 18537 = (((σ 18537).toNat ||| 2 ^ 3 : Nat) : Int)
      omega
    · show σ' 18538 = if (2 : Nat) = 3 then _ else if (2 : Nat) = 1 then _ else _
      rw [if_neg (by decide), if_neg (by decide)]
      exact lw_id (hs _ (by decide)) (hm _ (by decide))
    · show σ' 18539 = if (3 : Nat) = 3 then _ else _
      rw [if_pos rfl]
      show σ' 18539 = (((σ 18539).toNat ||| 2 ^ 1 : Nat) : Int)
      omega
    · show σ' 18540 = if (4 : Nat) = 3 then _ else if (4 : Nat) = 1 then _ else _
      rw [if_neg (by decide), if_neg (by decide)]
      exact lw_id (hs _ (by decide)) (hm _ (by decide))
    · show σ' 18541 = if (5 : Nat) = 3 then _ else if (5 : Nat) = 1 then _ else _
      rw [if_neg (by decide), if_neg (by decide)]
      exact lw_id (hs _ (by decide)) (hm _ (by decide))
    · show σ' 18542 = if (6 : Nat) = 3 then _ else if (6 : Nat) = 1 then _ else _
      rw [if_neg (by decide), if_neg (by decide)]
      exact lw_id (hs _ (by decide)) (hm _ (by decide))
    · show σ' 18543 = if (7 : Nat) = 3 then _ else if (7 : Nat) = 1 then _ else _
      rw [if_neg (by decide), if_neg (by decide)]
      exact lw_id (hs _ (by decide)) (hm _ (by decide))
  exact Or.inl ⟨by omega, by omega, by omega, by omega, by omega, Or.inr ⟨by omega, ti, (fun p hp => (by rcases (show p = 0 ∨ p = 1 ∨ p = 2 ∨ p = 3 ∨ p = 4 ∨ p = 5 ∨ p = 6 ∨ p = 7 by omega) with rfl | rfl | rfl | rfl | rfl | rfl | rfl | rfl <;> exact lw_id (hs _ (by decide)) (hm _ (by decide))))⟩⟩
set_option maxHeartbeats 1000000 in
theorem lw_ux_81 {as : List rv_A} {σ σ' : Nat → Int} {o : rv_O} {x : Int32} {a1 a2 a3 : Int} {τ : Nat → Int} (hx : o.1 = some (.inl x)) (h1 : lw_av as 1 = a1) (h2 : lw_av as 2 = a2) (h3 : lw_av as 3 = a3) (ho1 : sy_or (σ' 18588) (σ' 18589) (σ' 18590)) (ho2 : sy_or (σ' 18591) (σ' 18592) (σ' 18593)) (hW : lw_W ([(18545, 8, 255), (18547, 2, 255), (18590, 2, 255), (18593, 8, 255)], [(0, [(18545, (-1)), (1000000, 1)]), (0, [(18547, (-1)), (1000001, 1)]), ((-1), [(133, 1)]), (11, [(134, (-1))]), ((-3), [(19001, 1)]), (3, [(19001, (-1))]), ((-1), [(19002, 1)]), (1, [(19002, (-1))]), ((-1), [(19003, 1)]), (0, [(1000000, 1), (1000003, (-1))]), (0, [(1000000, (-1)), (1000003, 1)]), (0, [(1000001, 1), (1000002, (-1))]), (0, [(1000001, (-1)), (1000002, 1)]), ((-1), [(19001, (-1)), (19002, 1)]), ((-1), [(133, 1), (19002, (-1))]), ((-1), [(133, 1), (19001, (-1))])], [(9, (0, [])), (134, (1, [(134, 1)])), (7048, ((-2), [])), (7049, ((-2), [])), (8069, (0, [])), (11396, ((-2), [])), (18545, (0, [(1000000, 1)])), (18547, (0, [(1000001, 1)])), (18588, (0, [(18547, 1)])), (18589, (2, [])), (18590, (0, [(1000002, 1)])), (18591, (0, [(18545, 1)])), (18592, (8, [])), (18593, (0, [(1000003, 1)])), (18594, (2, []))], some (false, (1, []))) as σ σ' τ o) : lw_ux_C a1 a2 a3 x.toInt σ σ' := by
  unfold lw_ux_C
  obtain ⟨hs, ht, hf, hr, hm, hw⟩ := hW
  have e1 : τ 19001 = a1 := by rw [ht 19001 (by decide) (by decide)]; exact h1
  have e2 : τ 19002 = a2 := by rw [ht 19002 (by decide) (by decide)]; exact h2
  have e3 : τ 19003 = a3 := by rw [ht 19003 (by decide) (by decide)]; exact h3
  rw [hx] at hr
  obtain ⟨y, hy, hv⟩ := hr
  cases hy
  replace hv : x.toInt = 1 + 0 := hv
  have f0 : 0 ≤ 0 + ((-1) * τ 18545 + (1 * τ 1000000 + 0)) := hf _ (List.Mem.head _)
  have f1 : 0 ≤ 0 + ((-1) * τ 18547 + (1 * τ 1000001 + 0)) := hf _ (List.Mem.tail _ (List.Mem.head _))
  have f2 : 0 ≤ (-1) + (1 * τ 133 + 0) := hf _ (List.Mem.tail _ (List.Mem.tail _ (List.Mem.head _)))
  have f3 : 0 ≤ 11 + ((-1) * τ 134 + 0) := hf _ (List.Mem.tail _ (List.Mem.tail _ (List.Mem.tail _ (List.Mem.head _))))
  have f4 : 0 ≤ (-3) + (1 * τ 19001 + 0) := hf _ (List.Mem.tail _ (List.Mem.tail _ (List.Mem.tail _ (List.Mem.tail _ (List.Mem.head _)))))
  have f5 : 0 ≤ 3 + ((-1) * τ 19001 + 0) := hf _ (List.Mem.tail _ (List.Mem.tail _ (List.Mem.tail _ (List.Mem.tail _ (List.Mem.tail _ (List.Mem.head _))))))
  have f6 : 0 ≤ (-1) + (1 * τ 19002 + 0) := hf _ (List.Mem.tail _ (List.Mem.tail _ (List.Mem.tail _ (List.Mem.tail _ (List.Mem.tail _ (List.Mem.tail _ (List.Mem.head _)))))))
  have f7 : 0 ≤ 1 + ((-1) * τ 19002 + 0) := hf _ (List.Mem.tail _ (List.Mem.tail _ (List.Mem.tail _ (List.Mem.tail _ (List.Mem.tail _ (List.Mem.tail _ (List.Mem.tail _ (List.Mem.head _))))))))
  have f8 : 0 ≤ (-1) + (1 * τ 19003 + 0) := hf _ (List.Mem.tail _ (List.Mem.tail _ (List.Mem.tail _ (List.Mem.tail _ (List.Mem.tail _ (List.Mem.tail _ (List.Mem.tail _ (List.Mem.tail _ (List.Mem.head _)))))))))
  have f9 : 0 ≤ 0 + (1 * τ 1000000 + ((-1) * τ 1000003 + 0)) := hf _ (List.Mem.tail _ (List.Mem.tail _ (List.Mem.tail _ (List.Mem.tail _ (List.Mem.tail _ (List.Mem.tail _ (List.Mem.tail _ (List.Mem.tail _ (List.Mem.tail _ (List.Mem.head _))))))))))
  have f10 : 0 ≤ 0 + ((-1) * τ 1000000 + (1 * τ 1000003 + 0)) := hf _ (List.Mem.tail _ (List.Mem.tail _ (List.Mem.tail _ (List.Mem.tail _ (List.Mem.tail _ (List.Mem.tail _ (List.Mem.tail _ (List.Mem.tail _ (List.Mem.tail _ (List.Mem.tail _ (List.Mem.head _)))))))))))
  have f11 : 0 ≤ 0 + (1 * τ 1000001 + ((-1) * τ 1000002 + 0)) := hf _ (List.Mem.tail _ (List.Mem.tail _ (List.Mem.tail _ (List.Mem.tail _ (List.Mem.tail _ (List.Mem.tail _ (List.Mem.tail _ (List.Mem.tail _ (List.Mem.tail _ (List.Mem.tail _ (List.Mem.tail _ (List.Mem.head _))))))))))))
  have f12 : 0 ≤ 0 + ((-1) * τ 1000001 + (1 * τ 1000002 + 0)) := hf _ (List.Mem.tail _ (List.Mem.tail _ (List.Mem.tail _ (List.Mem.tail _ (List.Mem.tail _ (List.Mem.tail _ (List.Mem.tail _ (List.Mem.tail _ (List.Mem.tail _ (List.Mem.tail _ (List.Mem.tail _ (List.Mem.tail _ (List.Mem.head _)))))))))))))
  have f13 : 0 ≤ (-1) + ((-1) * τ 19001 + (1 * τ 19002 + 0)) := hf _ (List.Mem.tail _ (List.Mem.tail _ (List.Mem.tail _ (List.Mem.tail _ (List.Mem.tail _ (List.Mem.tail _ (List.Mem.tail _ (List.Mem.tail _ (List.Mem.tail _ (List.Mem.tail _ (List.Mem.tail _ (List.Mem.tail _ (List.Mem.tail _ (List.Mem.head _))))))))))))))
  have f14 : 0 ≤ (-1) + (1 * τ 133 + ((-1) * τ 19002 + 0)) := hf _ (List.Mem.tail _ (List.Mem.tail _ (List.Mem.tail _ (List.Mem.tail _ (List.Mem.tail _ (List.Mem.tail _ (List.Mem.tail _ (List.Mem.tail _ (List.Mem.tail _ (List.Mem.tail _ (List.Mem.tail _ (List.Mem.tail _ (List.Mem.tail _ (List.Mem.tail _ (List.Mem.head _)))))))))))))))
  have f15 : 0 ≤ (-1) + (1 * τ 133 + ((-1) * τ 19001 + 0)) := hf _ (List.Mem.tail _ (List.Mem.tail _ (List.Mem.tail _ (List.Mem.tail _ (List.Mem.tail _ (List.Mem.tail _ (List.Mem.tail _ (List.Mem.tail _ (List.Mem.tail _ (List.Mem.tail _ (List.Mem.tail _ (List.Mem.tail _ (List.Mem.tail _ (List.Mem.tail _ (List.Mem.tail _ (List.Mem.head _))))))))))))))))
  have mX1 : σ' 18588 = σ 18547 := lw_id (hs 18547 (by decide)) (hm 18588 (by decide))
  have mY1 : σ' 18589 = 2 := (hm 18589 (by decide)).trans rfl
  have mO1 : σ' 18590 = 0 + (1 * τ 1000002 + 0) := hm 18590 (by decide)
  have mA1 : σ' 18547 = 0 + (1 * τ 1000001 + 0) := hm 18547 (by decide)
  unfold sy_or at ho1
  rw [mX1, mY1, show (2 : Int).toNat = 2 ^ 1 from rfl] at ho1
  have mX2 : σ' 18591 = σ 18545 := lw_id (hs 18545 (by decide)) (hm 18591 (by decide))
  have mY2 : σ' 18592 = 8 := (hm 18592 (by decide)).trans rfl
  have mO2 : σ' 18593 = 0 + (1 * τ 1000003 + 0) := hm 18593 (by decide)
  have mA2 : σ' 18545 = 0 + (1 * τ 1000000 + 0) := hm 18545 (by decide)
  unfold sy_or at ho2
  rw [mX2, mY2, show (8 : Int).toNat = 2 ^ 3 from rfl] at ho2
  have ti : lw_ti a1.toNat a2.toNat (fun p => σ (18544 + p)) (fun p => σ' (18544 + p)) := by
    rw [show a1.toNat = 3 by omega, show a2.toNat = 1 by omega]
    intro p hp
    rcases (show p = 0 ∨ p = 1 ∨ p = 2 ∨ p = 3 ∨ p = 4 ∨ p = 5 ∨ p = 6 ∨ p = 7 by omega) with rfl | rfl | rfl | rfl | rfl | rfl | rfl | rfl
    · show σ' 18544 = if (0 : Nat) = 3 then _ else if (0 : Nat) = 1 then _ else _
      rw [if_neg (by decide), if_neg (by decide)]
      exact lw_id (hs _ (by decide)) (hm _ (by decide))
    · show σ' 18545 = if (1 : Nat) = 3 then _ else if (1 : Nat) = 1 then _ else _
      rw [if_neg (by decide), if_pos rfl]
      show σ' 18545 = (((σ 18545).toNat ||| 2 ^ 3 : Nat) : Int)
      omega
    · show σ' 18546 = if (2 : Nat) = 3 then _ else if (2 : Nat) = 1 then _ else _
      rw [if_neg (by decide), if_neg (by decide)]
      exact lw_id (hs _ (by decide)) (hm _ (by decide))
    · show σ' 18547 = if (3 : Nat) = 3 then _ else _
      rw [if_pos rfl]
      show σ' 18547 = (((σ 18547).toNat ||| 2 ^ 1 : Nat) : Int)
      omega
    · show σ' 18548 = if (4 : Nat) = 3 then _ else if (4 : Nat) = 1 then _ else _
      rw [if_neg (by decide), if_neg (by decide)]
      exact lw_id (hs _ (by decide)) (hm _ (by decide))
    · show σ' 18549 = if (5 : Nat) = 3 then _ else if (5 : Nat) = 1 then _ else _
      rw [if_neg (by decide), if_neg (by decide)]
      exact lw_id (hs _ (by decide)) (hm _ (by decide))
    · show σ' 18550 = if (6 : Nat) = 3 then _ else if (6 : Nat) = 1 then _ else _
      rw [if_neg (by decide), if_neg (by decide)]
      exact lw_id (hs _ (by decide)) (hm _ (by decide))
    · show σ' 18551 = if (7 : Nat) = 3 then _ else if (7 : Nat) = 1 then _ else _
      rw [if_neg (by decide), if_neg (by decide)]
      exact lw_id (hs _ (by decide)) (hm _ (by decide))
  exact Or.inl ⟨by omega, by omega, by omega, by omega, by omega, Or.inl ⟨by omega, ti, (fun p hp => (by rcases (show p = 0 ∨ p = 1 ∨ p = 2 ∨ p = 3 ∨ p = 4 ∨ p = 5 ∨ p = 6 ∨ p = 7 by omega) with rfl | rfl | rfl | rfl | rfl | rfl | rfl | rfl <;> exact lw_id (hs _ (by decide)) (hm _ (by decide))))⟩⟩
set_option maxHeartbeats 1000000 in
theorem lw_ux_82 {as : List rv_A} {σ σ' : Nat → Int} {o : rv_O} {x : Int32} {a1 a2 a3 : Int} {τ : Nat → Int} (hx : o.1 = some (.inl x)) (h1 : lw_av as 1 = a1) (h2 : lw_av as 2 = a2) (h3 : lw_av as 3 = a3) (ho1 : sy_or (σ' 18588) (σ' 18589) (σ' 18590)) (ho2 : sy_or (σ' 18591) (σ' 18592) (σ' 18593)) (hW : lw_W ([(18545, 8, 255), (18547, 2, 255), (18590, 2, 255), (18593, 8, 255)], [(0, [(18545, (-1)), (1000000, 1)]), (0, [(18547, (-1)), (1000001, 1)]), ((-1), [(133, 1)]), (11, [(134, (-1))]), ((-3), [(19001, 1)]), (3, [(19001, (-1))]), ((-1), [(19002, 1)]), (1, [(19002, (-1))]), ((-1), [(19003, 1)]), (0, [(1000000, 1), (1000003, (-1))]), (0, [(1000000, (-1)), (1000003, 1)]), (0, [(1000001, 1), (1000002, (-1))]), (0, [(1000001, (-1)), (1000002, 1)]), ((-1), [(19001, 1), (19002, (-1))]), ((-1), [(133, 1), (19002, (-1))]), ((-1), [(133, 1), (19001, (-1))])], [(9, (0, [])), (134, (1, [(134, 1)])), (7048, ((-2), [])), (7049, ((-2), [])), (8069, (0, [])), (11396, ((-2), [])), (18545, (0, [(1000000, 1)])), (18547, (0, [(1000001, 1)])), (18588, (0, [(18547, 1)])), (18589, (2, [])), (18590, (0, [(1000002, 1)])), (18591, (0, [(18545, 1)])), (18592, (8, [])), (18593, (0, [(1000003, 1)])), (18594, (2, []))], some (false, (1, []))) as σ σ' τ o) : lw_ux_C a1 a2 a3 x.toInt σ σ' := by
  unfold lw_ux_C
  obtain ⟨hs, ht, hf, hr, hm, hw⟩ := hW
  have e1 : τ 19001 = a1 := by rw [ht 19001 (by decide) (by decide)]; exact h1
  have e2 : τ 19002 = a2 := by rw [ht 19002 (by decide) (by decide)]; exact h2
  have e3 : τ 19003 = a3 := by rw [ht 19003 (by decide) (by decide)]; exact h3
  rw [hx] at hr
  obtain ⟨y, hy, hv⟩ := hr
  cases hy
  replace hv : x.toInt = 1 + 0 := hv
  have f0 : 0 ≤ 0 + ((-1) * τ 18545 + (1 * τ 1000000 + 0)) := hf _ (List.Mem.head _)
  have f1 : 0 ≤ 0 + ((-1) * τ 18547 + (1 * τ 1000001 + 0)) := hf _ (List.Mem.tail _ (List.Mem.head _))
  have f2 : 0 ≤ (-1) + (1 * τ 133 + 0) := hf _ (List.Mem.tail _ (List.Mem.tail _ (List.Mem.head _)))
  have f3 : 0 ≤ 11 + ((-1) * τ 134 + 0) := hf _ (List.Mem.tail _ (List.Mem.tail _ (List.Mem.tail _ (List.Mem.head _))))
  have f4 : 0 ≤ (-3) + (1 * τ 19001 + 0) := hf _ (List.Mem.tail _ (List.Mem.tail _ (List.Mem.tail _ (List.Mem.tail _ (List.Mem.head _)))))
  have f5 : 0 ≤ 3 + ((-1) * τ 19001 + 0) := hf _ (List.Mem.tail _ (List.Mem.tail _ (List.Mem.tail _ (List.Mem.tail _ (List.Mem.tail _ (List.Mem.head _))))))
  have f6 : 0 ≤ (-1) + (1 * τ 19002 + 0) := hf _ (List.Mem.tail _ (List.Mem.tail _ (List.Mem.tail _ (List.Mem.tail _ (List.Mem.tail _ (List.Mem.tail _ (List.Mem.head _)))))))
  have f7 : 0 ≤ 1 + ((-1) * τ 19002 + 0) := hf _ (List.Mem.tail _ (List.Mem.tail _ (List.Mem.tail _ (List.Mem.tail _ (List.Mem.tail _ (List.Mem.tail _ (List.Mem.tail _ (List.Mem.head _))))))))
  have f8 : 0 ≤ (-1) + (1 * τ 19003 + 0) := hf _ (List.Mem.tail _ (List.Mem.tail _ (List.Mem.tail _ (List.Mem.tail _ (List.Mem.tail _ (List.Mem.tail _ (List.Mem.tail _ (List.Mem.tail _ (List.Mem.head _)))))))))
  have f9 : 0 ≤ 0 + (1 * τ 1000000 + ((-1) * τ 1000003 + 0)) := hf _ (List.Mem.tail _ (List.Mem.tail _ (List.Mem.tail _ (List.Mem.tail _ (List.Mem.tail _ (List.Mem.tail _ (List.Mem.tail _ (List.Mem.tail _ (List.Mem.tail _ (List.Mem.head _))))))))))
  have f10 : 0 ≤ 0 + ((-1) * τ 1000000 + (1 * τ 1000003 + 0)) := hf _ (List.Mem.tail _ (List.Mem.tail _ (List.Mem.tail _ (List.Mem.tail _ (List.Mem.tail _ (List.Mem.tail _ (List.Mem.tail _ (List.Mem.tail _ (List.Mem.tail _ (List.Mem.tail _ (List.Mem.head _)))))))))))
  have f11 : 0 ≤ 0 + (1 * τ 1000001 + ((-1) * τ 1000002 + 0)) := hf _ (List.Mem.tail _ (List.Mem.tail _ (List.Mem.tail _ (List.Mem.tail _ (List.Mem.tail _ (List.Mem.tail _ (List.Mem.tail _ (List.Mem.tail _ (List.Mem.tail _ (List.Mem.tail _ (List.Mem.tail _ (List.Mem.head _))))))))))))
  have f12 : 0 ≤ 0 + ((-1) * τ 1000001 + (1 * τ 1000002 + 0)) := hf _ (List.Mem.tail _ (List.Mem.tail _ (List.Mem.tail _ (List.Mem.tail _ (List.Mem.tail _ (List.Mem.tail _ (List.Mem.tail _ (List.Mem.tail _ (List.Mem.tail _ (List.Mem.tail _ (List.Mem.tail _ (List.Mem.tail _ (List.Mem.head _)))))))))))))
  have f13 : 0 ≤ (-1) + (1 * τ 19001 + ((-1) * τ 19002 + 0)) := hf _ (List.Mem.tail _ (List.Mem.tail _ (List.Mem.tail _ (List.Mem.tail _ (List.Mem.tail _ (List.Mem.tail _ (List.Mem.tail _ (List.Mem.tail _ (List.Mem.tail _ (List.Mem.tail _ (List.Mem.tail _ (List.Mem.tail _ (List.Mem.tail _ (List.Mem.head _))))))))))))))
  have f14 : 0 ≤ (-1) + (1 * τ 133 + ((-1) * τ 19002 + 0)) := hf _ (List.Mem.tail _ (List.Mem.tail _ (List.Mem.tail _ (List.Mem.tail _ (List.Mem.tail _ (List.Mem.tail _ (List.Mem.tail _ (List.Mem.tail _ (List.Mem.tail _ (List.Mem.tail _ (List.Mem.tail _ (List.Mem.tail _ (List.Mem.tail _ (List.Mem.tail _ (List.Mem.head _)))))))))))))))
  have f15 : 0 ≤ (-1) + (1 * τ 133 + ((-1) * τ 19001 + 0)) := hf _ (List.Mem.tail _ (List.Mem.tail _ (List.Mem.tail _ (List.Mem.tail _ (List.Mem.tail _ (List.Mem.tail _ (List.Mem.tail _ (List.Mem.tail _ (List.Mem.tail _ (List.Mem.tail _ (List.Mem.tail _ (List.Mem.tail _ (List.Mem.tail _ (List.Mem.tail _ (List.Mem.tail _ (List.Mem.head _))))))))))))))))
  have mX1 : σ' 18588 = σ 18547 := lw_id (hs 18547 (by decide)) (hm 18588 (by decide))
  have mY1 : σ' 18589 = 2 := (hm 18589 (by decide)).trans rfl
  have mO1 : σ' 18590 = 0 + (1 * τ 1000002 + 0) := hm 18590 (by decide)
  have mA1 : σ' 18547 = 0 + (1 * τ 1000001 + 0) := hm 18547 (by decide)
  unfold sy_or at ho1
  rw [mX1, mY1, show (2 : Int).toNat = 2 ^ 1 from rfl] at ho1
  have mX2 : σ' 18591 = σ 18545 := lw_id (hs 18545 (by decide)) (hm 18591 (by decide))
  have mY2 : σ' 18592 = 8 := (hm 18592 (by decide)).trans rfl
  have mO2 : σ' 18593 = 0 + (1 * τ 1000003 + 0) := hm 18593 (by decide)
  have mA2 : σ' 18545 = 0 + (1 * τ 1000000 + 0) := hm 18545 (by decide)
  unfold sy_or at ho2
  rw [mX2, mY2, show (8 : Int).toNat = 2 ^ 3 from rfl] at ho2
  have ti : lw_ti a1.toNat a2.toNat (fun p => σ (18544 + p)) (fun p => σ' (18544 + p)) := by
    rw [show a1.toNat = 3 by omega, show a2.toNat = 1 by omega]
    intro p hp
    rcases (show p = 0 ∨ p = 1 ∨ p = 2 ∨ p = 3 ∨ p = 4 ∨ p = 5 ∨ p = 6 ∨ p = 7 by omega) with rfl | rfl | rfl | rfl | rfl | rfl | rfl | rfl
    · show σ' 18544 = if (0 : Nat) = 3 then _ else if (0 : Nat) = 1 then _ else _
      rw [if_neg (by decide), if_neg (by decide)]
      exact lw_id (hs _ (by decide)) (hm _ (by decide))
    · show σ' 18545 = if (1 : Nat) = 3 then _ else if (1 : Nat) = 1 then _ else _
      rw [if_neg (by decide), if_pos rfl]
      show σ' 18545 = (((σ 18545).toNat ||| 2 ^ 3 : Nat) : Int)
      omega
    · show σ' 18546 = if (2 : Nat) = 3 then _ else if (2 : Nat) = 1 then _ else _
      rw [if_neg (by decide), if_neg (by decide)]
      exact lw_id (hs _ (by decide)) (hm _ (by decide))
    · show σ' 18547 = if (3 : Nat) = 3 then _ else _
      rw [if_pos rfl]
      show σ' 18547 = (((σ 18547).toNat ||| 2 ^ 1 : Nat) : Int)
      omega
    · show σ' 18548 = if (4 : Nat) = 3 then _ else if (4 : Nat) = 1 then _ else _
      rw [if_neg (by decide), if_neg (by decide)]
      exact lw_id (hs _ (by decide)) (hm _ (by decide))
    · show σ' 18549 = if (5 : Nat) = 3 then _ else if (5 : Nat) = 1 then _ else _
      rw [if_neg (by decide), if_neg (by decide)]
      exact lw_id (hs _ (by decide)) (hm _ (by decide))
    · show σ' 18550 = if (6 : Nat) = 3 then _ else if (6 : Nat) = 1 then _ else _
      rw [if_neg (by decide), if_neg (by decide)]
      exact lw_id (hs _ (by decide)) (hm _ (by decide))
    · show σ' 18551 = if (7 : Nat) = 3 then _ else if (7 : Nat) = 1 then _ else _
      rw [if_neg (by decide), if_neg (by decide)]
      exact lw_id (hs _ (by decide)) (hm _ (by decide))
  exact Or.inl ⟨by omega, by omega, by omega, by omega, by omega, Or.inl ⟨by omega, ti, (fun p hp => (by rcases (show p = 0 ∨ p = 1 ∨ p = 2 ∨ p = 3 ∨ p = 4 ∨ p = 5 ∨ p = 6 ∨ p = 7 by omega) with rfl | rfl | rfl | rfl | rfl | rfl | rfl | rfl <;> exact lw_id (hs _ (by decide)) (hm _ (by decide))))⟩⟩
set_option maxHeartbeats 1000000 in
theorem lw_ux_83 {as : List rv_A} {σ σ' : Nat → Int} {o : rv_O} {x : Int32} {a1 a2 a3 : Int} {τ : Nat → Int} (hx : o.1 = some (.inl x)) (h1 : lw_av as 1 = a1) (h2 : lw_av as 2 = a2) (h3 : lw_av as 3 = a3) (ho1 : sy_or (σ' 18588) (σ' 18589) (σ' 18590)) (ho2 : sy_or (σ' 18591) (σ' 18592) (σ' 18593)) (hW : lw_W ([(18538, 8, 255), (18539, 4, 255), (18590, 4, 255), (18593, 8, 255)], [(0, [(18538, (-1)), (1000000, 1)]), (0, [(18539, (-1)), (1000001, 1)]), ((-1), [(133, 1)]), (11, [(134, (-1))]), ((-3), [(19001, 1)]), (3, [(19001, (-1))]), ((-2), [(19002, 1)]), (2, [(19002, (-1))]), (0, [(19003, (-1))]), (0, [(1000000, 1), (1000003, (-1))]), (0, [(1000000, (-1)), (1000003, 1)]), (0, [(1000001, 1), (1000002, (-1))]), (0, [(1000001, (-1)), (1000002, 1)]), ((-1), [(19001, (-1)), (19002, 1)]), ((-1), [(133, 1), (19002, (-1))]), ((-1), [(133, 1), (19001, (-1))])], [(9, (0, [])), (134, (1, [(134, 1)])), (7048, ((-2), [])), (7049, ((-2), [])), (8069, (0, [])), (11396, ((-2), [])), (18538, (0, [(1000000, 1)])), (18539, (0, [(1000001, 1)])), (18588, (0, [(18539, 1)])), (18589, (4, [])), (18590, (0, [(1000002, 1)])), (18591, (0, [(18538, 1)])), (18592, (8, [])), (18593, (0, [(1000003, 1)])), (18594, (2, []))], some (false, (1, []))) as σ σ' τ o) : lw_ux_C a1 a2 a3 x.toInt σ σ' := by
  unfold lw_ux_C
  obtain ⟨hs, ht, hf, hr, hm, hw⟩ := hW
  have e1 : τ 19001 = a1 := by rw [ht 19001 (by decide) (by decide)]; exact h1
  have e2 : τ 19002 = a2 := by rw [ht 19002 (by decide) (by decide)]; exact h2
  have e3 : τ 19003 = a3 := by rw [ht 19003 (by decide) (by decide)]; exact h3
  rw [hx] at hr
  obtain ⟨y, hy, hv⟩ := hr
  cases hy
  replace hv : x.toInt = 1 + 0 := hv
  have f0 : 0 ≤ 0 + ((-1) * τ 18538 + (1 * τ 1000000 + 0)) := hf _ (List.Mem.head _)
  have f1 : 0 ≤ 0 + ((-1) * τ 18539 + (1 * τ 1000001 + 0)) := hf _ (List.Mem.tail _ (List.Mem.head _))
  have f2 : 0 ≤ (-1) + (1 * τ 133 + 0) := hf _ (List.Mem.tail _ (List.Mem.tail _ (List.Mem.head _)))
  have f3 : 0 ≤ 11 + ((-1) * τ 134 + 0) := hf _ (List.Mem.tail _ (List.Mem.tail _ (List.Mem.tail _ (List.Mem.head _))))
  have f4 : 0 ≤ (-3) + (1 * τ 19001 + 0) := hf _ (List.Mem.tail _ (List.Mem.tail _ (List.Mem.tail _ (List.Mem.tail _ (List.Mem.head _)))))
  have f5 : 0 ≤ 3 + ((-1) * τ 19001 + 0) := hf _ (List.Mem.tail _ (List.Mem.tail _ (List.Mem.tail _ (List.Mem.tail _ (List.Mem.tail _ (List.Mem.head _))))))
  have f6 : 0 ≤ (-2) + (1 * τ 19002 + 0) := hf _ (List.Mem.tail _ (List.Mem.tail _ (List.Mem.tail _ (List.Mem.tail _ (List.Mem.tail _ (List.Mem.tail _ (List.Mem.head _)))))))
  have f7 : 0 ≤ 2 + ((-1) * τ 19002 + 0) := hf _ (List.Mem.tail _ (List.Mem.tail _ (List.Mem.tail _ (List.Mem.tail _ (List.Mem.tail _ (List.Mem.tail _ (List.Mem.tail _ (List.Mem.head _))))))))
  have f8 : 0 ≤ 0 + ((-1) * τ 19003 + 0) := hf _ (List.Mem.tail _ (List.Mem.tail _ (List.Mem.tail _ (List.Mem.tail _ (List.Mem.tail _ (List.Mem.tail _ (List.Mem.tail _ (List.Mem.tail _ (List.Mem.head _)))))))))
  have f9 : 0 ≤ 0 + (1 * τ 1000000 + ((-1) * τ 1000003 + 0)) := hf _ (List.Mem.tail _ (List.Mem.tail _ (List.Mem.tail _ (List.Mem.tail _ (List.Mem.tail _ (List.Mem.tail _ (List.Mem.tail _ (List.Mem.tail _ (List.Mem.tail _ (List.Mem.head _))))))))))
  have f10 : 0 ≤ 0 + ((-1) * τ 1000000 + (1 * τ 1000003 + 0)) := hf _ (List.Mem.tail _ (List.Mem.tail _ (List.Mem.tail _ (List.Mem.tail _ (List.Mem.tail _ (List.Mem.tail _ (List.Mem.tail _ (List.Mem.tail _ (List.Mem.tail _ (List.Mem.tail _ (List.Mem.head _)))))))))))
  have f11 : 0 ≤ 0 + (1 * τ 1000001 + ((-1) * τ 1000002 + 0)) := hf _ (List.Mem.tail _ (List.Mem.tail _ (List.Mem.tail _ (List.Mem.tail _ (List.Mem.tail _ (List.Mem.tail _ (List.Mem.tail _ (List.Mem.tail _ (List.Mem.tail _ (List.Mem.tail _ (List.Mem.tail _ (List.Mem.head _))))))))))))
  have f12 : 0 ≤ 0 + ((-1) * τ 1000001 + (1 * τ 1000002 + 0)) := hf _ (List.Mem.tail _ (List.Mem.tail _ (List.Mem.tail _ (List.Mem.tail _ (List.Mem.tail _ (List.Mem.tail _ (List.Mem.tail _ (List.Mem.tail _ (List.Mem.tail _ (List.Mem.tail _ (List.Mem.tail _ (List.Mem.tail _ (List.Mem.head _)))))))))))))
  have f13 : 0 ≤ (-1) + ((-1) * τ 19001 + (1 * τ 19002 + 0)) := hf _ (List.Mem.tail _ (List.Mem.tail _ (List.Mem.tail _ (List.Mem.tail _ (List.Mem.tail _ (List.Mem.tail _ (List.Mem.tail _ (List.Mem.tail _ (List.Mem.tail _ (List.Mem.tail _ (List.Mem.tail _ (List.Mem.tail _ (List.Mem.tail _ (List.Mem.head _))))))))))))))
  have f14 : 0 ≤ (-1) + (1 * τ 133 + ((-1) * τ 19002 + 0)) := hf _ (List.Mem.tail _ (List.Mem.tail _ (List.Mem.tail _ (List.Mem.tail _ (List.Mem.tail _ (List.Mem.tail _ (List.Mem.tail _ (List.Mem.tail _ (List.Mem.tail _ (List.Mem.tail _ (List.Mem.tail _ (List.Mem.tail _ (List.Mem.tail _ (List.Mem.tail _ (List.Mem.head _)))))))))))))))
  have f15 : 0 ≤ (-1) + (1 * τ 133 + ((-1) * τ 19001 + 0)) := hf _ (List.Mem.tail _ (List.Mem.tail _ (List.Mem.tail _ (List.Mem.tail _ (List.Mem.tail _ (List.Mem.tail _ (List.Mem.tail _ (List.Mem.tail _ (List.Mem.tail _ (List.Mem.tail _ (List.Mem.tail _ (List.Mem.tail _ (List.Mem.tail _ (List.Mem.tail _ (List.Mem.tail _ (List.Mem.head _))))))))))))))))
  have mX1 : σ' 18588 = σ 18539 := lw_id (hs 18539 (by decide)) (hm 18588 (by decide))
  have mY1 : σ' 18589 = 4 := (hm 18589 (by decide)).trans rfl
  have mO1 : σ' 18590 = 0 + (1 * τ 1000002 + 0) := hm 18590 (by decide)
  have mA1 : σ' 18539 = 0 + (1 * τ 1000001 + 0) := hm 18539 (by decide)
  unfold sy_or at ho1
  rw [mX1, mY1, show (4 : Int).toNat = 2 ^ 2 from rfl] at ho1
  have mX2 : σ' 18591 = σ 18538 := lw_id (hs 18538 (by decide)) (hm 18591 (by decide))
  have mY2 : σ' 18592 = 8 := (hm 18592 (by decide)).trans rfl
  have mO2 : σ' 18593 = 0 + (1 * τ 1000003 + 0) := hm 18593 (by decide)
  have mA2 : σ' 18538 = 0 + (1 * τ 1000000 + 0) := hm 18538 (by decide)
  unfold sy_or at ho2
  rw [mX2, mY2, show (8 : Int).toNat = 2 ^ 3 from rfl] at ho2
  have ti : lw_ti a1.toNat a2.toNat (fun p => σ (18536 + p)) (fun p => σ' (18536 + p)) := by
    rw [show a1.toNat = 3 by omega, show a2.toNat = 2 by omega]
    intro p hp
    rcases (show p = 0 ∨ p = 1 ∨ p = 2 ∨ p = 3 ∨ p = 4 ∨ p = 5 ∨ p = 6 ∨ p = 7 by omega) with rfl | rfl | rfl | rfl | rfl | rfl | rfl | rfl
    · show σ' 18536 = if (0 : Nat) = 3 then _ else if (0 : Nat) = 2 then _ else _
      rw [if_neg (by decide), if_neg (by decide)]
      exact lw_id (hs _ (by decide)) (hm _ (by decide))
    · show σ' 18537 = if (1 : Nat) = 3 then _ else if (1 : Nat) = 2 then _ else _
      rw [if_neg (by decide), if_neg (by decide)]
      exact lw_id (hs _ (by decide)) (hm _ (by decide))
    · show σ' 18538 = if (2 : Nat) = 3 then _ else if (2 : Nat) = 2 then _ else _
      rw [if_neg (by decide), if_pos rfl]
      show σ' 18538 = (((σ 18538).toNat ||| 2 ^ 3 : Nat) : Int)
      omega
    · show σ' 18539 = if (3 : Nat) = 3 then _ else _
      rw [if_pos rfl]
      show σ' 18539 = (((σ 18539).toNat ||| 2 ^ 2 : Nat) : Int)
      omega
    · show σ' 18540 = if (4 : Nat) = 3 then _ else if (4 : Nat) = 2 then _ else _
      rw [if_neg (by decide), if_neg (by decide)]
      exact lw_id (hs _ (by decide)) (hm _ (by decide))
    · show σ' 18541 = if (5 : Nat) = 3 then _ else if (5 : Nat) = 2 then _ else _
      rw [if_neg (by decide), if_neg (by decide)]
      exact lw_id (hs _ (by decide)) (hm _ (by decide))
    · show σ' 18542 = if (6 : Nat) = 3 then _ else if (6 : Nat) = 2 then _ else _
      rw [if_neg (by decide), if_neg (by decide)]
      exact lw_id (hs _ (by decide)) (hm _ (by decide))
    · show σ' 18543 = if (7 : Nat) = 3 then _ else if (7 : Nat) = 2 then _ else _
      rw [if_neg (by decide), if_neg (by decide)]
      exact lw_id (hs _ (by decide)) (hm _ (by decide))
  exact Or.inl ⟨by omega, by omega, by omega, by omega, by omega, Or.inr ⟨by omega, ti, (fun p hp => (by rcases (show p = 0 ∨ p = 1 ∨ p = 2 ∨ p = 3 ∨ p = 4 ∨ p = 5 ∨ p = 6 ∨ p = 7 by omega) with rfl | rfl | rfl | rfl | rfl | rfl | rfl | rfl <;> exact lw_id (hs _ (by decide)) (hm _ (by decide))))⟩⟩
set_option maxHeartbeats 1000000 in
theorem lw_ux_84 {as : List rv_A} {σ σ' : Nat → Int} {o : rv_O} {x : Int32} {a1 a2 a3 : Int} {τ : Nat → Int} (hx : o.1 = some (.inl x)) (h1 : lw_av as 1 = a1) (h2 : lw_av as 2 = a2) (h3 : lw_av as 3 = a3) (ho1 : sy_or (σ' 18588) (σ' 18589) (σ' 18590)) (ho2 : sy_or (σ' 18591) (σ' 18592) (σ' 18593)) (hW : lw_W ([(18538, 8, 255), (18539, 4, 255), (18590, 4, 255), (18593, 8, 255)], [(0, [(18538, (-1)), (1000000, 1)]), (0, [(18539, (-1)), (1000001, 1)]), ((-1), [(133, 1)]), (11, [(134, (-1))]), ((-3), [(19001, 1)]), (3, [(19001, (-1))]), ((-2), [(19002, 1)]), (2, [(19002, (-1))]), (0, [(19003, (-1))]), (0, [(1000000, 1), (1000003, (-1))]), (0, [(1000000, (-1)), (1000003, 1)]), (0, [(1000001, 1), (1000002, (-1))]), (0, [(1000001, (-1)), (1000002, 1)]), ((-1), [(19001, 1), (19002, (-1))]), ((-1), [(133, 1), (19002, (-1))]), ((-1), [(133, 1), (19001, (-1))])], [(9, (0, [])), (134, (1, [(134, 1)])), (7048, ((-2), [])), (7049, ((-2), [])), (8069, (0, [])), (11396, ((-2), [])), (18538, (0, [(1000000, 1)])), (18539, (0, [(1000001, 1)])), (18588, (0, [(18539, 1)])), (18589, (4, [])), (18590, (0, [(1000002, 1)])), (18591, (0, [(18538, 1)])), (18592, (8, [])), (18593, (0, [(1000003, 1)])), (18594, (2, []))], some (false, (1, []))) as σ σ' τ o) : lw_ux_C a1 a2 a3 x.toInt σ σ' := by
  unfold lw_ux_C
  obtain ⟨hs, ht, hf, hr, hm, hw⟩ := hW
  have e1 : τ 19001 = a1 := by rw [ht 19001 (by decide) (by decide)]; exact h1
  have e2 : τ 19002 = a2 := by rw [ht 19002 (by decide) (by decide)]; exact h2
  have e3 : τ 19003 = a3 := by rw [ht 19003 (by decide) (by decide)]; exact h3
  rw [hx] at hr
  obtain ⟨y, hy, hv⟩ := hr
  cases hy
  replace hv : x.toInt = 1 + 0 := hv
  have f0 : 0 ≤ 0 + ((-1) * τ 18538 + (1 * τ 1000000 + 0)) := hf _ (List.Mem.head _)
  have f1 : 0 ≤ 0 + ((-1) * τ 18539 + (1 * τ 1000001 + 0)) := hf _ (List.Mem.tail _ (List.Mem.head _))
  have f2 : 0 ≤ (-1) + (1 * τ 133 + 0) := hf _ (List.Mem.tail _ (List.Mem.tail _ (List.Mem.head _)))
  have f3 : 0 ≤ 11 + ((-1) * τ 134 + 0) := hf _ (List.Mem.tail _ (List.Mem.tail _ (List.Mem.tail _ (List.Mem.head _))))
  have f4 : 0 ≤ (-3) + (1 * τ 19001 + 0) := hf _ (List.Mem.tail _ (List.Mem.tail _ (List.Mem.tail _ (List.Mem.tail _ (List.Mem.head _)))))
  have f5 : 0 ≤ 3 + ((-1) * τ 19001 + 0) := hf _ (List.Mem.tail _ (List.Mem.tail _ (List.Mem.tail _ (List.Mem.tail _ (List.Mem.tail _ (List.Mem.head _))))))
  have f6 : 0 ≤ (-2) + (1 * τ 19002 + 0) := hf _ (List.Mem.tail _ (List.Mem.tail _ (List.Mem.tail _ (List.Mem.tail _ (List.Mem.tail _ (List.Mem.tail _ (List.Mem.head _)))))))
  have f7 : 0 ≤ 2 + ((-1) * τ 19002 + 0) := hf _ (List.Mem.tail _ (List.Mem.tail _ (List.Mem.tail _ (List.Mem.tail _ (List.Mem.tail _ (List.Mem.tail _ (List.Mem.tail _ (List.Mem.head _))))))))
  have f8 : 0 ≤ 0 + ((-1) * τ 19003 + 0) := hf _ (List.Mem.tail _ (List.Mem.tail _ (List.Mem.tail _ (List.Mem.tail _ (List.Mem.tail _ (List.Mem.tail _ (List.Mem.tail _ (List.Mem.tail _ (List.Mem.head _)))))))))
  have f9 : 0 ≤ 0 + (1 * τ 1000000 + ((-1) * τ 1000003 + 0)) := hf _ (List.Mem.tail _ (List.Mem.tail _ (List.Mem.tail _ (List.Mem.tail _ (List.Mem.tail _ (List.Mem.tail _ (List.Mem.tail _ (List.Mem.tail _ (List.Mem.tail _ (List.Mem.head _))))))))))
  have f10 : 0 ≤ 0 + ((-1) * τ 1000000 + (1 * τ 1000003 + 0)) := hf _ (List.Mem.tail _ (List.Mem.tail _ (List.Mem.tail _ (List.Mem.tail _ (List.Mem.tail _ (List.Mem.tail _ (List.Mem.tail _ (List.Mem.tail _ (List.Mem.tail _ (List.Mem.tail _ (List.Mem.head _)))))))))))
  have f11 : 0 ≤ 0 + (1 * τ 1000001 + ((-1) * τ 1000002 + 0)) := hf _ (List.Mem.tail _ (List.Mem.tail _ (List.Mem.tail _ (List.Mem.tail _ (List.Mem.tail _ (List.Mem.tail _ (List.Mem.tail _ (List.Mem.tail _ (List.Mem.tail _ (List.Mem.tail _ (List.Mem.tail _ (List.Mem.head _))))))))))))
  have f12 : 0 ≤ 0 + ((-1) * τ 1000001 + (1 * τ 1000002 + 0)) := hf _ (List.Mem.tail _ (List.Mem.tail _ (List.Mem.tail _ (List.Mem.tail _ (List.Mem.tail _ (List.Mem.tail _ (List.Mem.tail _ (List.Mem.tail _ (List.Mem.tail _ (List.Mem.tail _ (List.Mem.tail _ (List.Mem.tail _ (List.Mem.head _)))))))))))))
  have f13 : 0 ≤ (-1) + (1 * τ 19001 + ((-1) * τ 19002 + 0)) := hf _ (List.Mem.tail _ (List.Mem.tail _ (List.Mem.tail _ (List.Mem.tail _ (List.Mem.tail _ (List.Mem.tail _ (List.Mem.tail _ (List.Mem.tail _ (List.Mem.tail _ (List.Mem.tail _ (List.Mem.tail _ (List.Mem.tail _ (List.Mem.tail _ (List.Mem.head _))))))))))))))
  have f14 : 0 ≤ (-1) + (1 * τ 133 + ((-1) * τ 19002 + 0)) := hf _ (List.Mem.tail _ (List.Mem.tail _ (List.Mem.tail _ (List.Mem.tail _ (List.Mem.tail _ (List.Mem.tail _ (List.Mem.tail _ (List.Mem.tail _ (List.Mem.tail _ (List.Mem.tail _ (List.Mem.tail _ (List.Mem.tail _ (List.Mem.tail _ (List.Mem.tail _ (List.Mem.head _)))))))))))))))
  have f15 : 0 ≤ (-1) + (1 * τ 133 + ((-1) * τ 19001 + 0)) := hf _ (List.Mem.tail _ (List.Mem.tail _ (List.Mem.tail _ (List.Mem.tail _ (List.Mem.tail _ (List.Mem.tail _ (List.Mem.tail _ (List.Mem.tail _ (List.Mem.tail _ (List.Mem.tail _ (List.Mem.tail _ (List.Mem.tail _ (List.Mem.tail _ (List.Mem.tail _ (List.Mem.tail _ (List.Mem.head _))))))))))))))))
  have mX1 : σ' 18588 = σ 18539 := lw_id (hs 18539 (by decide)) (hm 18588 (by decide))
  have mY1 : σ' 18589 = 4 := (hm 18589 (by decide)).trans rfl
  have mO1 : σ' 18590 = 0 + (1 * τ 1000002 + 0) := hm 18590 (by decide)
  have mA1 : σ' 18539 = 0 + (1 * τ 1000001 + 0) := hm 18539 (by decide)
  unfold sy_or at ho1
  rw [mX1, mY1, show (4 : Int).toNat = 2 ^ 2 from rfl] at ho1
  have mX2 : σ' 18591 = σ 18538 := lw_id (hs 18538 (by decide)) (hm 18591 (by decide))
  have mY2 : σ' 18592 = 8 := (hm 18592 (by decide)).trans rfl
  have mO2 : σ' 18593 = 0 + (1 * τ 1000003 + 0) := hm 18593 (by decide)
  have mA2 : σ' 18538 = 0 + (1 * τ 1000000 + 0) := hm 18538 (by decide)
  unfold sy_or at ho2
  rw [mX2, mY2, show (8 : Int).toNat = 2 ^ 3 from rfl] at ho2
  have ti : lw_ti a1.toNat a2.toNat (fun p => σ (18536 + p)) (fun p => σ' (18536 + p)) := by
    rw [show a1.toNat = 3 by omega, show a2.toNat = 2 by omega]
    intro p hp
    rcases (show p = 0 ∨ p = 1 ∨ p = 2 ∨ p = 3 ∨ p = 4 ∨ p = 5 ∨ p = 6 ∨ p = 7 by omega) with rfl | rfl | rfl | rfl | rfl | rfl | rfl | rfl
    · show σ' 18536 = if (0 : Nat) = 3 then _ else if (0 : Nat) = 2 then _ else _
      rw [if_neg (by decide), if_neg (by decide)]
      exact lw_id (hs _ (by decide)) (hm _ (by decide))
    · show σ' 18537 = if (1 : Nat) = 3 then _ else if (1 : Nat) = 2 then _ else _
      rw [if_neg (by decide), if_neg (by decide)]
      exact lw_id (hs _ (by decide)) (hm _ (by decide))
    · show σ' 18538 = if (2 : Nat) = 3 then _ else if (2 : Nat) = 2 then _ else _
      rw [if_neg (by decide), if_pos rfl]
      show σ' 18538 = (((σ 18538).toNat ||| 2 ^ 3 : Nat) : Int)
      omega
    · show σ' 18539 = if (3 : Nat) = 3 then _ else _
      rw [if_pos rfl]
      show σ' 18539 = (((σ 18539).toNat ||| 2 ^ 2 : Nat) : Int)
      omega
    · show σ' 18540 = if (4 : Nat) = 3 then _ else if (4 : Nat) = 2 then _ else _
      rw [if_neg (by decide), if_neg (by decide)]
      exact lw_id (hs _ (by decide)) (hm _ (by decide))
    · show σ' 18541 = if (5 : Nat) = 3 then _ else if (5 : Nat) = 2 then _ else _
      rw [if_neg (by decide), if_neg (by decide)]
      exact lw_id (hs _ (by decide)) (hm _ (by decide))
    · show σ' 18542 = if (6 : Nat) = 3 then _ else if (6 : Nat) = 2 then _ else _
      rw [if_neg (by decide), if_neg (by decide)]
      exact lw_id (hs _ (by decide)) (hm _ (by decide))
    · show σ' 18543 = if (7 : Nat) = 3 then _ else if (7 : Nat) = 2 then _ else _
      rw [if_neg (by decide), if_neg (by decide)]
      exact lw_id (hs _ (by decide)) (hm _ (by decide))
  exact Or.inl ⟨by omega, by omega, by omega, by omega, by omega, Or.inr ⟨by omega, ti, (fun p hp => (by rcases (show p = 0 ∨ p = 1 ∨ p = 2 ∨ p = 3 ∨ p = 4 ∨ p = 5 ∨ p = 6 ∨ p = 7 by omega) with rfl | rfl | rfl | rfl | rfl | rfl | rfl | rfl <;> exact lw_id (hs _ (by decide)) (hm _ (by decide))))⟩⟩
set_option maxHeartbeats 1000000 in
theorem lw_ux_85 {as : List rv_A} {σ σ' : Nat → Int} {o : rv_O} {x : Int32} {a1 a2 a3 : Int} {τ : Nat → Int} (hx : o.1 = some (.inl x)) (h1 : lw_av as 1 = a1) (h2 : lw_av as 2 = a2) (h3 : lw_av as 3 = a3) (ho1 : sy_or (σ' 18588) (σ' 18589) (σ' 18590)) (ho2 : sy_or (σ' 18591) (σ' 18592) (σ' 18593)) (hW : lw_W ([(18546, 8, 255), (18547, 4, 255), (18590, 4, 255), (18593, 8, 255)], [(0, [(18546, (-1)), (1000000, 1)]), (0, [(18547, (-1)), (1000001, 1)]), ((-1), [(133, 1)]), (11, [(134, (-1))]), ((-3), [(19001, 1)]), (3, [(19001, (-1))]), ((-2), [(19002, 1)]), (2, [(19002, (-1))]), ((-1), [(19003, 1)]), (0, [(1000000, 1), (1000003, (-1))]), (0, [(1000000, (-1)), (1000003, 1)]), (0, [(1000001, 1), (1000002, (-1))]), (0, [(1000001, (-1)), (1000002, 1)]), ((-1), [(19001, (-1)), (19002, 1)]), ((-1), [(133, 1), (19002, (-1))]), ((-1), [(133, 1), (19001, (-1))])], [(9, (0, [])), (134, (1, [(134, 1)])), (7048, ((-2), [])), (7049, ((-2), [])), (8069, (0, [])), (11396, ((-2), [])), (18546, (0, [(1000000, 1)])), (18547, (0, [(1000001, 1)])), (18588, (0, [(18547, 1)])), (18589, (4, [])), (18590, (0, [(1000002, 1)])), (18591, (0, [(18546, 1)])), (18592, (8, [])), (18593, (0, [(1000003, 1)])), (18594, (2, []))], some (false, (1, []))) as σ σ' τ o) : lw_ux_C a1 a2 a3 x.toInt σ σ' := by
  unfold lw_ux_C
  obtain ⟨hs, ht, hf, hr, hm, hw⟩ := hW
  have e1 : τ 19001 = a1 := by rw [ht 19001 (by decide) (by decide)]; exact h1
  have e2 : τ 19002 = a2 := by rw [ht 19002 (by decide) (by decide)]; exact h2
  have e3 : τ 19003 = a3 := by rw [ht 19003 (by decide) (by decide)]; exact h3
  rw [hx] at hr
  obtain ⟨y, hy, hv⟩ := hr
  cases hy
  replace hv : x.toInt = 1 + 0 := hv
  have f0 : 0 ≤ 0 + ((-1) * τ 18546 + (1 * τ 1000000 + 0)) := hf _ (List.Mem.head _)
  have f1 : 0 ≤ 0 + ((-1) * τ 18547 + (1 * τ 1000001 + 0)) := hf _ (List.Mem.tail _ (List.Mem.head _))
  have f2 : 0 ≤ (-1) + (1 * τ 133 + 0) := hf _ (List.Mem.tail _ (List.Mem.tail _ (List.Mem.head _)))
  have f3 : 0 ≤ 11 + ((-1) * τ 134 + 0) := hf _ (List.Mem.tail _ (List.Mem.tail _ (List.Mem.tail _ (List.Mem.head _))))
  have f4 : 0 ≤ (-3) + (1 * τ 19001 + 0) := hf _ (List.Mem.tail _ (List.Mem.tail _ (List.Mem.tail _ (List.Mem.tail _ (List.Mem.head _)))))
  have f5 : 0 ≤ 3 + ((-1) * τ 19001 + 0) := hf _ (List.Mem.tail _ (List.Mem.tail _ (List.Mem.tail _ (List.Mem.tail _ (List.Mem.tail _ (List.Mem.head _))))))
  have f6 : 0 ≤ (-2) + (1 * τ 19002 + 0) := hf _ (List.Mem.tail _ (List.Mem.tail _ (List.Mem.tail _ (List.Mem.tail _ (List.Mem.tail _ (List.Mem.tail _ (List.Mem.head _)))))))
  have f7 : 0 ≤ 2 + ((-1) * τ 19002 + 0) := hf _ (List.Mem.tail _ (List.Mem.tail _ (List.Mem.tail _ (List.Mem.tail _ (List.Mem.tail _ (List.Mem.tail _ (List.Mem.tail _ (List.Mem.head _))))))))
  have f8 : 0 ≤ (-1) + (1 * τ 19003 + 0) := hf _ (List.Mem.tail _ (List.Mem.tail _ (List.Mem.tail _ (List.Mem.tail _ (List.Mem.tail _ (List.Mem.tail _ (List.Mem.tail _ (List.Mem.tail _ (List.Mem.head _)))))))))
  have f9 : 0 ≤ 0 + (1 * τ 1000000 + ((-1) * τ 1000003 + 0)) := hf _ (List.Mem.tail _ (List.Mem.tail _ (List.Mem.tail _ (List.Mem.tail _ (List.Mem.tail _ (List.Mem.tail _ (List.Mem.tail _ (List.Mem.tail _ (List.Mem.tail _ (List.Mem.head _))))))))))
  have f10 : 0 ≤ 0 + ((-1) * τ 1000000 + (1 * τ 1000003 + 0)) := hf _ (List.Mem.tail _ (List.Mem.tail _ (List.Mem.tail _ (List.Mem.tail _ (List.Mem.tail _ (List.Mem.tail _ (List.Mem.tail _ (List.Mem.tail _ (List.Mem.tail _ (List.Mem.tail _ (List.Mem.head _)))))))))))
  have f11 : 0 ≤ 0 + (1 * τ 1000001 + ((-1) * τ 1000002 + 0)) := hf _ (List.Mem.tail _ (List.Mem.tail _ (List.Mem.tail _ (List.Mem.tail _ (List.Mem.tail _ (List.Mem.tail _ (List.Mem.tail _ (List.Mem.tail _ (List.Mem.tail _ (List.Mem.tail _ (List.Mem.tail _ (List.Mem.head _))))))))))))
  have f12 : 0 ≤ 0 + ((-1) * τ 1000001 + (1 * τ 1000002 + 0)) := hf _ (List.Mem.tail _ (List.Mem.tail _ (List.Mem.tail _ (List.Mem.tail _ (List.Mem.tail _ (List.Mem.tail _ (List.Mem.tail _ (List.Mem.tail _ (List.Mem.tail _ (List.Mem.tail _ (List.Mem.tail _ (List.Mem.tail _ (List.Mem.head _)))))))))))))
  have f13 : 0 ≤ (-1) + ((-1) * τ 19001 + (1 * τ 19002 + 0)) := hf _ (List.Mem.tail _ (List.Mem.tail _ (List.Mem.tail _ (List.Mem.tail _ (List.Mem.tail _ (List.Mem.tail _ (List.Mem.tail _ (List.Mem.tail _ (List.Mem.tail _ (List.Mem.tail _ (List.Mem.tail _ (List.Mem.tail _ (List.Mem.tail _ (List.Mem.head _))))))))))))))
  have f14 : 0 ≤ (-1) + (1 * τ 133 + ((-1) * τ 19002 + 0)) := hf _ (List.Mem.tail _ (List.Mem.tail _ (List.Mem.tail _ (List.Mem.tail _ (List.Mem.tail _ (List.Mem.tail _ (List.Mem.tail _ (List.Mem.tail _ (List.Mem.tail _ (List.Mem.tail _ (List.Mem.tail _ (List.Mem.tail _ (List.Mem.tail _ (List.Mem.tail _ (List.Mem.head _)))))))))))))))
  have f15 : 0 ≤ (-1) + (1 * τ 133 + ((-1) * τ 19001 + 0)) := hf _ (List.Mem.tail _ (List.Mem.tail _ (List.Mem.tail _ (List.Mem.tail _ (List.Mem.tail _ (List.Mem.tail _ (List.Mem.tail _ (List.Mem.tail _ (List.Mem.tail _ (List.Mem.tail _ (List.Mem.tail _ (List.Mem.tail _ (List.Mem.tail _ (List.Mem.tail _ (List.Mem.tail _ (List.Mem.head _))))))))))))))))
  have mX1 : σ' 18588 = σ 18547 := lw_id (hs 18547 (by decide)) (hm 18588 (by decide))
  have mY1 : σ' 18589 = 4 := (hm 18589 (by decide)).trans rfl
  have mO1 : σ' 18590 = 0 + (1 * τ 1000002 + 0) := hm 18590 (by decide)
  have mA1 : σ' 18547 = 0 + (1 * τ 1000001 + 0) := hm 18547 (by decide)
  unfold sy_or at ho1
  rw [mX1, mY1, show (4 : Int).toNat = 2 ^ 2 from rfl] at ho1
  have mX2 : σ' 18591 = σ 18546 := lw_id (hs 18546 (by decide)) (hm 18591 (by decide))
  have mY2 : σ' 18592 = 8 := (hm 18592 (by decide)).trans rfl
  have mO2 : σ' 18593 = 0 + (1 * τ 1000003 + 0) := hm 18593 (by decide)
  have mA2 : σ' 18546 = 0 + (1 * τ 1000000 + 0) := hm 18546 (by decide)
  unfold sy_or at ho2
  rw [mX2, mY2, show (8 : Int).toNat = 2 ^ 3 from rfl] at ho2
  have ti : lw_ti a1.toNat a2.toNat (fun p => σ (18544 + p)) (fun p => σ' (18544 + p)) := by
    rw [show a1.toNat = 3 by omega, show a2.toNat = 2 by omega]
    intro p hp
    rcases (show p = 0 ∨ p = 1 ∨ p = 2 ∨ p = 3 ∨ p = 4 ∨ p = 5 ∨ p = 6 ∨ p = 7 by omega) with rfl | rfl | rfl | rfl | rfl | rfl | rfl | rfl
    · show σ' 18544 = if (0 : Nat) = 3 then _ else if (0 : Nat) = 2 then _ else _
      rw [if_neg (by decide), if_neg (by decide)]
      exact lw_id (hs _ (by decide)) (hm _ (by decide))
    · show σ' 18545 = if (1 : Nat) = 3 then _ else if (1 : Nat) = 2 then _ else _
      rw [if_neg (by decide), if_neg (by decide)]
      exact lw_id (hs _ (by decide)) (hm _ (by decide))
    · show σ' 18546 = if (2 : Nat) = 3 then _ else if (2 : Nat) = 2 then _ else _
      rw [if_neg (by decide), if_pos rfl]
      show σ' 18546 = (((σ 18546).toNat ||| 2 ^ 3 : Nat) : Int)
      omega
    · show σ' 18547 = if (3 : Nat) = 3 then _ else _
      rw [if_pos rfl]
      show σ' 18547 = (((σ 18547).toNat ||| 2 ^ 2 : Nat) : Int)
      omega
    · show σ' 18548 = if (4 : Nat) = 3 then _ else if (4 : Nat) = 2 then _ else _
      rw [if_neg (by decide), if_neg (by decide)]
      exact lw_id (hs _ (by decide)) (hm _ (by decide))
    · show σ' 18549 = if (5 : Nat) = 3 then _ else if (5 : Nat) = 2 then _ else _
      rw [if_neg (by decide), if_neg (by decide)]
      exact lw_id (hs _ (by decide)) (hm _ (by decide))
    · show σ' 18550 = if (6 : Nat) = 3 then _ else if (6 : Nat) = 2 then _ else _
      rw [if_neg (by decide), if_neg (by decide)]
      exact lw_id (hs _ (by decide)) (hm _ (by decide))
    · show σ' 18551 = if (7 : Nat) = 3 then _ else if (7 : Nat) = 2 then _ else _
      rw [if_neg (by decide), if_neg (by decide)]
      exact lw_id (hs _ (by decide)) (hm _ (by decide))
  exact Or.inl ⟨by omega, by omega, by omega, by omega, by omega, Or.inl ⟨by omega, ti, (fun p hp => (by rcases (show p = 0 ∨ p = 1 ∨ p = 2 ∨ p = 3 ∨ p = 4 ∨ p = 5 ∨ p = 6 ∨ p = 7 by omega) with rfl | rfl | rfl | rfl | rfl | rfl | rfl | rfl <;> exact lw_id (hs _ (by decide)) (hm _ (by decide))))⟩⟩
set_option maxHeartbeats 1000000 in
theorem lw_ux_86 {as : List rv_A} {σ σ' : Nat → Int} {o : rv_O} {x : Int32} {a1 a2 a3 : Int} {τ : Nat → Int} (hx : o.1 = some (.inl x)) (h1 : lw_av as 1 = a1) (h2 : lw_av as 2 = a2) (h3 : lw_av as 3 = a3) (ho1 : sy_or (σ' 18588) (σ' 18589) (σ' 18590)) (ho2 : sy_or (σ' 18591) (σ' 18592) (σ' 18593)) (hW : lw_W ([(18546, 8, 255), (18547, 4, 255), (18590, 4, 255), (18593, 8, 255)], [(0, [(18546, (-1)), (1000000, 1)]), (0, [(18547, (-1)), (1000001, 1)]), ((-1), [(133, 1)]), (11, [(134, (-1))]), ((-3), [(19001, 1)]), (3, [(19001, (-1))]), ((-2), [(19002, 1)]), (2, [(19002, (-1))]), ((-1), [(19003, 1)]), (0, [(1000000, 1), (1000003, (-1))]), (0, [(1000000, (-1)), (1000003, 1)]), (0, [(1000001, 1), (1000002, (-1))]), (0, [(1000001, (-1)), (1000002, 1)]), ((-1), [(19001, 1), (19002, (-1))]), ((-1), [(133, 1), (19002, (-1))]), ((-1), [(133, 1), (19001, (-1))])], [(9, (0, [])), (134, (1, [(134, 1)])), (7048, ((-2), [])), (7049, ((-2), [])), (8069, (0, [])), (11396, ((-2), [])), (18546, (0, [(1000000, 1)])), (18547, (0, [(1000001, 1)])), (18588, (0, [(18547, 1)])), (18589, (4, [])), (18590, (0, [(1000002, 1)])), (18591, (0, [(18546, 1)])), (18592, (8, [])), (18593, (0, [(1000003, 1)])), (18594, (2, []))], some (false, (1, []))) as σ σ' τ o) : lw_ux_C a1 a2 a3 x.toInt σ σ' := by
  unfold lw_ux_C
  obtain ⟨hs, ht, hf, hr, hm, hw⟩ := hW
  have e1 : τ 19001 = a1 := by rw [ht 19001 (by decide) (by decide)]; exact h1
  have e2 : τ 19002 = a2 := by rw [ht 19002 (by decide) (by decide)]; exact h2
  have e3 : τ 19003 = a3 := by rw [ht 19003 (by decide) (by decide)]; exact h3
  rw [hx] at hr
  obtain ⟨y, hy, hv⟩ := hr
  cases hy
  replace hv : x.toInt = 1 + 0 := hv
  have f0 : 0 ≤ 0 + ((-1) * τ 18546 + (1 * τ 1000000 + 0)) := hf _ (List.Mem.head _)
  have f1 : 0 ≤ 0 + ((-1) * τ 18547 + (1 * τ 1000001 + 0)) := hf _ (List.Mem.tail _ (List.Mem.head _))
  have f2 : 0 ≤ (-1) + (1 * τ 133 + 0) := hf _ (List.Mem.tail _ (List.Mem.tail _ (List.Mem.head _)))
  have f3 : 0 ≤ 11 + ((-1) * τ 134 + 0) := hf _ (List.Mem.tail _ (List.Mem.tail _ (List.Mem.tail _ (List.Mem.head _))))
  have f4 : 0 ≤ (-3) + (1 * τ 19001 + 0) := hf _ (List.Mem.tail _ (List.Mem.tail _ (List.Mem.tail _ (List.Mem.tail _ (List.Mem.head _)))))
  have f5 : 0 ≤ 3 + ((-1) * τ 19001 + 0) := hf _ (List.Mem.tail _ (List.Mem.tail _ (List.Mem.tail _ (List.Mem.tail _ (List.Mem.tail _ (List.Mem.head _))))))
  have f6 : 0 ≤ (-2) + (1 * τ 19002 + 0) := hf _ (List.Mem.tail _ (List.Mem.tail _ (List.Mem.tail _ (List.Mem.tail _ (List.Mem.tail _ (List.Mem.tail _ (List.Mem.head _)))))))
  have f7 : 0 ≤ 2 + ((-1) * τ 19002 + 0) := hf _ (List.Mem.tail _ (List.Mem.tail _ (List.Mem.tail _ (List.Mem.tail _ (List.Mem.tail _ (List.Mem.tail _ (List.Mem.tail _ (List.Mem.head _))))))))
  have f8 : 0 ≤ (-1) + (1 * τ 19003 + 0) := hf _ (List.Mem.tail _ (List.Mem.tail _ (List.Mem.tail _ (List.Mem.tail _ (List.Mem.tail _ (List.Mem.tail _ (List.Mem.tail _ (List.Mem.tail _ (List.Mem.head _)))))))))
  have f9 : 0 ≤ 0 + (1 * τ 1000000 + ((-1) * τ 1000003 + 0)) := hf _ (List.Mem.tail _ (List.Mem.tail _ (List.Mem.tail _ (List.Mem.tail _ (List.Mem.tail _ (List.Mem.tail _ (List.Mem.tail _ (List.Mem.tail _ (List.Mem.tail _ (List.Mem.head _))))))))))
  have f10 : 0 ≤ 0 + ((-1) * τ 1000000 + (1 * τ 1000003 + 0)) := hf _ (List.Mem.tail _ (List.Mem.tail _ (List.Mem.tail _ (List.Mem.tail _ (List.Mem.tail _ (List.Mem.tail _ (List.Mem.tail _ (List.Mem.tail _ (List.Mem.tail _ (List.Mem.tail _ (List.Mem.head _)))))))))))
  have f11 : 0 ≤ 0 + (1 * τ 1000001 + ((-1) * τ 1000002 + 0)) := hf _ (List.Mem.tail _ (List.Mem.tail _ (List.Mem.tail _ (List.Mem.tail _ (List.Mem.tail _ (List.Mem.tail _ (List.Mem.tail _ (List.Mem.tail _ (List.Mem.tail _ (List.Mem.tail _ (List.Mem.tail _ (List.Mem.head _))))))))))))
  have f12 : 0 ≤ 0 + ((-1) * τ 1000001 + (1 * τ 1000002 + 0)) := hf _ (List.Mem.tail _ (List.Mem.tail _ (List.Mem.tail _ (List.Mem.tail _ (List.Mem.tail _ (List.Mem.tail _ (List.Mem.tail _ (List.Mem.tail _ (List.Mem.tail _ (List.Mem.tail _ (List.Mem.tail _ (List.Mem.tail _ (List.Mem.head _)))))))))))))
  have f13 : 0 ≤ (-1) + (1 * τ 19001 + ((-1) * τ 19002 + 0)) := hf _ (List.Mem.tail _ (List.Mem.tail _ (List.Mem.tail _ (List.Mem.tail _ (List.Mem.tail _ (List.Mem.tail _ (List.Mem.tail _ (List.Mem.tail _ (List.Mem.tail _ (List.Mem.tail _ (List.Mem.tail _ (List.Mem.tail _ (List.Mem.tail _ (List.Mem.head _))))))))))))))
  have f14 : 0 ≤ (-1) + (1 * τ 133 + ((-1) * τ 19002 + 0)) := hf _ (List.Mem.tail _ (List.Mem.tail _ (List.Mem.tail _ (List.Mem.tail _ (List.Mem.tail _ (List.Mem.tail _ (List.Mem.tail _ (List.Mem.tail _ (List.Mem.tail _ (List.Mem.tail _ (List.Mem.tail _ (List.Mem.tail _ (List.Mem.tail _ (List.Mem.tail _ (List.Mem.head _)))))))))))))))
  have f15 : 0 ≤ (-1) + (1 * τ 133 + ((-1) * τ 19001 + 0)) := hf _ (List.Mem.tail _ (List.Mem.tail _ (List.Mem.tail _ (List.Mem.tail _ (List.Mem.tail _ (List.Mem.tail _ (List.Mem.tail _ (List.Mem.tail _ (List.Mem.tail _ (List.Mem.tail _ (List.Mem.tail _ (List.Mem.tail _ (List.Mem.tail _ (List.Mem.tail _ (List.Mem.tail _ (List.Mem.head _))))))))))))))))
  have mX1 : σ' 18588 = σ 18547 := lw_id (hs 18547 (by decide)) (hm 18588 (by decide))
  have mY1 : σ' 18589 = 4 := (hm 18589 (by decide)).trans rfl
  have mO1 : σ' 18590 = 0 + (1 * τ 1000002 + 0) := hm 18590 (by decide)
  have mA1 : σ' 18547 = 0 + (1 * τ 1000001 + 0) := hm 18547 (by decide)
  unfold sy_or at ho1
  rw [mX1, mY1, show (4 : Int).toNat = 2 ^ 2 from rfl] at ho1
  have mX2 : σ' 18591 = σ 18546 := lw_id (hs 18546 (by decide)) (hm 18591 (by decide))
  have mY2 : σ' 18592 = 8 := (hm 18592 (by decide)).trans rfl
  have mO2 : σ' 18593 = 0 + (1 * τ 1000003 + 0) := hm 18593 (by decide)
  have mA2 : σ' 18546 = 0 + (1 * τ 1000000 + 0) := hm 18546 (by decide)
  unfold sy_or at ho2
  rw [mX2, mY2, show (8 : Int).toNat = 2 ^ 3 from rfl] at ho2
  have ti : lw_ti a1.toNat a2.toNat (fun p => σ (18544 + p)) (fun p => σ' (18544 + p)) := by
    rw [show a1.toNat = 3 by omega, show a2.toNat = 2 by omega]
    intro p hp
    rcases (show p = 0 ∨ p = 1 ∨ p = 2 ∨ p = 3 ∨ p = 4 ∨ p = 5 ∨ p = 6 ∨ p = 7 by omega) with rfl | rfl | rfl | rfl | rfl | rfl | rfl | rfl
    · show σ' 18544 = if (0 : Nat) = 3 then _ else if (0 : Nat) = 2 then _ else _
      rw [if_neg (by decide), if_neg (by decide)]
      exact lw_id (hs _ (by decide)) (hm _ (by decide))
    · show σ' 18545 = if (1 : Nat) = 3 then _ else if (1 : Nat) = 2 then _ else _
      rw [if_neg (by decide), if_neg (by decide)]
      exact lw_id (hs _ (by decide)) (hm _ (by decide))
    · show σ' 18546 = if (2 : Nat) = 3 then _ else if (2 : Nat) = 2 then _ else _
      rw [if_neg (by decide), if_pos rfl]
      show σ' 18546 = (((σ 18546).toNat ||| 2 ^ 3 : Nat) : Int)
      omega
    · show σ' 18547 = if (3 : Nat) = 3 then _ else _
      rw [if_pos rfl]
      show σ' 18547 = (((σ 18547).toNat ||| 2 ^ 2 : Nat) : Int)
      omega
    · show σ' 18548 = if (4 : Nat) = 3 then _ else if (4 : Nat) = 2 then _ else _
      rw [if_neg (by decide), if_neg (by decide)]
      exact lw_id (hs _ (by decide)) (hm _ (by decide))
    · show σ' 18549 = if (5 : Nat) = 3 then _ else if (5 : Nat) = 2 then _ else _
      rw [if_neg (by decide), if_neg (by decide)]
      exact lw_id (hs _ (by decide)) (hm _ (by decide))
    · show σ' 18550 = if (6 : Nat) = 3 then _ else if (6 : Nat) = 2 then _ else _
      rw [if_neg (by decide), if_neg (by decide)]
      exact lw_id (hs _ (by decide)) (hm _ (by decide))
    · show σ' 18551 = if (7 : Nat) = 3 then _ else if (7 : Nat) = 2 then _ else _
      rw [if_neg (by decide), if_neg (by decide)]
      exact lw_id (hs _ (by decide)) (hm _ (by decide))
  exact Or.inl ⟨by omega, by omega, by omega, by omega, by omega, Or.inl ⟨by omega, ti, (fun p hp => (by rcases (show p = 0 ∨ p = 1 ∨ p = 2 ∨ p = 3 ∨ p = 4 ∨ p = 5 ∨ p = 6 ∨ p = 7 by omega) with rfl | rfl | rfl | rfl | rfl | rfl | rfl | rfl <;> exact lw_id (hs _ (by decide)) (hm _ (by decide))))⟩⟩
set_option maxHeartbeats 1000000 in
theorem lw_ux_87 {as : List rv_A} {σ σ' : Nat → Int} {o : rv_O} {x : Int32} {a1 a2 a3 : Int} {τ : Nat → Int} (hx : o.1 = some (.inl x)) (h1 : lw_av as 1 = a1) (h2 : lw_av as 2 = a2) (h3 : lw_av as 3 = a3) (ho1 : sy_or (σ' 18588) (σ' 18589) (σ' 18590)) (ho2 : sy_or (σ' 18591) (σ' 18592) (σ' 18593)) (hW : lw_W ([(18539, 8, 255), (18590, 8, 255), (18591, 8, 255), (18593, 8, 255)], [(0, [(18539, (-1)), (1000000, 1)]), ((-1), [(133, 1)]), (11, [(134, (-1))]), ((-3), [(19001, 1)]), (3, [(19001, (-1))]), ((-3), [(19002, 1)]), (3, [(19002, (-1))]), (0, [(19003, (-1))]), (0, [(1000000, 1), (1000001, (-1))]), (0, [(1000000, 1), (1000003, (-1))]), (0, [(1000000, (-1)), (1000003, 1)]), ((-1), [(19001, (-1)), (19002, 1)]), ((-1), [(133, 1), (19002, (-1))]), ((-1), [(133, 1), (19001, (-1))])], [(9, (0, [])), (134, (1, [(134, 1)])), (7048, ((-2), [])), (7049, ((-2), [])), (8069, (0, [])), (11396, ((-2), [])), (18539, (0, [(1000000, 1)])), (18588, (0, [(18539, 1)])), (18589, (8, [])), (18590, (0, [(1000001, 1)])), (18591, (0, [(1000002, 1)])), (18592, (8, [])), (18593, (0, [(1000003, 1)])), (18594, (2, []))], some (false, (1, []))) as σ σ' τ o) : lw_ux_C a1 a2 a3 x.toInt σ σ' := by
  unfold lw_ux_C
  obtain ⟨hs, ht, hf, hr, hm, hw⟩ := hW
  have e1 : τ 19001 = a1 := by rw [ht 19001 (by decide) (by decide)]; exact h1
  have e2 : τ 19002 = a2 := by rw [ht 19002 (by decide) (by decide)]; exact h2
  have e3 : τ 19003 = a3 := by rw [ht 19003 (by decide) (by decide)]; exact h3
  rw [hx] at hr
  obtain ⟨y, hy, hv⟩ := hr
  cases hy
  replace hv : x.toInt = 1 + 0 := hv
  have f0 : 0 ≤ 0 + ((-1) * τ 18539 + (1 * τ 1000000 + 0)) := hf _ (List.Mem.head _)
  have f1 : 0 ≤ (-1) + (1 * τ 133 + 0) := hf _ (List.Mem.tail _ (List.Mem.head _))
  have f2 : 0 ≤ 11 + ((-1) * τ 134 + 0) := hf _ (List.Mem.tail _ (List.Mem.tail _ (List.Mem.head _)))
  have f3 : 0 ≤ (-3) + (1 * τ 19001 + 0) := hf _ (List.Mem.tail _ (List.Mem.tail _ (List.Mem.tail _ (List.Mem.head _))))
  have f4 : 0 ≤ 3 + ((-1) * τ 19001 + 0) := hf _ (List.Mem.tail _ (List.Mem.tail _ (List.Mem.tail _ (List.Mem.tail _ (List.Mem.head _)))))
  have f5 : 0 ≤ (-3) + (1 * τ 19002 + 0) := hf _ (List.Mem.tail _ (List.Mem.tail _ (List.Mem.tail _ (List.Mem.tail _ (List.Mem.tail _ (List.Mem.head _))))))
  have f6 : 0 ≤ 3 + ((-1) * τ 19002 + 0) := hf _ (List.Mem.tail _ (List.Mem.tail _ (List.Mem.tail _ (List.Mem.tail _ (List.Mem.tail _ (List.Mem.tail _ (List.Mem.head _)))))))
  have f7 : 0 ≤ 0 + ((-1) * τ 19003 + 0) := hf _ (List.Mem.tail _ (List.Mem.tail _ (List.Mem.tail _ (List.Mem.tail _ (List.Mem.tail _ (List.Mem.tail _ (List.Mem.tail _ (List.Mem.head _))))))))
  have f8 : 0 ≤ 0 + (1 * τ 1000000 + ((-1) * τ 1000001 + 0)) := hf _ (List.Mem.tail _ (List.Mem.tail _ (List.Mem.tail _ (List.Mem.tail _ (List.Mem.tail _ (List.Mem.tail _ (List.Mem.tail _ (List.Mem.tail _ (List.Mem.head _)))))))))
  have f9 : 0 ≤ 0 + (1 * τ 1000000 + ((-1) * τ 1000003 + 0)) := hf _ (List.Mem.tail _ (List.Mem.tail _ (List.Mem.tail _ (List.Mem.tail _ (List.Mem.tail _ (List.Mem.tail _ (List.Mem.tail _ (List.Mem.tail _ (List.Mem.tail _ (List.Mem.head _))))))))))
  have f10 : 0 ≤ 0 + ((-1) * τ 1000000 + (1 * τ 1000003 + 0)) := hf _ (List.Mem.tail _ (List.Mem.tail _ (List.Mem.tail _ (List.Mem.tail _ (List.Mem.tail _ (List.Mem.tail _ (List.Mem.tail _ (List.Mem.tail _ (List.Mem.tail _ (List.Mem.tail _ (List.Mem.head _)))))))))))
  have f11 : 0 ≤ (-1) + ((-1) * τ 19001 + (1 * τ 19002 + 0)) := hf _ (List.Mem.tail _ (List.Mem.tail _ (List.Mem.tail _ (List.Mem.tail _ (List.Mem.tail _ (List.Mem.tail _ (List.Mem.tail _ (List.Mem.tail _ (List.Mem.tail _ (List.Mem.tail _ (List.Mem.tail _ (List.Mem.head _))))))))))))
  have f12 : 0 ≤ (-1) + (1 * τ 133 + ((-1) * τ 19002 + 0)) := hf _ (List.Mem.tail _ (List.Mem.tail _ (List.Mem.tail _ (List.Mem.tail _ (List.Mem.tail _ (List.Mem.tail _ (List.Mem.tail _ (List.Mem.tail _ (List.Mem.tail _ (List.Mem.tail _ (List.Mem.tail _ (List.Mem.tail _ (List.Mem.head _)))))))))))))
  have f13 : 0 ≤ (-1) + (1 * τ 133 + ((-1) * τ 19001 + 0)) := hf _ (List.Mem.tail _ (List.Mem.tail _ (List.Mem.tail _ (List.Mem.tail _ (List.Mem.tail _ (List.Mem.tail _ (List.Mem.tail _ (List.Mem.tail _ (List.Mem.tail _ (List.Mem.tail _ (List.Mem.tail _ (List.Mem.tail _ (List.Mem.tail _ (List.Mem.head _))))))))))))))
  exfalso
  omega
set_option maxHeartbeats 1000000 in
theorem lw_ux_88 {as : List rv_A} {σ σ' : Nat → Int} {o : rv_O} {x : Int32} {a1 a2 a3 : Int} {τ : Nat → Int} (hx : o.1 = some (.inl x)) (h1 : lw_av as 1 = a1) (h2 : lw_av as 2 = a2) (h3 : lw_av as 3 = a3) (ho1 : sy_or (σ' 18588) (σ' 18589) (σ' 18590)) (ho2 : sy_or (σ' 18591) (σ' 18592) (σ' 18593)) (hW : lw_W ([(18539, 8, 255), (18590, 8, 255), (18591, 8, 255), (18593, 8, 255)], [(0, [(18539, (-1)), (1000000, 1)]), ((-1), [(133, 1)]), (11, [(134, (-1))]), ((-3), [(19001, 1)]), (3, [(19001, (-1))]), ((-3), [(19002, 1)]), (3, [(19002, (-1))]), (0, [(19003, (-1))]), (0, [(1000000, 1), (1000001, (-1))]), (0, [(1000000, 1), (1000003, (-1))]), (0, [(1000000, (-1)), (1000003, 1)]), ((-1), [(19001, 1), (19002, (-1))]), ((-1), [(133, 1), (19002, (-1))]), ((-1), [(133, 1), (19001, (-1))])], [(9, (0, [])), (134, (1, [(134, 1)])), (7048, ((-2), [])), (7049, ((-2), [])), (8069, (0, [])), (11396, ((-2), [])), (18539, (0, [(1000000, 1)])), (18588, (0, [(18539, 1)])), (18589, (8, [])), (18590, (0, [(1000001, 1)])), (18591, (0, [(1000002, 1)])), (18592, (8, [])), (18593, (0, [(1000003, 1)])), (18594, (2, []))], some (false, (1, []))) as σ σ' τ o) : lw_ux_C a1 a2 a3 x.toInt σ σ' := by
  unfold lw_ux_C
  obtain ⟨hs, ht, hf, hr, hm, hw⟩ := hW
  have e1 : τ 19001 = a1 := by rw [ht 19001 (by decide) (by decide)]; exact h1
  have e2 : τ 19002 = a2 := by rw [ht 19002 (by decide) (by decide)]; exact h2
  have e3 : τ 19003 = a3 := by rw [ht 19003 (by decide) (by decide)]; exact h3
  rw [hx] at hr
  obtain ⟨y, hy, hv⟩ := hr
  cases hy
  replace hv : x.toInt = 1 + 0 := hv
  have f0 : 0 ≤ 0 + ((-1) * τ 18539 + (1 * τ 1000000 + 0)) := hf _ (List.Mem.head _)
  have f1 : 0 ≤ (-1) + (1 * τ 133 + 0) := hf _ (List.Mem.tail _ (List.Mem.head _))
  have f2 : 0 ≤ 11 + ((-1) * τ 134 + 0) := hf _ (List.Mem.tail _ (List.Mem.tail _ (List.Mem.head _)))
  have f3 : 0 ≤ (-3) + (1 * τ 19001 + 0) := hf _ (List.Mem.tail _ (List.Mem.tail _ (List.Mem.tail _ (List.Mem.head _))))
  have f4 : 0 ≤ 3 + ((-1) * τ 19001 + 0) := hf _ (List.Mem.tail _ (List.Mem.tail _ (List.Mem.tail _ (List.Mem.tail _ (List.Mem.head _)))))
  have f5 : 0 ≤ (-3) + (1 * τ 19002 + 0) := hf _ (List.Mem.tail _ (List.Mem.tail _ (List.Mem.tail _ (List.Mem.tail _ (List.Mem.tail _ (List.Mem.head _))))))
  have f6 : 0 ≤ 3 + ((-1) * τ 19002 + 0) := hf _ (List.Mem.tail _ (List.Mem.tail _ (List.Mem.tail _ (List.Mem.tail _ (List.Mem.tail _ (List.Mem.tail _ (List.Mem.head _)))))))
  have f7 : 0 ≤ 0 + ((-1) * τ 19003 + 0) := hf _ (List.Mem.tail _ (List.Mem.tail _ (List.Mem.tail _ (List.Mem.tail _ (List.Mem.tail _ (List.Mem.tail _ (List.Mem.tail _ (List.Mem.head _))))))))
  have f8 : 0 ≤ 0 + (1 * τ 1000000 + ((-1) * τ 1000001 + 0)) := hf _ (List.Mem.tail _ (List.Mem.tail _ (List.Mem.tail _ (List.Mem.tail _ (List.Mem.tail _ (List.Mem.tail _ (List.Mem.tail _ (List.Mem.tail _ (List.Mem.head _)))))))))
  have f9 : 0 ≤ 0 + (1 * τ 1000000 + ((-1) * τ 1000003 + 0)) := hf _ (List.Mem.tail _ (List.Mem.tail _ (List.Mem.tail _ (List.Mem.tail _ (List.Mem.tail _ (List.Mem.tail _ (List.Mem.tail _ (List.Mem.tail _ (List.Mem.tail _ (List.Mem.head _))))))))))
  have f10 : 0 ≤ 0 + ((-1) * τ 1000000 + (1 * τ 1000003 + 0)) := hf _ (List.Mem.tail _ (List.Mem.tail _ (List.Mem.tail _ (List.Mem.tail _ (List.Mem.tail _ (List.Mem.tail _ (List.Mem.tail _ (List.Mem.tail _ (List.Mem.tail _ (List.Mem.tail _ (List.Mem.head _)))))))))))
  have f11 : 0 ≤ (-1) + (1 * τ 19001 + ((-1) * τ 19002 + 0)) := hf _ (List.Mem.tail _ (List.Mem.tail _ (List.Mem.tail _ (List.Mem.tail _ (List.Mem.tail _ (List.Mem.tail _ (List.Mem.tail _ (List.Mem.tail _ (List.Mem.tail _ (List.Mem.tail _ (List.Mem.tail _ (List.Mem.head _))))))))))))
  have f12 : 0 ≤ (-1) + (1 * τ 133 + ((-1) * τ 19002 + 0)) := hf _ (List.Mem.tail _ (List.Mem.tail _ (List.Mem.tail _ (List.Mem.tail _ (List.Mem.tail _ (List.Mem.tail _ (List.Mem.tail _ (List.Mem.tail _ (List.Mem.tail _ (List.Mem.tail _ (List.Mem.tail _ (List.Mem.tail _ (List.Mem.head _)))))))))))))
  have f13 : 0 ≤ (-1) + (1 * τ 133 + ((-1) * τ 19001 + 0)) := hf _ (List.Mem.tail _ (List.Mem.tail _ (List.Mem.tail _ (List.Mem.tail _ (List.Mem.tail _ (List.Mem.tail _ (List.Mem.tail _ (List.Mem.tail _ (List.Mem.tail _ (List.Mem.tail _ (List.Mem.tail _ (List.Mem.tail _ (List.Mem.tail _ (List.Mem.head _))))))))))))))
  exfalso
  omega
set_option maxHeartbeats 1000000 in
theorem lw_ux_89 {as : List rv_A} {σ σ' : Nat → Int} {o : rv_O} {x : Int32} {a1 a2 a3 : Int} {τ : Nat → Int} (hx : o.1 = some (.inl x)) (h1 : lw_av as 1 = a1) (h2 : lw_av as 2 = a2) (h3 : lw_av as 3 = a3) (ho1 : sy_or (σ' 18588) (σ' 18589) (σ' 18590)) (ho2 : sy_or (σ' 18591) (σ' 18592) (σ' 18593)) (hW : lw_W ([(18547, 8, 255), (18590, 8, 255), (18591, 8, 255), (18593, 8, 255)], [(0, [(18547, (-1)), (1000000, 1)]), ((-1), [(133, 1)]), (11, [(134, (-1))]), ((-3), [(19001, 1)]), (3, [(19001, (-1))]), ((-3), [(19002, 1)]), (3, [(19002, (-1))]), ((-1), [(19003, 1)]), (0, [(1000000, 1), (1000001, (-1))]), (0, [(1000000, 1), (1000003, (-1))]), (0, [(1000000, (-1)), (1000003, 1)]), ((-1), [(19001, (-1)), (19002, 1)]), ((-1), [(133, 1), (19002, (-1))]), ((-1), [(133, 1), (19001, (-1))])], [(9, (0, [])), (134, (1, [(134, 1)])), (7048, ((-2), [])), (7049, ((-2), [])), (8069, (0, [])), (11396, ((-2), [])), (18547, (0, [(1000000, 1)])), (18588, (0, [(18547, 1)])), (18589, (8, [])), (18590, (0, [(1000001, 1)])), (18591, (0, [(1000002, 1)])), (18592, (8, [])), (18593, (0, [(1000003, 1)])), (18594, (2, []))], some (false, (1, []))) as σ σ' τ o) : lw_ux_C a1 a2 a3 x.toInt σ σ' := by
  unfold lw_ux_C
  obtain ⟨hs, ht, hf, hr, hm, hw⟩ := hW
  have e1 : τ 19001 = a1 := by rw [ht 19001 (by decide) (by decide)]; exact h1
  have e2 : τ 19002 = a2 := by rw [ht 19002 (by decide) (by decide)]; exact h2
  have e3 : τ 19003 = a3 := by rw [ht 19003 (by decide) (by decide)]; exact h3
  rw [hx] at hr
  obtain ⟨y, hy, hv⟩ := hr
  cases hy
  replace hv : x.toInt = 1 + 0 := hv
  have f0 : 0 ≤ 0 + ((-1) * τ 18547 + (1 * τ 1000000 + 0)) := hf _ (List.Mem.head _)
  have f1 : 0 ≤ (-1) + (1 * τ 133 + 0) := hf _ (List.Mem.tail _ (List.Mem.head _))
  have f2 : 0 ≤ 11 + ((-1) * τ 134 + 0) := hf _ (List.Mem.tail _ (List.Mem.tail _ (List.Mem.head _)))
  have f3 : 0 ≤ (-3) + (1 * τ 19001 + 0) := hf _ (List.Mem.tail _ (List.Mem.tail _ (List.Mem.tail _ (List.Mem.head _))))
  have f4 : 0 ≤ 3 + ((-1) * τ 19001 + 0) := hf _ (List.Mem.tail _ (List.Mem.tail _ (List.Mem.tail _ (List.Mem.tail _ (List.Mem.head _)))))
  have f5 : 0 ≤ (-3) + (1 * τ 19002 + 0) := hf _ (List.Mem.tail _ (List.Mem.tail _ (List.Mem.tail _ (List.Mem.tail _ (List.Mem.tail _ (List.Mem.head _))))))
  have f6 : 0 ≤ 3 + ((-1) * τ 19002 + 0) := hf _ (List.Mem.tail _ (List.Mem.tail _ (List.Mem.tail _ (List.Mem.tail _ (List.Mem.tail _ (List.Mem.tail _ (List.Mem.head _)))))))
  have f7 : 0 ≤ (-1) + (1 * τ 19003 + 0) := hf _ (List.Mem.tail _ (List.Mem.tail _ (List.Mem.tail _ (List.Mem.tail _ (List.Mem.tail _ (List.Mem.tail _ (List.Mem.tail _ (List.Mem.head _))))))))
  have f8 : 0 ≤ 0 + (1 * τ 1000000 + ((-1) * τ 1000001 + 0)) := hf _ (List.Mem.tail _ (List.Mem.tail _ (List.Mem.tail _ (List.Mem.tail _ (List.Mem.tail _ (List.Mem.tail _ (List.Mem.tail _ (List.Mem.tail _ (List.Mem.head _)))))))))
  have f9 : 0 ≤ 0 + (1 * τ 1000000 + ((-1) * τ 1000003 + 0)) := hf _ (List.Mem.tail _ (List.Mem.tail _ (List.Mem.tail _ (List.Mem.tail _ (List.Mem.tail _ (List.Mem.tail _ (List.Mem.tail _ (List.Mem.tail _ (List.Mem.tail _ (List.Mem.head _))))))))))
  have f10 : 0 ≤ 0 + ((-1) * τ 1000000 + (1 * τ 1000003 + 0)) := hf _ (List.Mem.tail _ (List.Mem.tail _ (List.Mem.tail _ (List.Mem.tail _ (List.Mem.tail _ (List.Mem.tail _ (List.Mem.tail _ (List.Mem.tail _ (List.Mem.tail _ (List.Mem.tail _ (List.Mem.head _)))))))))))
  have f11 : 0 ≤ (-1) + ((-1) * τ 19001 + (1 * τ 19002 + 0)) := hf _ (List.Mem.tail _ (List.Mem.tail _ (List.Mem.tail _ (List.Mem.tail _ (List.Mem.tail _ (List.Mem.tail _ (List.Mem.tail _ (List.Mem.tail _ (List.Mem.tail _ (List.Mem.tail _ (List.Mem.tail _ (List.Mem.head _))))))))))))
  have f12 : 0 ≤ (-1) + (1 * τ 133 + ((-1) * τ 19002 + 0)) := hf _ (List.Mem.tail _ (List.Mem.tail _ (List.Mem.tail _ (List.Mem.tail _ (List.Mem.tail _ (List.Mem.tail _ (List.Mem.tail _ (List.Mem.tail _ (List.Mem.tail _ (List.Mem.tail _ (List.Mem.tail _ (List.Mem.tail _ (List.Mem.head _)))))))))))))
  have f13 : 0 ≤ (-1) + (1 * τ 133 + ((-1) * τ 19001 + 0)) := hf _ (List.Mem.tail _ (List.Mem.tail _ (List.Mem.tail _ (List.Mem.tail _ (List.Mem.tail _ (List.Mem.tail _ (List.Mem.tail _ (List.Mem.tail _ (List.Mem.tail _ (List.Mem.tail _ (List.Mem.tail _ (List.Mem.tail _ (List.Mem.tail _ (List.Mem.head _))))))))))))))
  exfalso
  omega
set_option maxHeartbeats 1000000 in
theorem lw_ux_90 {as : List rv_A} {σ σ' : Nat → Int} {o : rv_O} {x : Int32} {a1 a2 a3 : Int} {τ : Nat → Int} (hx : o.1 = some (.inl x)) (h1 : lw_av as 1 = a1) (h2 : lw_av as 2 = a2) (h3 : lw_av as 3 = a3) (ho1 : sy_or (σ' 18588) (σ' 18589) (σ' 18590)) (ho2 : sy_or (σ' 18591) (σ' 18592) (σ' 18593)) (hW : lw_W ([(18547, 8, 255), (18590, 8, 255), (18591, 8, 255), (18593, 8, 255)], [(0, [(18547, (-1)), (1000000, 1)]), ((-1), [(133, 1)]), (11, [(134, (-1))]), ((-3), [(19001, 1)]), (3, [(19001, (-1))]), ((-3), [(19002, 1)]), (3, [(19002, (-1))]), ((-1), [(19003, 1)]), (0, [(1000000, 1), (1000001, (-1))]), (0, [(1000000, 1), (1000003, (-1))]), (0, [(1000000, (-1)), (1000003, 1)]), ((-1), [(19001, 1), (19002, (-1))]), ((-1), [(133, 1), (19002, (-1))]), ((-1), [(133, 1), (19001, (-1))])], [(9, (0, [])), (134, (1, [(134, 1)])), (7048, ((-2), [])), (7049, ((-2), [])), (8069, (0, [])), (11396, ((-2), [])), (18547, (0, [(1000000, 1)])), (18588, (0, [(18547, 1)])), (18589, (8, [])), (18590, (0, [(1000001, 1)])), (18591, (0, [(1000002, 1)])), (18592, (8, [])), (18593, (0, [(1000003, 1)])), (18594, (2, []))], some (false, (1, []))) as σ σ' τ o) : lw_ux_C a1 a2 a3 x.toInt σ σ' := by
  unfold lw_ux_C
  obtain ⟨hs, ht, hf, hr, hm, hw⟩ := hW
  have e1 : τ 19001 = a1 := by rw [ht 19001 (by decide) (by decide)]; exact h1
  have e2 : τ 19002 = a2 := by rw [ht 19002 (by decide) (by decide)]; exact h2
  have e3 : τ 19003 = a3 := by rw [ht 19003 (by decide) (by decide)]; exact h3
  rw [hx] at hr
  obtain ⟨y, hy, hv⟩ := hr
  cases hy
  replace hv : x.toInt = 1 + 0 := hv
  have f0 : 0 ≤ 0 + ((-1) * τ 18547 + (1 * τ 1000000 + 0)) := hf _ (List.Mem.head _)
  have f1 : 0 ≤ (-1) + (1 * τ 133 + 0) := hf _ (List.Mem.tail _ (List.Mem.head _))
  have f2 : 0 ≤ 11 + ((-1) * τ 134 + 0) := hf _ (List.Mem.tail _ (List.Mem.tail _ (List.Mem.head _)))
  have f3 : 0 ≤ (-3) + (1 * τ 19001 + 0) := hf _ (List.Mem.tail _ (List.Mem.tail _ (List.Mem.tail _ (List.Mem.head _))))
  have f4 : 0 ≤ 3 + ((-1) * τ 19001 + 0) := hf _ (List.Mem.tail _ (List.Mem.tail _ (List.Mem.tail _ (List.Mem.tail _ (List.Mem.head _)))))
  have f5 : 0 ≤ (-3) + (1 * τ 19002 + 0) := hf _ (List.Mem.tail _ (List.Mem.tail _ (List.Mem.tail _ (List.Mem.tail _ (List.Mem.tail _ (List.Mem.head _))))))
  have f6 : 0 ≤ 3 + ((-1) * τ 19002 + 0) := hf _ (List.Mem.tail _ (List.Mem.tail _ (List.Mem.tail _ (List.Mem.tail _ (List.Mem.tail _ (List.Mem.tail _ (List.Mem.head _)))))))
  have f7 : 0 ≤ (-1) + (1 * τ 19003 + 0) := hf _ (List.Mem.tail _ (List.Mem.tail _ (List.Mem.tail _ (List.Mem.tail _ (List.Mem.tail _ (List.Mem.tail _ (List.Mem.tail _ (List.Mem.head _))))))))
  have f8 : 0 ≤ 0 + (1 * τ 1000000 + ((-1) * τ 1000001 + 0)) := hf _ (List.Mem.tail _ (List.Mem.tail _ (List.Mem.tail _ (List.Mem.tail _ (List.Mem.tail _ (List.Mem.tail _ (List.Mem.tail _ (List.Mem.tail _ (List.Mem.head _)))))))))
  have f9 : 0 ≤ 0 + (1 * τ 1000000 + ((-1) * τ 1000003 + 0)) := hf _ (List.Mem.tail _ (List.Mem.tail _ (List.Mem.tail _ (List.Mem.tail _ (List.Mem.tail _ (List.Mem.tail _ (List.Mem.tail _ (List.Mem.tail _ (List.Mem.tail _ (List.Mem.head _))))))))))
  have f10 : 0 ≤ 0 + ((-1) * τ 1000000 + (1 * τ 1000003 + 0)) := hf _ (List.Mem.tail _ (List.Mem.tail _ (List.Mem.tail _ (List.Mem.tail _ (List.Mem.tail _ (List.Mem.tail _ (List.Mem.tail _ (List.Mem.tail _ (List.Mem.tail _ (List.Mem.tail _ (List.Mem.head _)))))))))))
  have f11 : 0 ≤ (-1) + (1 * τ 19001 + ((-1) * τ 19002 + 0)) := hf _ (List.Mem.tail _ (List.Mem.tail _ (List.Mem.tail _ (List.Mem.tail _ (List.Mem.tail _ (List.Mem.tail _ (List.Mem.tail _ (List.Mem.tail _ (List.Mem.tail _ (List.Mem.tail _ (List.Mem.tail _ (List.Mem.head _))))))))))))
  have f12 : 0 ≤ (-1) + (1 * τ 133 + ((-1) * τ 19002 + 0)) := hf _ (List.Mem.tail _ (List.Mem.tail _ (List.Mem.tail _ (List.Mem.tail _ (List.Mem.tail _ (List.Mem.tail _ (List.Mem.tail _ (List.Mem.tail _ (List.Mem.tail _ (List.Mem.tail _ (List.Mem.tail _ (List.Mem.tail _ (List.Mem.head _)))))))))))))
  have f13 : 0 ≤ (-1) + (1 * τ 133 + ((-1) * τ 19001 + 0)) := hf _ (List.Mem.tail _ (List.Mem.tail _ (List.Mem.tail _ (List.Mem.tail _ (List.Mem.tail _ (List.Mem.tail _ (List.Mem.tail _ (List.Mem.tail _ (List.Mem.tail _ (List.Mem.tail _ (List.Mem.tail _ (List.Mem.tail _ (List.Mem.tail _ (List.Mem.head _))))))))))))))
  exfalso
  omega
set_option maxHeartbeats 1000000 in
theorem lw_ux_91 {as : List rv_A} {σ σ' : Nat → Int} {o : rv_O} {x : Int32} {a1 a2 a3 : Int} {τ : Nat → Int} (hx : o.1 = some (.inl x)) (h1 : lw_av as 1 = a1) (h2 : lw_av as 2 = a2) (h3 : lw_av as 3 = a3) (ho1 : sy_or (σ' 18588) (σ' 18589) (σ' 18590)) (ho2 : sy_or (σ' 18591) (σ' 18592) (σ' 18593)) (hW : lw_W ([(18539, 16, 255), (18540, 8, 255), (18590, 16, 255), (18593, 8, 255)], [(0, [(18539, (-1)), (1000000, 1)]), (0, [(18540, (-1)), (1000001, 1)]), ((-1), [(133, 1)]), (11, [(134, (-1))]), ((-3), [(19001, 1)]), (3, [(19001, (-1))]), ((-4), [(19002, 1)]), (4, [(19002, (-1))]), (0, [(19003, (-1))]), (0, [(1000000, 1), (1000002, (-1))]), (0, [(1000000, (-1)), (1000002, 1)]), (0, [(1000001, 1), (1000003, (-1))]), (0, [(1000001, (-1)), (1000003, 1)]), ((-1), [(19001, (-1)), (19002, 1)]), ((-1), [(133, 1), (19002, (-1))]), ((-1), [(133, 1), (19001, (-1))])], [(9, (0, [])), (134, (1, [(134, 1)])), (7048, ((-2), [])), (7049, ((-2), [])), (8069, (0, [])), (11396, ((-2), [])), (18539, (0, [(1000000, 1)])), (18540, (0, [(1000001, 1)])), (18588, (0, [(18539, 1)])), (18589, (16, [])), (18590, (0, [(1000002, 1)])), (18591, (0, [(18540, 1)])), (18592, (8, [])), (18593, (0, [(1000003, 1)])), (18594, (2, []))], some (false, (1, []))) as σ σ' τ o) : lw_ux_C a1 a2 a3 x.toInt σ σ' := by
  unfold lw_ux_C
  obtain ⟨hs, ht, hf, hr, hm, hw⟩ := hW
  have e1 : τ 19001 = a1 := by rw [ht 19001 (by decide) (by decide)]; exact h1
  have e2 : τ 19002 = a2 := by rw [ht 19002 (by decide) (by decide)]; exact h2
  have e3 : τ 19003 = a3 := by rw [ht 19003 (by decide) (by decide)]; exact h3
  rw [hx] at hr
  obtain ⟨y, hy, hv⟩ := hr
  cases hy
  replace hv : x.toInt = 1 + 0 := hv
  have f0 : 0 ≤ 0 + ((-1) * τ 18539 + (1 * τ 1000000 + 0)) := hf _ (List.Mem.head _)
  have f1 : 0 ≤ 0 + ((-1) * τ 18540 + (1 * τ 1000001 + 0)) := hf _ (List.Mem.tail _ (List.Mem.head _))
  have f2 : 0 ≤ (-1) + (1 * τ 133 + 0) := hf _ (List.Mem.tail _ (List.Mem.tail _ (List.Mem.head _)))
  have f3 : 0 ≤ 11 + ((-1) * τ 134 + 0) := hf _ (List.Mem.tail _ (List.Mem.tail _ (List.Mem.tail _ (List.Mem.head _))))
  have f4 : 0 ≤ (-3) + (1 * τ 19001 + 0) := hf _ (List.Mem.tail _ (List.Mem.tail _ (List.Mem.tail _ (List.Mem.tail _ (List.Mem.head _)))))
  have f5 : 0 ≤ 3 + ((-1) * τ 19001 + 0) := hf _ (List.Mem.tail _ (List.Mem.tail _ (List.Mem.tail _ (List.Mem.tail _ (List.Mem.tail _ (List.Mem.head _))))))
  have f6 : 0 ≤ (-4) + (1 * τ 19002 + 0) := hf _ (List.Mem.tail _ (List.Mem.tail _ (List.Mem.tail _ (List.Mem.tail _ (List.Mem.tail _ (List.Mem.tail _ (List.Mem.head _)))))))
  have f7 : 0 ≤ 4 + ((-1) * τ 19002 + 0) := hf _ (List.Mem.tail _ (List.Mem.tail _ (List.Mem.tail _ (List.Mem.tail _ (List.Mem.tail _ (List.Mem.tail _ (List.Mem.tail _ (List.Mem.head _))))))))
  have f8 : 0 ≤ 0 + ((-1) * τ 19003 + 0) := hf _ (List.Mem.tail _ (List.Mem.tail _ (List.Mem.tail _ (List.Mem.tail _ (List.Mem.tail _ (List.Mem.tail _ (List.Mem.tail _ (List.Mem.tail _ (List.Mem.head _)))))))))
  have f9 : 0 ≤ 0 + (1 * τ 1000000 + ((-1) * τ 1000002 + 0)) := hf _ (List.Mem.tail _ (List.Mem.tail _ (List.Mem.tail _ (List.Mem.tail _ (List.Mem.tail _ (List.Mem.tail _ (List.Mem.tail _ (List.Mem.tail _ (List.Mem.tail _ (List.Mem.head _))))))))))
  have f10 : 0 ≤ 0 + ((-1) * τ 1000000 + (1 * τ 1000002 + 0)) := hf _ (List.Mem.tail _ (List.Mem.tail _ (List.Mem.tail _ (List.Mem.tail _ (List.Mem.tail _ (List.Mem.tail _ (List.Mem.tail _ (List.Mem.tail _ (List.Mem.tail _ (List.Mem.tail _ (List.Mem.head _)))))))))))
  have f11 : 0 ≤ 0 + (1 * τ 1000001 + ((-1) * τ 1000003 + 0)) := hf _ (List.Mem.tail _ (List.Mem.tail _ (List.Mem.tail _ (List.Mem.tail _ (List.Mem.tail _ (List.Mem.tail _ (List.Mem.tail _ (List.Mem.tail _ (List.Mem.tail _ (List.Mem.tail _ (List.Mem.tail _ (List.Mem.head _))))))))))))
  have f12 : 0 ≤ 0 + ((-1) * τ 1000001 + (1 * τ 1000003 + 0)) := hf _ (List.Mem.tail _ (List.Mem.tail _ (List.Mem.tail _ (List.Mem.tail _ (List.Mem.tail _ (List.Mem.tail _ (List.Mem.tail _ (List.Mem.tail _ (List.Mem.tail _ (List.Mem.tail _ (List.Mem.tail _ (List.Mem.tail _ (List.Mem.head _)))))))))))))
  have f13 : 0 ≤ (-1) + ((-1) * τ 19001 + (1 * τ 19002 + 0)) := hf _ (List.Mem.tail _ (List.Mem.tail _ (List.Mem.tail _ (List.Mem.tail _ (List.Mem.tail _ (List.Mem.tail _ (List.Mem.tail _ (List.Mem.tail _ (List.Mem.tail _ (List.Mem.tail _ (List.Mem.tail _ (List.Mem.tail _ (List.Mem.tail _ (List.Mem.head _))))))))))))))
  have f14 : 0 ≤ (-1) + (1 * τ 133 + ((-1) * τ 19002 + 0)) := hf _ (List.Mem.tail _ (List.Mem.tail _ (List.Mem.tail _ (List.Mem.tail _ (List.Mem.tail _ (List.Mem.tail _ (List.Mem.tail _ (List.Mem.tail _ (List.Mem.tail _ (List.Mem.tail _ (List.Mem.tail _ (List.Mem.tail _ (List.Mem.tail _ (List.Mem.tail _ (List.Mem.head _)))))))))))))))
  have f15 : 0 ≤ (-1) + (1 * τ 133 + ((-1) * τ 19001 + 0)) := hf _ (List.Mem.tail _ (List.Mem.tail _ (List.Mem.tail _ (List.Mem.tail _ (List.Mem.tail _ (List.Mem.tail _ (List.Mem.tail _ (List.Mem.tail _ (List.Mem.tail _ (List.Mem.tail _ (List.Mem.tail _ (List.Mem.tail _ (List.Mem.tail _ (List.Mem.tail _ (List.Mem.tail _ (List.Mem.head _))))))))))))))))
  have mX1 : σ' 18588 = σ 18539 := lw_id (hs 18539 (by decide)) (hm 18588 (by decide))
  have mY1 : σ' 18589 = 16 := (hm 18589 (by decide)).trans rfl
  have mO1 : σ' 18590 = 0 + (1 * τ 1000002 + 0) := hm 18590 (by decide)
  have mA1 : σ' 18539 = 0 + (1 * τ 1000000 + 0) := hm 18539 (by decide)
  unfold sy_or at ho1
  rw [mX1, mY1, show (16 : Int).toNat = 2 ^ 4 from rfl] at ho1
  have mX2 : σ' 18591 = σ 18540 := lw_id (hs 18540 (by decide)) (hm 18591 (by decide))
  have mY2 : σ' 18592 = 8 := (hm 18592 (by decide)).trans rfl
  have mO2 : σ' 18593 = 0 + (1 * τ 1000003 + 0) := hm 18593 (by decide)
  have mA2 : σ' 18540 = 0 + (1 * τ 1000001 + 0) := hm 18540 (by decide)
  unfold sy_or at ho2
  rw [mX2, mY2, show (8 : Int).toNat = 2 ^ 3 from rfl] at ho2
  have ti : lw_ti a1.toNat a2.toNat (fun p => σ (18536 + p)) (fun p => σ' (18536 + p)) := by
    rw [show a1.toNat = 3 by omega, show a2.toNat = 4 by omega]
    intro p hp
    rcases (show p = 0 ∨ p = 1 ∨ p = 2 ∨ p = 3 ∨ p = 4 ∨ p = 5 ∨ p = 6 ∨ p = 7 by omega) with rfl | rfl | rfl | rfl | rfl | rfl | rfl | rfl
    · show σ' 18536 = if (0 : Nat) = 3 then _ else if (0 : Nat) = 4 then _ else _
      rw [if_neg (by decide), if_neg (by decide)]
      exact lw_id (hs _ (by decide)) (hm _ (by decide))
    · show σ' 18537 = if (1 : Nat) = 3 then _ else if (1 : Nat) = 4 then _ else _
      rw [if_neg (by decide), if_neg (by decide)]
      exact lw_id (hs _ (by decide)) (hm _ (by decide))
    · show σ' 18538 = if (2 : Nat) = 3 then _ else if (2 : Nat) = 4 then _ else _
      rw [if_neg (by decide), if_neg (by decide)]
      exact lw_id (hs _ (by decide)) (hm _ (by decide))
    · show σ' 18539 = if (3 : Nat) = 3 then _ else _
      rw [if_pos rfl]
      show σ' 18539 = (((σ 18539).toNat ||| 2 ^ 4 : Nat) : Int)
      omega
    · show σ' 18540 = if (4 : Nat) = 3 then _ else if (4 : Nat) = 4 then _ else _
      rw [if_neg (by decide), if_pos rfl]
      show σ' 18540 = (((σ 18540).toNat ||| 2 ^ 3 : Nat) : Int)
      omega
    · show σ' 18541 = if (5 : Nat) = 3 then _ else if (5 : Nat) = 4 then _ else _
      rw [if_neg (by decide), if_neg (by decide)]
      exact lw_id (hs _ (by decide)) (hm _ (by decide))
    · show σ' 18542 = if (6 : Nat) = 3 then _ else if (6 : Nat) = 4 then _ else _
      rw [if_neg (by decide), if_neg (by decide)]
      exact lw_id (hs _ (by decide)) (hm _ (by decide))
    · show σ' 18543 = if (7 : Nat) = 3 then _ else if (7 : Nat) = 4 then _ else _
      rw [if_neg (by decide), if_neg (by decide)]
      exact lw_id (hs _ (by decide)) (hm _ (by decide))
  exact Or.inl ⟨by omega, by omega, by omega, by omega, by omega, Or.inr ⟨by omega, ti, (fun p hp => (by rcases (show p = 0 ∨ p = 1 ∨ p = 2 ∨ p = 3 ∨ p = 4 ∨ p = 5 ∨ p = 6 ∨ p = 7 by omega) with rfl | rfl | rfl | rfl | rfl | rfl | rfl | rfl <;> exact lw_id (hs _ (by decide)) (hm _ (by decide))))⟩⟩
set_option maxHeartbeats 1000000 in
theorem lw_ux_92 {as : List rv_A} {σ σ' : Nat → Int} {o : rv_O} {x : Int32} {a1 a2 a3 : Int} {τ : Nat → Int} (hx : o.1 = some (.inl x)) (h1 : lw_av as 1 = a1) (h2 : lw_av as 2 = a2) (h3 : lw_av as 3 = a3) (ho1 : sy_or (σ' 18588) (σ' 18589) (σ' 18590)) (ho2 : sy_or (σ' 18591) (σ' 18592) (σ' 18593)) (hW : lw_W ([(18539, 16, 255), (18540, 8, 255), (18590, 16, 255), (18593, 8, 255)], [(0, [(18539, (-1)), (1000000, 1)]), (0, [(18540, (-1)), (1000001, 1)]), ((-1), [(133, 1)]), (11, [(134, (-1))]), ((-3), [(19001, 1)]), (3, [(19001, (-1))]), ((-4), [(19002, 1)]), (4, [(19002, (-1))]), (0, [(19003, (-1))]), (0, [(1000000, 1), (1000002, (-1))]), (0, [(1000000, (-1)), (1000002, 1)]), (0, [(1000001, 1), (1000003, (-1))]), (0, [(1000001, (-1)), (1000003, 1)]), ((-1), [(19001, 1), (19002, (-1))]), ((-1), [(133, 1), (19002, (-1))]), ((-1), [(133, 1), (19001, (-1))])], [(9, (0, [])), (134, (1, [(134, 1)])), (7048, ((-2), [])), (7049, ((-2), [])), (8069, (0, [])), (11396, ((-2), [])), (18539, (0, [(1000000, 1)])), (18540, (0, [(1000001, 1)])), (18588, (0, [(18539, 1)])), (18589, (16, [])), (18590, (0, [(1000002, 1)])), (18591, (0, [(18540, 1)])), (18592, (8, [])), (18593, (0, [(1000003, 1)])), (18594, (2, []))], some (false, (1, []))) as σ σ' τ o) : lw_ux_C a1 a2 a3 x.toInt σ σ' := by
  unfold lw_ux_C
  obtain ⟨hs, ht, hf, hr, hm, hw⟩ := hW
  have e1 : τ 19001 = a1 := by rw [ht 19001 (by decide) (by decide)]; exact h1
  have e2 : τ 19002 = a2 := by rw [ht 19002 (by decide) (by decide)]; exact h2
  have e3 : τ 19003 = a3 := by rw [ht 19003 (by decide) (by decide)]; exact h3
  rw [hx] at hr
  obtain ⟨y, hy, hv⟩ := hr
  cases hy
  replace hv : x.toInt = 1 + 0 := hv
  have f0 : 0 ≤ 0 + ((-1) * τ 18539 + (1 * τ 1000000 + 0)) := hf _ (List.Mem.head _)
  have f1 : 0 ≤ 0 + ((-1) * τ 18540 + (1 * τ 1000001 + 0)) := hf _ (List.Mem.tail _ (List.Mem.head _))
  have f2 : 0 ≤ (-1) + (1 * τ 133 + 0) := hf _ (List.Mem.tail _ (List.Mem.tail _ (List.Mem.head _)))
  have f3 : 0 ≤ 11 + ((-1) * τ 134 + 0) := hf _ (List.Mem.tail _ (List.Mem.tail _ (List.Mem.tail _ (List.Mem.head _))))
  have f4 : 0 ≤ (-3) + (1 * τ 19001 + 0) := hf _ (List.Mem.tail _ (List.Mem.tail _ (List.Mem.tail _ (List.Mem.tail _ (List.Mem.head _)))))
  have f5 : 0 ≤ 3 + ((-1) * τ 19001 + 0) := hf _ (List.Mem.tail _ (List.Mem.tail _ (List.Mem.tail _ (List.Mem.tail _ (List.Mem.tail _ (List.Mem.head _))))))
  have f6 : 0 ≤ (-4) + (1 * τ 19002 + 0) := hf _ (List.Mem.tail _ (List.Mem.tail _ (List.Mem.tail _ (List.Mem.tail _ (List.Mem.tail _ (List.Mem.tail _ (List.Mem.head _)))))))
  have f7 : 0 ≤ 4 + ((-1) * τ 19002 + 0) := hf _ (List.Mem.tail _ (List.Mem.tail _ (List.Mem.tail _ (List.Mem.tail _ (List.Mem.tail _ (List.Mem.tail _ (List.Mem.tail _ (List.Mem.head _))))))))
  have f8 : 0 ≤ 0 + ((-1) * τ 19003 + 0) := hf _ (List.Mem.tail _ (List.Mem.tail _ (List.Mem.tail _ (List.Mem.tail _ (List.Mem.tail _ (List.Mem.tail _ (List.Mem.tail _ (List.Mem.tail _ (List.Mem.head _)))))))))
  have f9 : 0 ≤ 0 + (1 * τ 1000000 + ((-1) * τ 1000002 + 0)) := hf _ (List.Mem.tail _ (List.Mem.tail _ (List.Mem.tail _ (List.Mem.tail _ (List.Mem.tail _ (List.Mem.tail _ (List.Mem.tail _ (List.Mem.tail _ (List.Mem.tail _ (List.Mem.head _))))))))))
  have f10 : 0 ≤ 0 + ((-1) * τ 1000000 + (1 * τ 1000002 + 0)) := hf _ (List.Mem.tail _ (List.Mem.tail _ (List.Mem.tail _ (List.Mem.tail _ (List.Mem.tail _ (List.Mem.tail _ (List.Mem.tail _ (List.Mem.tail _ (List.Mem.tail _ (List.Mem.tail _ (List.Mem.head _)))))))))))
  have f11 : 0 ≤ 0 + (1 * τ 1000001 + ((-1) * τ 1000003 + 0)) := hf _ (List.Mem.tail _ (List.Mem.tail _ (List.Mem.tail _ (List.Mem.tail _ (List.Mem.tail _ (List.Mem.tail _ (List.Mem.tail _ (List.Mem.tail _ (List.Mem.tail _ (List.Mem.tail _ (List.Mem.tail _ (List.Mem.head _))))))))))))
  have f12 : 0 ≤ 0 + ((-1) * τ 1000001 + (1 * τ 1000003 + 0)) := hf _ (List.Mem.tail _ (List.Mem.tail _ (List.Mem.tail _ (List.Mem.tail _ (List.Mem.tail _ (List.Mem.tail _ (List.Mem.tail _ (List.Mem.tail _ (List.Mem.tail _ (List.Mem.tail _ (List.Mem.tail _ (List.Mem.tail _ (List.Mem.head _)))))))))))))
  have f13 : 0 ≤ (-1) + (1 * τ 19001 + ((-1) * τ 19002 + 0)) := hf _ (List.Mem.tail _ (List.Mem.tail _ (List.Mem.tail _ (List.Mem.tail _ (List.Mem.tail _ (List.Mem.tail _ (List.Mem.tail _ (List.Mem.tail _ (List.Mem.tail _ (List.Mem.tail _ (List.Mem.tail _ (List.Mem.tail _ (List.Mem.tail _ (List.Mem.head _))))))))))))))
  have f14 : 0 ≤ (-1) + (1 * τ 133 + ((-1) * τ 19002 + 0)) := hf _ (List.Mem.tail _ (List.Mem.tail _ (List.Mem.tail _ (List.Mem.tail _ (List.Mem.tail _ (List.Mem.tail _ (List.Mem.tail _ (List.Mem.tail _ (List.Mem.tail _ (List.Mem.tail _ (List.Mem.tail _ (List.Mem.tail _ (List.Mem.tail _ (List.Mem.tail _ (List.Mem.head _)))))))))))))))
  have f15 : 0 ≤ (-1) + (1 * τ 133 + ((-1) * τ 19001 + 0)) := hf _ (List.Mem.tail _ (List.Mem.tail _ (List.Mem.tail _ (List.Mem.tail _ (List.Mem.tail _ (List.Mem.tail _ (List.Mem.tail _ (List.Mem.tail _ (List.Mem.tail _ (List.Mem.tail _ (List.Mem.tail _ (List.Mem.tail _ (List.Mem.tail _ (List.Mem.tail _ (List.Mem.tail _ (List.Mem.head _))))))))))))))))
  have mX1 : σ' 18588 = σ 18539 := lw_id (hs 18539 (by decide)) (hm 18588 (by decide))
  have mY1 : σ' 18589 = 16 := (hm 18589 (by decide)).trans rfl
  have mO1 : σ' 18590 = 0 + (1 * τ 1000002 + 0) := hm 18590 (by decide)
  have mA1 : σ' 18539 = 0 + (1 * τ 1000000 + 0) := hm 18539 (by decide)
  unfold sy_or at ho1
  rw [mX1, mY1, show (16 : Int).toNat = 2 ^ 4 from rfl] at ho1
  have mX2 : σ' 18591 = σ 18540 := lw_id (hs 18540 (by decide)) (hm 18591 (by decide))
  have mY2 : σ' 18592 = 8 := (hm 18592 (by decide)).trans rfl
  have mO2 : σ' 18593 = 0 + (1 * τ 1000003 + 0) := hm 18593 (by decide)
  have mA2 : σ' 18540 = 0 + (1 * τ 1000001 + 0) := hm 18540 (by decide)
  unfold sy_or at ho2
  rw [mX2, mY2, show (8 : Int).toNat = 2 ^ 3 from rfl] at ho2
  have ti : lw_ti a1.toNat a2.toNat (fun p => σ (18536 + p)) (fun p => σ' (18536 + p)) := by
    rw [show a1.toNat = 3 by omega, show a2.toNat = 4 by omega]
    intro p hp
    rcases (show p = 0 ∨ p = 1 ∨ p = 2 ∨ p = 3 ∨ p = 4 ∨ p = 5 ∨ p = 6 ∨ p = 7 by omega) with rfl | rfl | rfl | rfl | rfl | rfl | rfl | rfl
    · show σ' 18536 = if (0 : Nat) = 3 then _ else if (0 : Nat) = 4 then _ else _
      rw [if_neg (by decide), if_neg (by decide)]
      exact lw_id (hs _ (by decide)) (hm _ (by decide))
    · show σ' 18537 = if (1 : Nat) = 3 then _ else if (1 : Nat) = 4 then _ else _
      rw [if_neg (by decide), if_neg (by decide)]
      exact lw_id (hs _ (by decide)) (hm _ (by decide))
    · show σ' 18538 = if (2 : Nat) = 3 then _ else if (2 : Nat) = 4 then _ else _
      rw [if_neg (by decide), if_neg (by decide)]
      exact lw_id (hs _ (by decide)) (hm _ (by decide))
    · show σ' 18539 = if (3 : Nat) = 3 then _ else _
      rw [if_pos rfl]
      show σ' 18539 = (((σ 18539).toNat ||| 2 ^ 4 : Nat) : Int)
      omega
    · show σ' 18540 = if (4 : Nat) = 3 then _ else if (4 : Nat) = 4 then _ else _
      rw [if_neg (by decide), if_pos rfl]
      show σ' 18540 = (((σ 18540).toNat ||| 2 ^ 3 : Nat) : Int)
      omega
    · show σ' 18541 = if (5 : Nat) = 3 then _ else if (5 : Nat) = 4 then _ else _
      rw [if_neg (by decide), if_neg (by decide)]
      exact lw_id (hs _ (by decide)) (hm _ (by decide))
    · show σ' 18542 = if (6 : Nat) = 3 then _ else if (6 : Nat) = 4 then _ else _
      rw [if_neg (by decide), if_neg (by decide)]
      exact lw_id (hs _ (by decide)) (hm _ (by decide))
    · show σ' 18543 = if (7 : Nat) = 3 then _ else if (7 : Nat) = 4 then _ else _
      rw [if_neg (by decide), if_neg (by decide)]
      exact lw_id (hs _ (by decide)) (hm _ (by decide))
  exact Or.inl ⟨by omega, by omega, by omega, by omega, by omega, Or.inr ⟨by omega, ti, (fun p hp => (by rcases (show p = 0 ∨ p = 1 ∨ p = 2 ∨ p = 3 ∨ p = 4 ∨ p = 5 ∨ p = 6 ∨ p = 7 by omega) with rfl | rfl | rfl | rfl | rfl | rfl | rfl | rfl <;> exact lw_id (hs _ (by decide)) (hm _ (by decide))))⟩⟩
set_option maxHeartbeats 1000000 in
theorem lw_ux_93 {as : List rv_A} {σ σ' : Nat → Int} {o : rv_O} {x : Int32} {a1 a2 a3 : Int} {τ : Nat → Int} (hx : o.1 = some (.inl x)) (h1 : lw_av as 1 = a1) (h2 : lw_av as 2 = a2) (h3 : lw_av as 3 = a3) (ho1 : sy_or (σ' 18588) (σ' 18589) (σ' 18590)) (ho2 : sy_or (σ' 18591) (σ' 18592) (σ' 18593)) (hW : lw_W ([(18547, 16, 255), (18548, 8, 255), (18590, 16, 255), (18593, 8, 255)], [(0, [(18547, (-1)), (1000000, 1)]), (0, [(18548, (-1)), (1000001, 1)]), ((-1), [(133, 1)]), (11, [(134, (-1))]), ((-3), [(19001, 1)]), (3, [(19001, (-1))]), ((-4), [(19002, 1)]), (4, [(19002, (-1))]), ((-1), [(19003, 1)]), (0, [(1000000, 1), (1000002, (-1))]), (0, [(1000000, (-1)), (1000002, 1)]), (0, [(1000001, 1), (1000003, (-1))]), (0, [(1000001, (-1)), (1000003, 1)]), ((-1), [(19001, (-1)), (19002, 1)]), ((-1), [(133, 1), (19002, (-1))]), ((-1), [(133, 1), (19001, (-1))])], [(9, (0, [])), (134, (1, [(134, 1)])), (7048, ((-2), [])), (7049, ((-2), [])), (8069, (0, [])), (11396, ((-2), [])), (18547, (0, [(1000000, 1)])), (18548, (0, [(1000001, 1)])), (18588, (0, [(18547, 1)])), (18589, (16, [])), (18590, (0, [(1000002, 1)])), (18591, (0, [(18548, 1)])), (18592, (8, [])), (18593, (0, [(1000003, 1)])), (18594, (2, []))], some (false, (1, []))) as σ σ' τ o) : lw_ux_C a1 a2 a3 x.toInt σ σ' := by
  unfold lw_ux_C
  obtain ⟨hs, ht, hf, hr, hm, hw⟩ := hW
  have e1 : τ 19001 = a1 := by rw [ht 19001 (by decide) (by decide)]; exact h1
  have e2 : τ 19002 = a2 := by rw [ht 19002 (by decide) (by decide)]; exact h2
  have e3 : τ 19003 = a3 := by rw [ht 19003 (by decide) (by decide)]; exact h3
  rw [hx] at hr
  obtain ⟨y, hy, hv⟩ := hr
  cases hy
  replace hv : x.toInt = 1 + 0 := hv
  have f0 : 0 ≤ 0 + ((-1) * τ 18547 + (1 * τ 1000000 + 0)) := hf _ (List.Mem.head _)
  have f1 : 0 ≤ 0 + ((-1) * τ 18548 + (1 * τ 1000001 + 0)) := hf _ (List.Mem.tail _ (List.Mem.head _))
  have f2 : 0 ≤ (-1) + (1 * τ 133 + 0) := hf _ (List.Mem.tail _ (List.Mem.tail _ (List.Mem.head _)))
  have f3 : 0 ≤ 11 + ((-1) * τ 134 + 0) := hf _ (List.Mem.tail _ (List.Mem.tail _ (List.Mem.tail _ (List.Mem.head _))))
  have f4 : 0 ≤ (-3) + (1 * τ 19001 + 0) := hf _ (List.Mem.tail _ (List.Mem.tail _ (List.Mem.tail _ (List.Mem.tail _ (List.Mem.head _)))))
  have f5 : 0 ≤ 3 + ((-1) * τ 19001 + 0) := hf _ (List.Mem.tail _ (List.Mem.tail _ (List.Mem.tail _ (List.Mem.tail _ (List.Mem.tail _ (List.Mem.head _))))))
  have f6 : 0 ≤ (-4) + (1 * τ 19002 + 0) := hf _ (List.Mem.tail _ (List.Mem.tail _ (List.Mem.tail _ (List.Mem.tail _ (List.Mem.tail _ (List.Mem.tail _ (List.Mem.head _)))))))
  have f7 : 0 ≤ 4 + ((-1) * τ 19002 + 0) := hf _ (List.Mem.tail _ (List.Mem.tail _ (List.Mem.tail _ (List.Mem.tail _ (List.Mem.tail _ (List.Mem.tail _ (List.Mem.tail _ (List.Mem.head _))))))))
  have f8 : 0 ≤ (-1) + (1 * τ 19003 + 0) := hf _ (List.Mem.tail _ (List.Mem.tail _ (List.Mem.tail _ (List.Mem.tail _ (List.Mem.tail _ (List.Mem.tail _ (List.Mem.tail _ (List.Mem.tail _ (List.Mem.head _)))))))))
  have f9 : 0 ≤ 0 + (1 * τ 1000000 + ((-1) * τ 1000002 + 0)) := hf _ (List.Mem.tail _ (List.Mem.tail _ (List.Mem.tail _ (List.Mem.tail _ (List.Mem.tail _ (List.Mem.tail _ (List.Mem.tail _ (List.Mem.tail _ (List.Mem.tail _ (List.Mem.head _))))))))))
  have f10 : 0 ≤ 0 + ((-1) * τ 1000000 + (1 * τ 1000002 + 0)) := hf _ (List.Mem.tail _ (List.Mem.tail _ (List.Mem.tail _ (List.Mem.tail _ (List.Mem.tail _ (List.Mem.tail _ (List.Mem.tail _ (List.Mem.tail _ (List.Mem.tail _ (List.Mem.tail _ (List.Mem.head _)))))))))))
  have f11 : 0 ≤ 0 + (1 * τ 1000001 + ((-1) * τ 1000003 + 0)) := hf _ (List.Mem.tail _ (List.Mem.tail _ (List.Mem.tail _ (List.Mem.tail _ (List.Mem.tail _ (List.Mem.tail _ (List.Mem.tail _ (List.Mem.tail _ (List.Mem.tail _ (List.Mem.tail _ (List.Mem.tail _ (List.Mem.head _))))))))))))
  have f12 : 0 ≤ 0 + ((-1) * τ 1000001 + (1 * τ 1000003 + 0)) := hf _ (List.Mem.tail _ (List.Mem.tail _ (List.Mem.tail _ (List.Mem.tail _ (List.Mem.tail _ (List.Mem.tail _ (List.Mem.tail _ (List.Mem.tail _ (List.Mem.tail _ (List.Mem.tail _ (List.Mem.tail _ (List.Mem.tail _ (List.Mem.head _)))))))))))))
  have f13 : 0 ≤ (-1) + ((-1) * τ 19001 + (1 * τ 19002 + 0)) := hf _ (List.Mem.tail _ (List.Mem.tail _ (List.Mem.tail _ (List.Mem.tail _ (List.Mem.tail _ (List.Mem.tail _ (List.Mem.tail _ (List.Mem.tail _ (List.Mem.tail _ (List.Mem.tail _ (List.Mem.tail _ (List.Mem.tail _ (List.Mem.tail _ (List.Mem.head _))))))))))))))
  have f14 : 0 ≤ (-1) + (1 * τ 133 + ((-1) * τ 19002 + 0)) := hf _ (List.Mem.tail _ (List.Mem.tail _ (List.Mem.tail _ (List.Mem.tail _ (List.Mem.tail _ (List.Mem.tail _ (List.Mem.tail _ (List.Mem.tail _ (List.Mem.tail _ (List.Mem.tail _ (List.Mem.tail _ (List.Mem.tail _ (List.Mem.tail _ (List.Mem.tail _ (List.Mem.head _)))))))))))))))
  have f15 : 0 ≤ (-1) + (1 * τ 133 + ((-1) * τ 19001 + 0)) := hf _ (List.Mem.tail _ (List.Mem.tail _ (List.Mem.tail _ (List.Mem.tail _ (List.Mem.tail _ (List.Mem.tail _ (List.Mem.tail _ (List.Mem.tail _ (List.Mem.tail _ (List.Mem.tail _ (List.Mem.tail _ (List.Mem.tail _ (List.Mem.tail _ (List.Mem.tail _ (List.Mem.tail _ (List.Mem.head _))))))))))))))))
  have mX1 : σ' 18588 = σ 18547 := lw_id (hs 18547 (by decide)) (hm 18588 (by decide))
  have mY1 : σ' 18589 = 16 := (hm 18589 (by decide)).trans rfl
  have mO1 : σ' 18590 = 0 + (1 * τ 1000002 + 0) := hm 18590 (by decide)
  have mA1 : σ' 18547 = 0 + (1 * τ 1000000 + 0) := hm 18547 (by decide)
  unfold sy_or at ho1
  rw [mX1, mY1, show (16 : Int).toNat = 2 ^ 4 from rfl] at ho1
  have mX2 : σ' 18591 = σ 18548 := lw_id (hs 18548 (by decide)) (hm 18591 (by decide))
  have mY2 : σ' 18592 = 8 := (hm 18592 (by decide)).trans rfl
  have mO2 : σ' 18593 = 0 + (1 * τ 1000003 + 0) := hm 18593 (by decide)
  have mA2 : σ' 18548 = 0 + (1 * τ 1000001 + 0) := hm 18548 (by decide)
  unfold sy_or at ho2
  rw [mX2, mY2, show (8 : Int).toNat = 2 ^ 3 from rfl] at ho2
  have ti : lw_ti a1.toNat a2.toNat (fun p => σ (18544 + p)) (fun p => σ' (18544 + p)) := by
    rw [show a1.toNat = 3 by omega, show a2.toNat = 4 by omega]
    intro p hp
    rcases (show p = 0 ∨ p = 1 ∨ p = 2 ∨ p = 3 ∨ p = 4 ∨ p = 5 ∨ p = 6 ∨ p = 7 by omega) with rfl | rfl | rfl | rfl | rfl | rfl | rfl | rfl
    · show σ' 18544 = if (0 : Nat) = 3 then _ else if (0 : Nat) = 4 then _ else _
      rw [if_neg (by decide), if_neg (by decide)]
      exact lw_id (hs _ (by decide)) (hm _ (by decide))
    · show σ' 18545 = if (1 : Nat) = 3 then _ else if (1 : Nat) = 4 then _ else _
      rw [if_neg (by decide), if_neg (by decide)]
      exact lw_id (hs _ (by decide)) (hm _ (by decide))
    · show σ' 18546 = if (2 : Nat) = 3 then _ else if (2 : Nat) = 4 then _ else _
      rw [if_neg (by decide), if_neg (by decide)]
      exact lw_id (hs _ (by decide)) (hm _ (by decide))
    · show σ' 18547 = if (3 : Nat) = 3 then _ else _
      rw [if_pos rfl]
      show σ' 18547 = (((σ 18547).toNat ||| 2 ^ 4 : Nat) : Int)
      omega
    · show σ' 18548 = if (4 : Nat) = 3 then _ else if (4 : Nat) = 4 then _ else _
      rw [if_neg (by decide), if_pos rfl]
      show σ' 18548 = (((σ 18548).toNat ||| 2 ^ 3 : Nat) : Int)
      omega
    · show σ' 18549 = if (5 : Nat) = 3 then _ else if (5 : Nat) = 4 then _ else _
      rw [if_neg (by decide), if_neg (by decide)]
      exact lw_id (hs _ (by decide)) (hm _ (by decide))
    · show σ' 18550 = if (6 : Nat) = 3 then _ else if (6 : Nat) = 4 then _ else _
      rw [if_neg (by decide), if_neg (by decide)]
      exact lw_id (hs _ (by decide)) (hm _ (by decide))
    · show σ' 18551 = if (7 : Nat) = 3 then _ else if (7 : Nat) = 4 then _ else _
      rw [if_neg (by decide), if_neg (by decide)]
      exact lw_id (hs _ (by decide)) (hm _ (by decide))
  exact Or.inl ⟨by omega, by omega, by omega, by omega, by omega, Or.inl ⟨by omega, ti, (fun p hp => (by rcases (show p = 0 ∨ p = 1 ∨ p = 2 ∨ p = 3 ∨ p = 4 ∨ p = 5 ∨ p = 6 ∨ p = 7 by omega) with rfl | rfl | rfl | rfl | rfl | rfl | rfl | rfl <;> exact lw_id (hs _ (by decide)) (hm _ (by decide))))⟩⟩
set_option maxHeartbeats 1000000 in
theorem lw_ux_94 {as : List rv_A} {σ σ' : Nat → Int} {o : rv_O} {x : Int32} {a1 a2 a3 : Int} {τ : Nat → Int} (hx : o.1 = some (.inl x)) (h1 : lw_av as 1 = a1) (h2 : lw_av as 2 = a2) (h3 : lw_av as 3 = a3) (ho1 : sy_or (σ' 18588) (σ' 18589) (σ' 18590)) (ho2 : sy_or (σ' 18591) (σ' 18592) (σ' 18593)) (hW : lw_W ([(18547, 16, 255), (18548, 8, 255), (18590, 16, 255), (18593, 8, 255)], [(0, [(18547, (-1)), (1000000, 1)]), (0, [(18548, (-1)), (1000001, 1)]), ((-1), [(133, 1)]), (11, [(134, (-1))]), ((-3), [(19001, 1)]), (3, [(19001, (-1))]), ((-4), [(19002, 1)]), (4, [(19002, (-1))]), ((-1), [(19003, 1)]), (0, [(1000000, 1), (1000002, (-1))]), (0, [(1000000, (-1)), (1000002, 1)]), (0, [(1000001, 1), (1000003, (-1))]), (0, [(1000001, (-1)), (1000003, 1)]), ((-1), [(19001, 1), (19002, (-1))]), ((-1), [(133, 1), (19002, (-1))]), ((-1), [(133, 1), (19001, (-1))])], [(9, (0, [])), (134, (1, [(134, 1)])), (7048, ((-2), [])), (7049, ((-2), [])), (8069, (0, [])), (11396, ((-2), [])), (18547, (0, [(1000000, 1)])), (18548, (0, [(1000001, 1)])), (18588, (0, [(18547, 1)])), (18589, (16, [])), (18590, (0, [(1000002, 1)])), (18591, (0, [(18548, 1)])), (18592, (8, [])), (18593, (0, [(1000003, 1)])), (18594, (2, []))], some (false, (1, []))) as σ σ' τ o) : lw_ux_C a1 a2 a3 x.toInt σ σ' := by
  unfold lw_ux_C
  obtain ⟨hs, ht, hf, hr, hm, hw⟩ := hW
  have e1 : τ 19001 = a1 := by rw [ht 19001 (by decide) (by decide)]; exact h1
  have e2 : τ 19002 = a2 := by rw [ht 19002 (by decide) (by decide)]; exact h2
  have e3 : τ 19003 = a3 := by rw [ht 19003 (by decide) (by decide)]; exact h3
  rw [hx] at hr
  obtain ⟨y, hy, hv⟩ := hr
  cases hy
  replace hv : x.toInt = 1 + 0 := hv
  have f0 : 0 ≤ 0 + ((-1) * τ 18547 + (1 * τ 1000000 + 0)) := hf _ (List.Mem.head _)
  have f1 : 0 ≤ 0 + ((-1) * τ 18548 + (1 * τ 1000001 + 0)) := hf _ (List.Mem.tail _ (List.Mem.head _))
  have f2 : 0 ≤ (-1) + (1 * τ 133 + 0) := hf _ (List.Mem.tail _ (List.Mem.tail _ (List.Mem.head _)))
  have f3 : 0 ≤ 11 + ((-1) * τ 134 + 0) := hf _ (List.Mem.tail _ (List.Mem.tail _ (List.Mem.tail _ (List.Mem.head _))))
  have f4 : 0 ≤ (-3) + (1 * τ 19001 + 0) := hf _ (List.Mem.tail _ (List.Mem.tail _ (List.Mem.tail _ (List.Mem.tail _ (List.Mem.head _)))))
  have f5 : 0 ≤ 3 + ((-1) * τ 19001 + 0) := hf _ (List.Mem.tail _ (List.Mem.tail _ (List.Mem.tail _ (List.Mem.tail _ (List.Mem.tail _ (List.Mem.head _))))))
  have f6 : 0 ≤ (-4) + (1 * τ 19002 + 0) := hf _ (List.Mem.tail _ (List.Mem.tail _ (List.Mem.tail _ (List.Mem.tail _ (List.Mem.tail _ (List.Mem.tail _ (List.Mem.head _)))))))
  have f7 : 0 ≤ 4 + ((-1) * τ 19002 + 0) := hf _ (List.Mem.tail _ (List.Mem.tail _ (List.Mem.tail _ (List.Mem.tail _ (List.Mem.tail _ (List.Mem.tail _ (List.Mem.tail _ (List.Mem.head _))))))))
  have f8 : 0 ≤ (-1) + (1 * τ 19003 + 0) := hf _ (List.Mem.tail _ (List.Mem.tail _ (List.Mem.tail _ (List.Mem.tail _ (List.Mem.tail _ (List.Mem.tail _ (List.Mem.tail _ (List.Mem.tail _ (List.Mem.head _)))))))))
  have f9 : 0 ≤ 0 + (1 * τ 1000000 + ((-1) * τ 1000002 + 0)) := hf _ (List.Mem.tail _ (List.Mem.tail _ (List.Mem.tail _ (List.Mem.tail _ (List.Mem.tail _ (List.Mem.tail _ (List.Mem.tail _ (List.Mem.tail _ (List.Mem.tail _ (List.Mem.head _))))))))))
  have f10 : 0 ≤ 0 + ((-1) * τ 1000000 + (1 * τ 1000002 + 0)) := hf _ (List.Mem.tail _ (List.Mem.tail _ (List.Mem.tail _ (List.Mem.tail _ (List.Mem.tail _ (List.Mem.tail _ (List.Mem.tail _ (List.Mem.tail _ (List.Mem.tail _ (List.Mem.tail _ (List.Mem.head _)))))))))))
  have f11 : 0 ≤ 0 + (1 * τ 1000001 + ((-1) * τ 1000003 + 0)) := hf _ (List.Mem.tail _ (List.Mem.tail _ (List.Mem.tail _ (List.Mem.tail _ (List.Mem.tail _ (List.Mem.tail _ (List.Mem.tail _ (List.Mem.tail _ (List.Mem.tail _ (List.Mem.tail _ (List.Mem.tail _ (List.Mem.head _))))))))))))
  have f12 : 0 ≤ 0 + ((-1) * τ 1000001 + (1 * τ 1000003 + 0)) := hf _ (List.Mem.tail _ (List.Mem.tail _ (List.Mem.tail _ (List.Mem.tail _ (List.Mem.tail _ (List.Mem.tail _ (List.Mem.tail _ (List.Mem.tail _ (List.Mem.tail _ (List.Mem.tail _ (List.Mem.tail _ (List.Mem.tail _ (List.Mem.head _)))))))))))))
  have f13 : 0 ≤ (-1) + (1 * τ 19001 + ((-1) * τ 19002 + 0)) := hf _ (List.Mem.tail _ (List.Mem.tail _ (List.Mem.tail _ (List.Mem.tail _ (List.Mem.tail _ (List.Mem.tail _ (List.Mem.tail _ (List.Mem.tail _ (List.Mem.tail _ (List.Mem.tail _ (List.Mem.tail _ (List.Mem.tail _ (List.Mem.tail _ (List.Mem.head _))))))))))))))
  have f14 : 0 ≤ (-1) + (1 * τ 133 + ((-1) * τ 19002 + 0)) := hf _ (List.Mem.tail _ (List.Mem.tail _ (List.Mem.tail _ (List.Mem.tail _ (List.Mem.tail _ (List.Mem.tail _ (List.Mem.tail _ (List.Mem.tail _ (List.Mem.tail _ (List.Mem.tail _ (List.Mem.tail _ (List.Mem.tail _ (List.Mem.tail _ (List.Mem.tail _ (List.Mem.head _)))))))))))))))
  have f15 : 0 ≤ (-1) + (1 * τ 133 + ((-1) * τ 19001 + 0)) := hf _ (List.Mem.tail _ (List.Mem.tail _ (List.Mem.tail _ (List.Mem.tail _ (List.Mem.tail _ (List.Mem.tail _ (List.Mem.tail _ (List.Mem.tail _ (List.Mem.tail _ (List.Mem.tail _ (List.Mem.tail _ (List.Mem.tail _ (List.Mem.tail _ (List.Mem.tail _ (List.Mem.tail _ (List.Mem.head _))))))))))))))))
  have mX1 : σ' 18588 = σ 18547 := lw_id (hs 18547 (by decide)) (hm 18588 (by decide))
  have mY1 : σ' 18589 = 16 := (hm 18589 (by decide)).trans rfl
  have mO1 : σ' 18590 = 0 + (1 * τ 1000002 + 0) := hm 18590 (by decide)
  have mA1 : σ' 18547 = 0 + (1 * τ 1000000 + 0) := hm 18547 (by decide)
  unfold sy_or at ho1
  rw [mX1, mY1, show (16 : Int).toNat = 2 ^ 4 from rfl] at ho1
  have mX2 : σ' 18591 = σ 18548 := lw_id (hs 18548 (by decide)) (hm 18591 (by decide))
  have mY2 : σ' 18592 = 8 := (hm 18592 (by decide)).trans rfl
  have mO2 : σ' 18593 = 0 + (1 * τ 1000003 + 0) := hm 18593 (by decide)
  have mA2 : σ' 18548 = 0 + (1 * τ 1000001 + 0) := hm 18548 (by decide)
  unfold sy_or at ho2
  rw [mX2, mY2, show (8 : Int).toNat = 2 ^ 3 from rfl] at ho2
  have ti : lw_ti a1.toNat a2.toNat (fun p => σ (18544 + p)) (fun p => σ' (18544 + p)) := by
    rw [show a1.toNat = 3 by omega, show a2.toNat = 4 by omega]
    intro p hp
    rcases (show p = 0 ∨ p = 1 ∨ p = 2 ∨ p = 3 ∨ p = 4 ∨ p = 5 ∨ p = 6 ∨ p = 7 by omega) with rfl | rfl | rfl | rfl | rfl | rfl | rfl | rfl
    · show σ' 18544 = if (0 : Nat) = 3 then _ else if (0 : Nat) = 4 then _ else _
      rw [if_neg (by decide), if_neg (by decide)]
      exact lw_id (hs _ (by decide)) (hm _ (by decide))
    · show σ' 18545 = if (1 : Nat) = 3 then _ else if (1 : Nat) = 4 then _ else _
      rw [if_neg (by decide), if_neg (by decide)]
      exact lw_id (hs _ (by decide)) (hm _ (by decide))
    · show σ' 18546 = if (2 : Nat) = 3 then _ else if (2 : Nat) = 4 then _ else _
      rw [if_neg (by decide), if_neg (by decide)]
      exact lw_id (hs _ (by decide)) (hm _ (by decide))
    · show σ' 18547 = if (3 : Nat) = 3 then _ else _
      rw [if_pos rfl]
      show σ' 18547 = (((σ 18547).toNat ||| 2 ^ 4 : Nat) : Int)
      omega
    · show σ' 18548 = if (4 : Nat) = 3 then _ else if (4 : Nat) = 4 then _ else _
      rw [if_neg (by decide), if_pos rfl]
      show σ' 18548 = (((σ 18548).toNat ||| 2 ^ 3 : Nat) : Int)
      omega
    · show σ' 18549 = if (5 : Nat) = 3 then _ else if (5 : Nat) = 4 then _ else _
      rw [if_neg (by decide), if_neg (by decide)]
      exact lw_id (hs _ (by decide)) (hm _ (by decide))
    · show σ' 18550 = if (6 : Nat) = 3 then _ else if (6 : Nat) = 4 then _ else _
      rw [if_neg (by decide), if_neg (by decide)]
      exact lw_id (hs _ (by decide)) (hm _ (by decide))
    · show σ' 18551 = if (7 : Nat) = 3 then _ else if (7 : Nat) = 4 then _ else _
      rw [if_neg (by decide), if_neg (by decide)]
      exact lw_id (hs _ (by decide)) (hm _ (by decide))
  exact Or.inl ⟨by omega, by omega, by omega, by omega, by omega, Or.inl ⟨by omega, ti, (fun p hp => (by rcases (show p = 0 ∨ p = 1 ∨ p = 2 ∨ p = 3 ∨ p = 4 ∨ p = 5 ∨ p = 6 ∨ p = 7 by omega) with rfl | rfl | rfl | rfl | rfl | rfl | rfl | rfl <;> exact lw_id (hs _ (by decide)) (hm _ (by decide))))⟩⟩
set_option maxHeartbeats 1000000 in
theorem lw_ux_95 {as : List rv_A} {σ σ' : Nat → Int} {o : rv_O} {x : Int32} {a1 a2 a3 : Int} {τ : Nat → Int} (hx : o.1 = some (.inl x)) (h1 : lw_av as 1 = a1) (h2 : lw_av as 2 = a2) (h3 : lw_av as 3 = a3) (ho1 : sy_or (σ' 18588) (σ' 18589) (σ' 18590)) (ho2 : sy_or (σ' 18591) (σ' 18592) (σ' 18593)) (hW : lw_W ([(18539, 32, 255), (18541, 8, 255), (18590, 32, 255), (18593, 8, 255)], [(0, [(18539, (-1)), (1000000, 1)]), (0, [(18541, (-1)), (1000001, 1)]), ((-1), [(133, 1)]), (11, [(134, (-1))]), ((-3), [(19001, 1)]), (3, [(19001, (-1))]), ((-5), [(19002, 1)]), (5, [(19002, (-1))]), (0, [(19003, (-1))]), (0, [(1000000, 1), (1000002, (-1))]), (0, [(1000000, (-1)), (1000002, 1)]), (0, [(1000001, 1), (1000003, (-1))]), (0, [(1000001, (-1)), (1000003, 1)]), ((-1), [(19001, (-1)), (19002, 1)]), ((-1), [(133, 1), (19002, (-1))]), ((-1), [(133, 1), (19001, (-1))])], [(9, (0, [])), (134, (1, [(134, 1)])), (7048, ((-2), [])), (7049, ((-2), [])), (8069, (0, [])), (11396, ((-2), [])), (18539, (0, [(1000000, 1)])), (18541, (0, [(1000001, 1)])), (18588, (0, [(18539, 1)])), (18589, (32, [])), (18590, (0, [(1000002, 1)])), (18591, (0, [(18541, 1)])), (18592, (8, [])), (18593, (0, [(1000003, 1)])), (18594, (2, []))], some (false, (1, []))) as σ σ' τ o) : lw_ux_C a1 a2 a3 x.toInt σ σ' := by
  unfold lw_ux_C
  obtain ⟨hs, ht, hf, hr, hm, hw⟩ := hW
  have e1 : τ 19001 = a1 := by rw [ht 19001 (by decide) (by decide)]; exact h1
  have e2 : τ 19002 = a2 := by rw [ht 19002 (by decide) (by decide)]; exact h2
  have e3 : τ 19003 = a3 := by rw [ht 19003 (by decide) (by decide)]; exact h3
  rw [hx] at hr
  obtain ⟨y, hy, hv⟩ := hr
  cases hy
  replace hv : x.toInt = 1 + 0 := hv
  have f0 : 0 ≤ 0 + ((-1) * τ 18539 + (1 * τ 1000000 + 0)) := hf _ (List.Mem.head _)
  have f1 : 0 ≤ 0 + ((-1) * τ 18541 + (1 * τ 1000001 + 0)) := hf _ (List.Mem.tail _ (List.Mem.head _))
  have f2 : 0 ≤ (-1) + (1 * τ 133 + 0) := hf _ (List.Mem.tail _ (List.Mem.tail _ (List.Mem.head _)))
  have f3 : 0 ≤ 11 + ((-1) * τ 134 + 0) := hf _ (List.Mem.tail _ (List.Mem.tail _ (List.Mem.tail _ (List.Mem.head _))))
  have f4 : 0 ≤ (-3) + (1 * τ 19001 + 0) := hf _ (List.Mem.tail _ (List.Mem.tail _ (List.Mem.tail _ (List.Mem.tail _ (List.Mem.head _)))))
  have f5 : 0 ≤ 3 + ((-1) * τ 19001 + 0) := hf _ (List.Mem.tail _ (List.Mem.tail _ (List.Mem.tail _ (List.Mem.tail _ (List.Mem.tail _ (List.Mem.head _))))))
  have f6 : 0 ≤ (-5) + (1 * τ 19002 + 0) := hf _ (List.Mem.tail _ (List.Mem.tail _ (List.Mem.tail _ (List.Mem.tail _ (List.Mem.tail _ (List.Mem.tail _ (List.Mem.head _)))))))
  have f7 : 0 ≤ 5 + ((-1) * τ 19002 + 0) := hf _ (List.Mem.tail _ (List.Mem.tail _ (List.Mem.tail _ (List.Mem.tail _ (List.Mem.tail _ (List.Mem.tail _ (List.Mem.tail _ (List.Mem.head _))))))))
  have f8 : 0 ≤ 0 + ((-1) * τ 19003 + 0) := hf _ (List.Mem.tail _ (List.Mem.tail _ (List.Mem.tail _ (List.Mem.tail _ (List.Mem.tail _ (List.Mem.tail _ (List.Mem.tail _ (List.Mem.tail _ (List.Mem.head _)))))))))
  have f9 : 0 ≤ 0 + (1 * τ 1000000 + ((-1) * τ 1000002 + 0)) := hf _ (List.Mem.tail _ (List.Mem.tail _ (List.Mem.tail _ (List.Mem.tail _ (List.Mem.tail _ (List.Mem.tail _ (List.Mem.tail _ (List.Mem.tail _ (List.Mem.tail _ (List.Mem.head _))))))))))
  have f10 : 0 ≤ 0 + ((-1) * τ 1000000 + (1 * τ 1000002 + 0)) := hf _ (List.Mem.tail _ (List.Mem.tail _ (List.Mem.tail _ (List.Mem.tail _ (List.Mem.tail _ (List.Mem.tail _ (List.Mem.tail _ (List.Mem.tail _ (List.Mem.tail _ (List.Mem.tail _ (List.Mem.head _)))))))))))
  have f11 : 0 ≤ 0 + (1 * τ 1000001 + ((-1) * τ 1000003 + 0)) := hf _ (List.Mem.tail _ (List.Mem.tail _ (List.Mem.tail _ (List.Mem.tail _ (List.Mem.tail _ (List.Mem.tail _ (List.Mem.tail _ (List.Mem.tail _ (List.Mem.tail _ (List.Mem.tail _ (List.Mem.tail _ (List.Mem.head _))))))))))))
  have f12 : 0 ≤ 0 + ((-1) * τ 1000001 + (1 * τ 1000003 + 0)) := hf _ (List.Mem.tail _ (List.Mem.tail _ (List.Mem.tail _ (List.Mem.tail _ (List.Mem.tail _ (List.Mem.tail _ (List.Mem.tail _ (List.Mem.tail _ (List.Mem.tail _ (List.Mem.tail _ (List.Mem.tail _ (List.Mem.tail _ (List.Mem.head _)))))))))))))
  have f13 : 0 ≤ (-1) + ((-1) * τ 19001 + (1 * τ 19002 + 0)) := hf _ (List.Mem.tail _ (List.Mem.tail _ (List.Mem.tail _ (List.Mem.tail _ (List.Mem.tail _ (List.Mem.tail _ (List.Mem.tail _ (List.Mem.tail _ (List.Mem.tail _ (List.Mem.tail _ (List.Mem.tail _ (List.Mem.tail _ (List.Mem.tail _ (List.Mem.head _))))))))))))))
  have f14 : 0 ≤ (-1) + (1 * τ 133 + ((-1) * τ 19002 + 0)) := hf _ (List.Mem.tail _ (List.Mem.tail _ (List.Mem.tail _ (List.Mem.tail _ (List.Mem.tail _ (List.Mem.tail _ (List.Mem.tail _ (List.Mem.tail _ (List.Mem.tail _ (List.Mem.tail _ (List.Mem.tail _ (List.Mem.tail _ (List.Mem.tail _ (List.Mem.tail _ (List.Mem.head _)))))))))))))))
  have f15 : 0 ≤ (-1) + (1 * τ 133 + ((-1) * τ 19001 + 0)) := hf _ (List.Mem.tail _ (List.Mem.tail _ (List.Mem.tail _ (List.Mem.tail _ (List.Mem.tail _ (List.Mem.tail _ (List.Mem.tail _ (List.Mem.tail _ (List.Mem.tail _ (List.Mem.tail _ (List.Mem.tail _ (List.Mem.tail _ (List.Mem.tail _ (List.Mem.tail _ (List.Mem.tail _ (List.Mem.head _))))))))))))))))
  have mX1 : σ' 18588 = σ 18539 := lw_id (hs 18539 (by decide)) (hm 18588 (by decide))
  have mY1 : σ' 18589 = 32 := (hm 18589 (by decide)).trans rfl
  have mO1 : σ' 18590 = 0 + (1 * τ 1000002 + 0) := hm 18590 (by decide)
  have mA1 : σ' 18539 = 0 + (1 * τ 1000000 + 0) := hm 18539 (by decide)
  unfold sy_or at ho1
  rw [mX1, mY1, show (32 : Int).toNat = 2 ^ 5 from rfl] at ho1
  have mX2 : σ' 18591 = σ 18541 := lw_id (hs 18541 (by decide)) (hm 18591 (by decide))
  have mY2 : σ' 18592 = 8 := (hm 18592 (by decide)).trans rfl
  have mO2 : σ' 18593 = 0 + (1 * τ 1000003 + 0) := hm 18593 (by decide)
  have mA2 : σ' 18541 = 0 + (1 * τ 1000001 + 0) := hm 18541 (by decide)
  unfold sy_or at ho2
  rw [mX2, mY2, show (8 : Int).toNat = 2 ^ 3 from rfl] at ho2
  have ti : lw_ti a1.toNat a2.toNat (fun p => σ (18536 + p)) (fun p => σ' (18536 + p)) := by
    rw [show a1.toNat = 3 by omega, show a2.toNat = 5 by omega]
    intro p hp
    rcases (show p = 0 ∨ p = 1 ∨ p = 2 ∨ p = 3 ∨ p = 4 ∨ p = 5 ∨ p = 6 ∨ p = 7 by omega) with rfl | rfl | rfl | rfl | rfl | rfl | rfl | rfl
    · show σ' 18536 = if (0 : Nat) = 3 then _ else if (0 : Nat) = 5 then _ else _
      rw [if_neg (by decide), if_neg (by decide)]
      exact lw_id (hs _ (by decide)) (hm _ (by decide))
    · show σ' 18537 = if (1 : Nat) = 3 then _ else if (1 : Nat) = 5 then _ else _
      rw [if_neg (by decide), if_neg (by decide)]
      exact lw_id (hs _ (by decide)) (hm _ (by decide))
    · show σ' 18538 = if (2 : Nat) = 3 then _ else if (2 : Nat) = 5 then _ else _
      rw [if_neg (by decide), if_neg (by decide)]
      exact lw_id (hs _ (by decide)) (hm _ (by decide))
    · show σ' 18539 = if (3 : Nat) = 3 then _ else _
      rw [if_pos rfl]
      show σ' 18539 = (((σ 18539).toNat ||| 2 ^ 5 : Nat) : Int)
      omega
    · show σ' 18540 = if (4 : Nat) = 3 then _ else if (4 : Nat) = 5 then _ else _
      rw [if_neg (by decide), if_neg (by decide)]
      exact lw_id (hs _ (by decide)) (hm _ (by decide))
    · show σ' 18541 = if (5 : Nat) = 3 then _ else if (5 : Nat) = 5 then _ else _
      rw [if_neg (by decide), if_pos rfl]
      show σ' 18541 = (((σ 18541).toNat ||| 2 ^ 3 : Nat) : Int)
      omega
    · show σ' 18542 = if (6 : Nat) = 3 then _ else if (6 : Nat) = 5 then _ else _
      rw [if_neg (by decide), if_neg (by decide)]
      exact lw_id (hs _ (by decide)) (hm _ (by decide))
    · show σ' 18543 = if (7 : Nat) = 3 then _ else if (7 : Nat) = 5 then _ else _
      rw [if_neg (by decide), if_neg (by decide)]
      exact lw_id (hs _ (by decide)) (hm _ (by decide))
  exact Or.inl ⟨by omega, by omega, by omega, by omega, by omega, Or.inr ⟨by omega, ti, (fun p hp => (by rcases (show p = 0 ∨ p = 1 ∨ p = 2 ∨ p = 3 ∨ p = 4 ∨ p = 5 ∨ p = 6 ∨ p = 7 by omega) with rfl | rfl | rfl | rfl | rfl | rfl | rfl | rfl <;> exact lw_id (hs _ (by decide)) (hm _ (by decide))))⟩⟩
