/-! WHAT THE NUMBERS SAY of the arrays -/
def sx_g1 (w : Int) (f : Nat → Int) : Prop := f 0 = w
def sx_g2 (t0 t1 t2 t3 t4 : Int) (f : Nat → Int) : Prop := f 0 = t0 ∧ f 1 = t1 ∧ f 2 = t2 ∧ f 3 = t3 ∧ f 4 = t4
def sx_g9 (a b c d : Int) (f : Nat → Int) : Prop := f 0 = a ∧ f 1 = b ∧ f 2 = c ∧ f 3 = d
def sx_g0 (f : Nat → Int) : Prop := f 0 = 42 ∧ f 1 = 44 ∧ f 2 = 46 ∧ f 3 = 48
def sx_gq (x q : Int) : Prop := q = x / 32
/-- all digits, by 32, are 1 to 26 -/
def sx_gdn (n : Nat) : Prop := ∀ k : Nat, n / 32 ^ k ≠ 0 → 1 ≤ n / 32 ^ k % 32 ∧ n / 32 ^ k % 32 ≤ 26
def sx_gl (n l b : Int) : Prop := (1 ≤ b → (sx_gdn n.toNat ↔ sx_gdn l.toNat)) ∧ (b ≤ 0 → ¬ sx_gdn n.toNat)
def sx_gfn (x m i : Int) (f : Nat → Int) : Prop := (∀ j : Nat, (j : Int) < m → f j ≠ x) ∧ (0 ≤ i → f i.toNat = x)
def sx_gn (n0 n1 n2 n3 n4 n5 n6 n7 : Int) (f : Nat → Int) : Prop := f 0 = n0 ∧ f 1 = n1 ∧ f 2 = n2 ∧ f 3 = n3 ∧ f 4 = n4 ∧ f 5 = n5 ∧ f 6 = n6 ∧ f 7 = n7
def sx_gz (z x : Int) : Prop := (x = 0 ∧ z = 0) ∨ (42 ≤ x ∧ z = 1)
def sx_g3 (z0 z1 z2 z3 z4 z5 z6 : Int) (f : Nat → Int) : Prop := sx_gz z0 (f 0) ∧ sx_gz z1 (f 1) ∧ sx_gz z2 (f 2) ∧ sx_gz z3 (f 3) ∧ sx_gz z4 (f 4) ∧ sx_gz z5 (f 5) ∧ sx_gz z6 (f 6)
def sx_g4 (b : Int) (f : Nat → Int) : Prop := ∀ j : Nat, (j : Int) < b → 0 ≤ f j
def sx_g5 (b : Int) (f : Nat → Int) : Prop := ∀ j : Nat, (j : Int) < b → f j ≤ j
-- rooms that are numbered as they come: all such rows of m more places with k rooms before; how many stand before one
def sx_all : Nat → Nat → List (List Nat)
  | 0, _ => [[]]
  | m + 1, k => (List.range (k + 1)).flatMap (fun x => (sx_all m (max k (x + 1))).map (fun t => x :: t))
def sx_c8 (l : List Nat) : Nat := l.foldl (fun a x => a * 10 + x) 0
def sx_cnt (c : Nat) : Nat := (sx_all 8 0).countP (fun l => Nat.blt (sx_c8 l) c)
def sx_tr (u : Int) (f : Nat → Int) (j : Nat) : Nat := if (j : Int) < u then (f j).toNat else 0
def sx_t8 (u : Int) (f : Nat → Int) : List Nat := [sx_tr u f 0, sx_tr u f 1, sx_tr u f 2, sx_tr u f 3, sx_tr u f 4, sx_tr u f 5, sx_tr u f 6, sx_tr u f 7]
def sx_g6 (u k li lv mx mi : Int) (f : Nat → Int) : Prop := (∀ j : Nat, (j : Int) < u → 0 ≤ f j ∧ f j ≤ j ∧ (f j = 0 ∨ ∃ i, i < j ∧ f j ≤ f i + 1)) ∧ k ≤ sx_cnt (sx_c8 (sx_t8 u f)) ∧ (li = 8 ∨ f li.toNat = lv) ∧ (mx ≤ -1 ∨ ∃ i : Nat, (i : Int) < mi ∧ mx ≤ f i)
def sx_g7 (i v : Int) (f : Nat → Int) : Prop := 0 ≤ i → f i.toNat = v
def sx_g8 (a b u : Int) : Prop := u = ((a.toNat &&& b.toNat : Nat) : Int)
-- texts: signs in order, each sign of two having two numbers before it
def sx_hk (S : Nat → Int) : Nat → Nat → Int → Prop
  | 0, _, _ => True
  | m + 1, k, v => if S k ≤ 1 then sx_hk S m (k + 1) (v + 1) else 2 ≤ v ∧ sx_hk S m (k + 1) (v - 1)
def sx_hf (S : Nat → Int) : Nat → Nat → Int → Int
  | 0, _, v => v
  | m + 1, k, v => if S k ≤ 1 then sx_hf S m (k + 1) (v + 1) else sx_hf S m (k + 1) (v - 1)
def sx_ho (S : Nat → Int) (a b : Int) : Prop := sx_hk S (b - a).toNat a.toNat 0
def sx_o1 (S F T R : Nat → Int) (a b : Int) (q : Nat) : Prop := a ≤ F q ∧ F q ≤ T q ∧ T q ≤ R q ∧ R q ≤ b ∧ sx_ho S (F q) (T q) ∧ sx_ho S (T q) (R q)
def sx_s1 (S F T : Nat → Int) (a b : Int) (s : Nat) : Prop := a ≤ F s ∧ F s ≤ T s ∧ T s ≤ b ∧ sx_ho S (F s) (T s)
def sx_p1 (S F T R TF TT SF ST : Nat → Int) (p s : Nat) : Prop := sx_s1 S SF ST (320 * p) (320 * p + 320) s ∧ 160 * (p : Int) ≤ TF s ∧ TF s ≤ TT s ∧ TT s ≤ 160 * p + 160 ∧ ∀ q : Nat, TF s ≤ q → (q : Int) < TT s → sx_o1 S F T R (320 * p) (320 * p + 320) q
/-- the texts of all but one -/
def sx_x1 (D : Int) (S F T R TF TT SF ST SY : Nat → Int) : Prop := ∀ p : Nat, p < 8 → (p : Int) ≠ D → SY p ≤ 12 ∧ ∀ s : Nat, 12 * p ≤ s → (s : Int) < 12 * p + SY p → sx_p1 S F T R TF TT SF ST p s
/-- who reads -/
def sx_x2 (D rK rV rE rQ rL rT0 rT1 rSq rSs rP rN rF : Int) (S F T R TT ST SY : Nat → Int) : Prop := sx_hk S (rE - rK).toNat rK.toNat rV ∧ (0 ≤ rQ → T rQ.toNat = rL ∧ rL ≤ R rQ.toNat ∧ R rQ.toNat ≤ rL + 320 ∧ sx_ho S rL (R rQ.toNat)) ∧ (∀ q : Nat, rT0 ≤ q → (q : Int) < rT1 → ∃ a b : Int, b ≤ 2900 ∧ b ≤ a + 320 ∧ sx_o1 S F T R a b q) ∧ (0 ≤ rSq → TT rSq.toNat = rT1) ∧ (0 ≤ rSs → ST rSs.toNat = rF) ∧ (0 ≤ rP → D = -1 ∧ SY rP.toNat = rN)
/-- who writes -/
def sx_x3 (w0 w1 wh wp wa tE sp sa sb tB sE : Int) (S F T R TF TT SF ST : Nat → Int) : Prop := w0 ≤ w1 ∧ sx_ho S w0 w1 ∧ sx_hf S (w1 - w0).toNat w0.toNat 0 = wh ∧ (1 ≤ wp → F tE.toNat = wa ∧ wa ≤ w0) ∧ (2 ≤ wp → T tE.toNat = w0 ∧ sx_ho S wa w0) ∧ (∀ q : Nat, 1280 ≤ q → (q : Int) < tE → sx_o1 S F T R 2560 w1 q) ∧ (1 ≤ sp → SF sE.toNat = sa ∧ sa ≤ w1) ∧ (2 ≤ sp → ST sE.toNat = sb ∧ sa ≤ sb ∧ sb ≤ w1 ∧ sx_ho S sa sb) ∧ (3 ≤ sp → TF sE.toNat = tB ∧ tB ≤ tE) ∧ (∀ s : Nat, 96 ≤ s → (s : Int) < sE → sx_s1 S SF ST 2560 w1 s ∧ 1280 ≤ TF s ∧ TF s ≤ TT s ∧ TT s ≤ tE)
/-- who copies -/
def sx_x4 (D cS cO cp cY yp : Int) (S F T R TF TT SF ST : Nat → Int) : Prop := 0 ≤ D → (∀ j : Nat, 2560 ≤ j → (j : Int) < cS → S (j + 320 * D.toNat - 2560) = S j) ∧ (∀ q : Nat, 1280 ≤ q → (q : Int) < cO → F (q + 160 * D.toNat - 1280) = F q + 320 * D - 2560 ∧ T (q + 160 * D.toNat - 1280) = T q + 320 * D - 2560 ∧ R (q + 160 * D.toNat - 1280) = R q + 320 * D - 2560) ∧ (1 ≤ cp → F (cO.toNat + 160 * D.toNat - 1280) = F cO.toNat + 320 * D - 2560) ∧ (2 ≤ cp → T (cO.toNat + 160 * D.toNat - 1280) = T cO.toNat + 320 * D - 2560) ∧ (∀ i : Nat, (i : Int) < cY → SF (12 * D.toNat + i) = SF (96 + i) + 320 * D - 2560 ∧ ST (12 * D.toNat + i) = ST (96 + i) + 320 * D - 2560 ∧ TF (12 * D.toNat + i) = TF (96 + i) + 160 * D - 1280 ∧ TT (12 * D.toNat + i) = TT (96 + i) + 160 * D - 1280) ∧ (1 ≤ yp → SF (12 * D.toNat + cY.toNat) = SF (96 + cY.toNat) + 320 * D - 2560) ∧ (2 ≤ yp → ST (12 * D.toNat + cY.toNat) = ST (96 + cY.toNat) + 320 * D - 2560) ∧ (3 ≤ yp → TF (12 * D.toNat + cY.toNat) = TF (96 + cY.toNat) + 160 * D - 1280)
def sx_x5 (lw lI lV : Int) (S F T R TF TT SF ST : Nat → Int) : Prop := (lw = 1 → S lI.toNat = lV) ∧ (lw = 2 → F lI.toNat = lV) ∧ (lw = 3 → T lI.toNat = lV) ∧ (lw = 4 → R lI.toNat = lV) ∧ (lw = 5 → SF lI.toNat = lV) ∧ (lw = 6 → ST lI.toNat = lV) ∧ (lw = 7 → TF lI.toNat = lV) ∧ (lw = 8 → TT lI.toNat = lV)
