noncomputable abbrev rv_e (mi : Nat) (as : List rv_A) (h : List rv_C) : Option rv_R := rv_ev rv_nw rv_ct rv_tab (fun _ _ => none) 30 mi as h
theorem rt_1 : rv_eqR (rv_e 74 [rv_ref 0] [.inl (11, rv_nw 11)]) (some (99, 21960, [(none, rh_1)])) = true := by decide +kernel
theorem rt_2 : rv_eqR (rv_e 131 [rv_ref 100] (rh_1 ++ [.inl (12, rv_nw 12)])) (some (42, 30714, [(none, rh_2)])) = true := by decide +kernel
def rv_ans (a : Option rv_R) (v : rv_A) : Bool := match a with
  | some (n, m, s) => n.beq 0 && m.beq 0 && s.all (fun o => match o.1 with
    | some x => rv_eqA x v
    | none => false)
  | none => false
theorem rt_3 : rv_ans (rv_e 165 [rv_ref 100, rv_int 1] rh_2) (rv_int 1) = true := by decide +kernel
