/-! HEADS OF LOOPS, and what a method's walk must show -/
/-- the place of a head in the body and its pc; the symbols it makes (where each stands: 50000 and a local, or a field; its stretch); stretches of the entry's symbols; forms that are not below 0; the locals; the fields; what gets less -/
abbrev sx_Tm : Type := Nat × Nat × List (Nat × Int × Int) × List (Nat × Int × Int) × List sx_F × sx_Ls × sx_Hp × sx_F
/-- the form that stands at a place -/
noncomputable def sx_at (ls : sx_Ls) (hp : sx_Hp) (src : Nat) : sx_F := Bool.rec (motive := fun _ => sx_F) (Bool.rec (motive := fun _ => sx_F) (0, []) (sx_hg hp src) (Nat.blt src 19000)) (match sx_lg ls (src - 50000) with
  | some (.inl f) => f
  | some (.inr (.inl f)) => f
  | _ => (0, [])) (Nat.ble 50000 src)
noncomputable def sx_fl {β : Type} (ls : sx_Ls) (hp : sx_Hp) (ss : List (Nat × Int × Int)) : (List sx_F → β) → β := List.rec (motive := fun _ => (List sx_F → β) → β) (fun k => k []) (fun q _ ih k => ih (fun t => k (sx_at ls hp q.1 :: t))) ss
/-- the entry's symbols are themselves; those from b on are the forms -/
noncomputable def sx_ta (b : Nat) (fl : List sx_F) (s : Nat) : sx_F := Bool.rec (motive := fun _ => sx_F) (Bool.rec (motive := fun _ => sx_F) (0, []) (match rv_nth fl (s - b) with
  | some f => f
  | none => (0, [])) (Nat.ble b s)) (0, [(s, 1)]) (Nat.blt s 20000)
noncomputable def sx_nil (l : List (Nat × Int)) : Bool := match l with
  | [] => true
  | _ => false
noncomputable def sx_eq0 (lv : Nat) (tb : sx_T) (cs : List sx_F) (f g : sx_F) : Bool := sx_ad (-1) f g (fun r => (sx_z r.1 && sx_nil r.2) || (sx_ge lv sx_sr tb cs r && sx_ad (-1) (0, []) r (fun r2 => sx_ge lv sx_sr tb cs r2)))
noncomputable def sx_inl2 (lv : Nat) (tb : sx_T) (cs : List sx_F) (ss : List (Nat × Int × Int)) (fl : List sx_F) : Bool := match ss, fl with
  | [], [] => true
  | q :: t, f :: r => sx_in lv tb cs q.2.1 q.2.2 f && sx_p (q.2.1 + 9223372036854775808) && sx_p (9223372036854775807 - q.2.2) && sx_inl2 lv tb cs t r
  | _, _ => false
noncomputable def sx_eql (lv : Nat) (tb : sx_T) (cs : List sx_F) (θ : Nat → sx_F) (ls : sx_Ls) (q : Nat × sx_V) : Bool := match sx_lg ls q.1, q.2 with
  | some (.inl f), .inl g => sx_sb θ g (fun g => sx_eq0 lv tb cs f g)
  | some (.inr (.inl f)), .inr (.inl g) => sx_sb θ g (fun g => sx_eq0 lv tb cs f g)
  | some (.inr (.inr (.inr ks))), .inr (.inr (.inr qs)) => sx_sub ks qs
  | _, _ => false
noncomputable def sx_eqh (lv : Nat) (tb : sx_T) (cs : List sx_F) (θ : Nat → sx_F) (hp hq : sx_Hp) : Bool := hp.all (fun q => sx_sb θ (sx_hg hq q.1) (fun g => sx_eq0 lv tb cs (sx_hg hp q.1) g)) && hq.all (fun q => sx_sb θ (sx_hg hq q.1) (fun g => sx_eq0 lv tb cs (sx_hg hp q.1) g))
/-- the symbols of a head -/
noncomputable def sx_tt : Nat → List (Nat × Int × Int) → sx_T
  | _, [] => []
  | i, q :: t => (i, q.2.1, q.2.2) :: sx_tt (i + 1) t
/-- numbers that are known, looked at first: can this state be that head's? -/
noncomputable def sx_qk (ls : sx_Ls) (tb : sx_T) (hp : sx_Hp) (t : sx_Tm) : Bool := t.2.2.2.2.2.1.all (fun q => match q.2, sx_lg ls q.1 with
  | .inl (c, []), some (.inl (d, [])) => sx_z (c - d)
  | _, _ => true) && t.2.2.1.all (fun q => sx_p (sx_hi sx_sr tb (sx_at ls hp q.1) - q.2.1) && sx_p (q.2.2 - sx_lo sx_sr tb (sx_at ls hp q.1))) && t.2.2.2.2.2.2.1.all (fun q => match q.2 with
  | (c, []) => sx_p (sx_hi sx_sr tb (sx_hg hp q.1) - c) && sx_p (c - sx_lo sx_sr tb (sx_hg hp q.1))
  | _ => true)
/-- is this a state of that head, and is what gets less less than M (M = none: it need not be)? -/
noncomputable def sx_arv (lv : Nat) (M : Option sx_F) (ls : sx_Ls) (tb : sx_T) (cs : List sx_F) (hp : sx_Hp) (t : sx_Tm) : Bool := sx_qk ls tb hp t && sx_fl ls hp t.2.2.1 (fun fl => sx_inl2 lv tb cs t.2.2.1 fl && t.2.2.2.1.all (fun q => Nat.blt q.1 20000 && sx_in lv tb cs q.2.1 q.2.2 (0, [(q.1, 1)])) && t.2.2.2.2.1.all (fun f => sx_sb (sx_ta 20000 fl) f (fun g => sx_ge lv sx_sr tb cs g)) && t.2.2.2.2.2.1.all (fun q => sx_eql lv tb cs (sx_ta 20000 fl) ls q) && sx_eqh lv tb cs (sx_ta 20000 fl) hp t.2.2.2.2.2.2.1 && sx_sb (sx_ta 20000 fl) t.2.2.2.2.2.2.2 (fun g => (sx_ge 0 sx_sr (sx_tt 20000 t.2.2.1 ++ t.2.2.2.1) [] t.2.2.2.2.2.2.2 || sx_ge lv sx_sr tb cs g) && (match M with
  | none => true
  | some m => sx_ad (-1) m g (fun r => sx_ad 1 (-1, []) r (fun r => sx_ge lv sx_sr tb cs r)))))
/-- at some heads a local is taken number by number -/
noncomputable def sx_frk (fk : List (Nat × Nat)) (pc : Nat) (ls : sx_Ls) (tb : sx_T) (cs : List sx_F) (k : sx_Ls → sx_T → List sx_F → Bool) : Bool := List.rec (motive := fun _ => Bool) (k ls tb cs) (fun q _ ih => Bool.rec (motive := fun _ => Bool) ih (match sx_lg ls q.2 with
  | some (.inl (c, t :: ts)) => sx_fI (sx_lo sx_sr tb (c, t :: ts)) (fun lo => rv_fN (sx_hi sx_sr tb (c, t :: ts) - lo + 1).toNat (fun m => Nat.ble m 600 && sx_spv tb cs (c, t :: ts) (fun v tb' cs' => k ((q.2, sx_vi (v, [])) :: ls) tb' cs') m lo))
  | _ => ih) (q.1.beq pc)) fk
noncomputable def sx_mvr (i : Nat) : List sx_Ru := match rv_nth sx_mv i with
  | some r => [r]
  | none => []
/-- at some heads the numbers take a turn, if it may be taken: 1000 and 100 times its place in the list and a local -/
noncomputable def sx_trn (lv : Nat) (fk : List (Nat × Nat)) (pc : Nat) (ls : sx_Ls) (n : Nat) (tb : sx_T) (cs : List sx_F) (hp : sx_Hp) (k : Nat → sx_T → List sx_F → sx_Hp → Bool) : Bool := List.rec (motive := fun _ => Nat → sx_T → List sx_F → sx_Hp → Bool) (fun n tb cs hp => k n tb cs hp) (fun q _ ih n tb cs hp => Bool.rec (motive := fun _ => Bool) (ih n tb cs hp) (match sx_lg ls ((q.2 - 1000) % 100) with
  | some (.inl x) => sx_run lv x (0, []) n tb cs hp (fun _ n' tb' cs' hp' => ih n' tb' cs' hp') (ih n tb cs hp) (sx_mvr ((q.2 - 1000) / 100))
  | some (.inr (.inl x)) => sx_run lv x (0, []) n tb cs hp (fun _ n' tb' cs' hp' => ih n' tb' cs' hp') (ih n tb cs hp) (sx_mvr ((q.2 - 1000) / 100))
  | _ => ih n tb cs hp) (q.1.beq pc && Nat.ble 1000 q.2)) fk n tb cs hp
def sx_emp (st : List sx_V) : Bool := match st with
  | [] => true
  | _ => false
noncomputable def sx_hd (fk : List (Nat × Nat)) (hs : List Nat) (TS : List sx_Tm) (lv bl : Nat) (M : Option sx_F) (w : sx_Kw) : sx_Kw := fun code ls st n tb cs hp => match code with
  | [] => false
  | e :: rest => sx_frk fk e.1 ls tb cs (fun ls tb cs => Bool.rec (motive := fun _ => Bool) (w (e :: rest) ls st n tb cs hp) (sx_emp st && sx_trn lv fk e.1 ls n tb cs hp (fun _ tb cs hp => TS.any (fun t => t.2.1.beq e.1 && (t.1 + (e :: rest).length).beq bl && sx_arv lv M ls tb cs hp t))) (hs.any (fun q => q.beq e.1)))
/-- the end: one of the ways -/
noncomputable def sx_ra (rv : Option sx_V) (hp : sx_Hp) (src : Nat) : sx_F := Bool.rec (motive := fun _ => sx_F) (Bool.rec (motive := fun _ => sx_F) (0, []) (sx_hg hp src) (Nat.blt src 19000)) (match rv with
  | some (.inl f) => f
  | some (.inr (.inl f)) => f
  | _ => (0, [])) (src.beq 99999)
noncomputable def sx_rfl {β : Type} (rv : Option sx_V) (hp : sx_Hp) (ss : List (Nat × Int × Int)) : (List sx_F → β) → β := List.rec (motive := fun _ => (List sx_F → β) → β) (fun k => k []) (fun q _ ih k => ih (fun t => k (sx_ra rv hp q.1 :: t))) ss
noncomputable def sx_rck (lv : Nat) (rv : Option sx_V) (tb : sx_T) (cs : List sx_F) (hp : sx_Hp) (g : sx_Gr) : Bool := sx_rfl rv hp g.1 (fun fl => sx_inl2 lv tb cs g.1 fl && g.2.1.all (fun f => sx_sb (sx_ta 1000000 fl) f (fun r => sx_ge lv sx_sr tb cs r)) && sx_eqh lv tb cs (sx_ta 1000000 fl) hp g.2.2.1 && (match rv, g.2.2.2 with
  | none, none => true
  | some (.inl f), some (false, r) => sx_sb (sx_ta 1000000 fl) r (fun r => sx_eq0 lv tb cs f r)
  | some (.inr (.inl f)), some (true, r) => sx_sb (sx_ta 1000000 fl) r (fun r => sx_eq0 lv tb cs f r)
  | _, _ => false))
noncomputable def sx_qr (rv : Option sx_V) (tb : sx_T) (hp : sx_Hp) (g : sx_Gr) : Bool := (match rv, g.2.2.2 with
  | some (.inl (c, [])), some (_, (d, [])) => sx_z (c - d)
  | _, _ => true) && g.1.all (fun q => sx_p (sx_hi sx_sr tb (sx_ra rv hp q.1) - q.2.1) && sx_p (q.2.2 - sx_lo sx_sr tb (sx_ra rv hp q.1))) && g.2.2.1.all (fun q => match q.2 with
  | (c, []) => sx_p (sx_hi sx_sr tb (sx_hg hp q.1) - c) && sx_p (c - sx_lo sx_sr tb (sx_hg hp q.1))
  | _ => true)
noncomputable def sx_ret (lv : Nat) (gs : List sx_Gr) : sx_Kr := fun rv _ tb cs hp => gs.any (fun g => sx_qr rv tb hp g && (Nat.blt g.1.length 1000000 && sx_wfg g && sx_rck lv rv tb cs hp g))
/-- the arguments at the entry -/
def sx_ea : Nat → List sx_Sp → List sx_V
  | _, [] => []
  | i, (0, _, _, _) :: t => sx_vi (0, [(19000 + i, 1)]) :: sx_ea (i + 1) t
  | i, (1, _, _, _) :: t => sx_vl (0, [(19000 + i, 1)]) :: sx_ea (i + 1) t
  | i, (_, _, _, qs) :: t => sx_vr qs :: sx_ea (i + 1) t
def sx_et : Nat → List sx_Sp → sx_T
  | _, [] => []
  | i, (0, lo, hi, _) :: t => (19000 + i, lo, hi) :: sx_et (i + 1) t
  | i, (1, lo, hi, _) :: t => (19000 + i, lo, hi) :: sx_et (i + 1) t
  | i, _ :: t => sx_et (i + 1) t
noncomputable def sx_bb (n : Nat) (f : sx_F) : Bool := f.2.all (fun q => Nat.blt q.1 n)
noncomputable def sx_bv (n : Nat) (v : sx_V) : Bool := match v with
  | .inl f => sx_bb n f
  | .inr (.inl f) => sx_bb n f
  | .inr (.inr (.inl _)) => false
  | .inr (.inr (.inr _)) => true
noncomputable def sx_wft (t : sx_Tm) : Bool := t.2.2.2.2.1.all (sx_bb (20000 + t.2.2.1.length)) && t.2.2.2.2.2.1.all (fun q => sx_bv (20000 + t.2.2.1.length) q.2) && t.2.2.2.2.2.2.1.all (fun q => Nat.blt q.1 19000 && sx_bb (20000 + t.2.2.1.length) q.2) && sx_bb (20000 + t.2.2.1.length) t.2.2.2.2.2.2.2
/-- a method's certificate: which locals are taken number by number at which heads, the heads, what holds at them, and which arguments are taken one by one -/
abbrev sx_Ce2 : Type := List (Nat × Nat) × List Nat × List sx_Tm × List Nat
noncomputable def sx_ckE (tc : Lean.RArray sx_Me) (lv e fu mi : Nat) (B : Nat) (c : sx_Cn) (z : sx_Ce2) : Bool := Nat.ble (B + e + 1) c.2.1 && Nat.blt mi 294 && Nat.ble (sx_wd (sx_ea 0 c.2.2.1)) (sx_bd.get mi).2.1 && Nat.ble c.2.2.1.length 900 && c.2.2.2.1.all (sx_bb 20000) && sx_asl (fun s => (0, [(s, 1)])) c.2.2.2.1 (sx_et 0 c.2.2.1) [] (fun tb0 cs0 => sx_spj z.2.2.2 (sx_ea 0 c.2.2.1) (fun as' tb' cs' => sx_wk lv (sx_cal tc lv B c.1 e) (sx_ret lv c.2.2.2.2) (sx_hd z.1 z.2.1 z.2.2.1 lv (sx_bd.get mi).1.length none) (sx_bd.get mi).1 (sx_bd.get mi).2.1 (sx_bd.get mi).2.2 fu (sx_bd.get mi).1 (sx_loc as' 0) [] 20000 tb' cs' []) tb0 cs0)
noncomputable def sx_ckT (tc : Lean.RArray sx_Me) (lv e fu mi : Nat) (B : Nat) (c : sx_Cn) (z : sx_Ce2) (t : sx_Tm) : Bool := sx_wft t && Nat.ble t.1 (sx_bd.get mi).1.length && sx_stp lv (sx_cal tc lv B c.1 e) (sx_ret lv c.2.2.2.2) (sx_bd.get mi).1 (sx_bd.get mi).2.1 (sx_bd.get mi).2.2 (sx_wk lv (sx_cal tc lv B c.1 e) (sx_ret lv c.2.2.2.2) (sx_hd z.1 z.2.1 z.2.2.1 lv (sx_bd.get mi).1.length (some t.2.2.2.2.2.2.2)) (sx_bd.get mi).1 (sx_bd.get mi).2.1 (sx_bd.get mi).2.2 fu) (rv_drop t.1 (sx_bd.get mi).1) t.2.2.2.2.2.1 [] (20000 + t.2.2.1.length) (sx_tt 20000 t.2.2.1 ++ t.2.2.2.1) t.2.2.2.2.1 t.2.2.2.2.2.2.1
