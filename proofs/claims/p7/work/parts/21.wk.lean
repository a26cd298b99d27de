/-! THE WALK through a method's code once for all states -/
/-- an int, a long, the sign of a difference of longs, a reference to one of these cells -/
abbrev sx_V : Type := sx_F ⊕ sx_F ⊕ sx_F ⊕ List Nat
abbrev sx_Ls : Type := List (Nat × sx_V)
abbrev sx_Kx : Type := Nat → sx_T → List sx_F → sx_Hp → Bool
abbrev sx_Kw : Type := List rv_I → sx_Ls → List sx_V → sx_Kx
abbrev sx_Kr : Type := Option sx_V → sx_Kx
abbrev sx_vi (f : sx_F) : sx_V := .inl f
abbrev sx_vl (f : sx_F) : sx_V := .inr (.inl f)
abbrev sx_vc (f : sx_F) : sx_V := .inr (.inr (.inl f))
abbrev sx_vr (ks : List Nat) : sx_V := .inr (.inr (.inr ks))
def sx_isL (v : sx_V) : Bool := match v with
  | .inr (.inl _) => true
  | _ => false
def sx_k1 (i : Nat) (q : Nat × sx_V) : Bool := !(q.1.beq i) && !((q.1 + 1).beq i && sx_isL q.2)
def sx_k2 (i : Nat) (q : Nat × sx_V) : Bool := !(q.1.beq i) && (!(q.1.beq (i + 1)) && !((q.1 + 1).beq i && sx_isL q.2))
noncomputable def sx_lg (ls : sx_Ls) (i : Nat) : Option sx_V := List.rec (motive := fun _ => Option sx_V) none (fun q _ ih => Bool.rec (motive := fun _ => Option sx_V) ih (some q.2) (q.1.beq i)) ls
def sx_wd (st : List sx_V) : Nat := match st with
  | [] => 0
  | v :: r => (if sx_isL v then 2 else 1) + sx_wd r
def sx_leq (a b : List Nat) : Bool := match a, b with
  | [], [] => true
  | x :: s, y :: t => x.beq y && sx_leq s t
  | _, _ => false
def sx_sub (a b : List Nat) : Bool := a.all (fun x => b.any (fun y => x.beq y))
noncomputable def sx_fde (a b : sx_Fd) : Bool := a.1.beq b.1 && sx_z (a.2.1 - b.2.1) && sx_z (a.2.2.1 - b.2.2.1) && sx_leq a.2.2.2 b.2.2.2
noncomputable def sx_cee (a b : sx_Ce) : Bool := a.1.beq b.1 && a.2.2.1.beq b.2.2.1 && sx_z (a.2.2.2.1 - b.2.2.2.1) && sx_z (a.2.2.2.2.1 - b.2.2.2.2.1) && sx_leq a.2.2.2.2.2 b.2.2.2.2.2
/-- are these objects of a with the same field b? -/
noncomputable def sx_oks (a b : Nat) (fd : sx_Fd) (ks : List Nat) : Bool := Nat.blt a 100 && ks.all (fun k => Nat.blt k 143 && (sx_cell.get k).1.beq a && sx_fde fd (sx_fld.get (k * 128 + b)))
/-- are these arrays alike? -/
noncomputable def sx_oka (ce : sx_Ce) (ks : List Nat) : Bool := ks.all (fun k => Nat.blt k 143 && sx_cee ce (sx_cell.get k))
/-- a number of 32 bits as an int, of 64 bits as a long -/
noncomputable def sx_w32 (a : Nat) : Int := Bool.rec (motive := fun _ => Int) (Int.ofNat a) (Int.negSucc (4294967295 - a)) (Nat.ble 2147483648 a)
noncomputable def sx_w64 (a : Nat) : Int := Bool.rec (motive := fun _ => Int) (Int.ofNat a) (Int.negSucc (18446744073709551615 - a)) (Nat.ble 9223372036854775808 a)
noncomputable def sx_ld (p : Nat) (ls : sx_Ls) (i : Nat) (k : sx_V → Bool) : Bool := match sx_lg ls i with
  | some v => match p, v with
    | 0, .inl _ => k v
    | 1, .inr (.inl _) => k v
    | 2, .inr (.inr (.inr _)) => k v
    | _, _ => false
  | none => false
noncomputable def sx_st1 (p nL : Nat) (ls : sx_Ls) (i : Nat) (st : List sx_V) (k : sx_Ls → List sx_V → Bool) : Bool := match st with
  | v :: r => match p, v with
    | 0, .inl _ => Nat.blt i nL && rv_flt (sx_k1 i) ls (fun t => k ((i, v) :: t) r)
    | 1, .inr (.inl _) => Nat.blt (i + 1) nL && rv_flt (sx_k2 i) ls (fun t => k ((i, v) :: t) r)
    | 2, .inr (.inr (.inr _)) => Nat.blt i nL && rv_flt (sx_k1 i) ls (fun t => k ((i, v) :: t) r)
    | _, _ => false
  | _ => false
abbrev sx_Op : Type := sx_F → sx_F → Nat → sx_T → List sx_F → sx_Kf → Bool
/-- two numbers that are known are worked out -/
noncomputable def sx_fo (g : Int32 → Int32 → Int32) (op : sx_Op) : sx_Op := fun x y n tb cs k => match x.2, y.2 with
  | [], [] => sx_fI (g (Int32.ofInt x.1) (Int32.ofInt y.1)).toInt (fun v => k (v, []) n tb cs)
  | _, _ => op x y n tb cs k
noncomputable def sx_foL (g : Int64 → Int64 → Int64) (op : sx_Op) : sx_Op := fun x y n tb cs k => match x.2, y.2 with
  | [], [] => sx_fI (g (Int64.ofInt x.1) (Int64.ofInt y.1)).toInt (fun v => k (v, []) n tb cs)
  | _, _ => op x y n tb cs k
/-- a byte's bits, taken by its sign -/
noncomputable def sx_anf (x : sx_F) (n : Nat) (tb : sx_T) (cs : List sx_F) (k : sx_Kf) : Bool := sx_asm sx_sr tb cs x (fun tb' cs' => k x n tb' cs') && sx_ad (-1) (-1, []) x (fun g => sx_asm sx_sr tb cs g (fun tb' cs' => sx_ad 1 (256, []) x (fun g2 => k g2 n tb' cs')))
noncomputable def sx_im1 (y : sx_F) : Bool := match y with
  | (c, []) => sx_z (c + 1)
  | _ => false
noncomputable def sx_xo (lv : Nat) (x y : sx_F) (n : Nat) (tb : sx_T) (cs : List sx_F) (k : sx_Kf) : Bool := Bool.rec (motive := fun _ => Bool) (sx_or sx_sr (-2147483648) 2147483647 31 false x y n tb cs k) (sx_ad (-1) (-1, []) x (fun g => k g n tb cs)) (Nat.ble 30 lv && sx_im1 y && sx_in lv tb cs 0 255 x)
/-- what one has that the other has not, by what they have in common -/
noncomputable def sx_anh (lv : Nat) (x y : sx_F) (n : Nat) (tb : sx_T) (cs : List sx_F) (hp : sx_Hp) (k : sx_Kg) (dflt : Bool) : Bool := sx_ad (-1) (-1, []) y (fun z => Bool.rec (motive := fun _ => Bool) dflt (sx_run lv x z n tb cs hp (fun g n' tb' cs' hp' => sx_ad (-1) x g (fun r => k r n' tb' cs' hp')) dflt sx_ran) (Nat.ble 30 lv && sx_in lv tb cs 0 255 x && sx_in lv tb cs 0 255 z))
noncomputable def sx_isc (c : Int) (y : sx_F) : Bool := match y with
  | (d, []) => sx_z (d - c)
  | _ => false
/-- a function of one number under rules -/
noncomputable def sx_anq (lv : Nat) (c : Int) (rs : List sx_Ru) (x y : sx_F) (n : Nat) (tb : sx_T) (cs : List sx_F) (hp : sx_Hp) (k : sx_Kg) (dflt : Bool) : Bool := Bool.rec (motive := fun _ => Bool) dflt (sx_run lv x (0, []) n tb cs hp k dflt rs) (Nat.ble 40 lv && sx_isc c y && sx_ge lv sx_sr tb cs x)
noncomputable def sx_i255 (y : sx_F) : Bool := match y with
  | (c, []) => sx_z (c - 255)
  | _ => false
noncomputable def sx_any (lv : Nat) (x y : sx_F) (n : Nat) (tb : sx_T) (cs : List sx_F) (k : sx_Kf) : Bool := Bool.rec (motive := fun _ => Bool) (sx_and (Nat.ble 10 lv) sx_sr (-2147483648) 2147483647 x y n tb cs k) (sx_anf x n tb cs k) (Nat.ble 20 lv && sx_i255 y && sx_in lv tb cs (-256) 255 x)
noncomputable def sx_bi (op : sx_Op) (st : List sx_V) (n : Nat) (tb : sx_T) (cs : List sx_F) (k : List sx_V → Nat → sx_T → List sx_F → Bool) : Bool := match st with
  | .inl y :: .inl x :: r => op x y n tb cs (fun f n' tb' cs' => k (sx_vi f :: r) n' tb' cs')
  | _ => false
noncomputable def sx_bl (op : sx_Op) (st : List sx_V) (n : Nat) (tb : sx_T) (cs : List sx_F) (k : List sx_V → Nat → sx_T → List sx_F → Bool) : Bool := match st with
  | .inr (.inl y) :: .inr (.inl x) :: r => op x y n tb cs (fun f n' tb' cs' => k (sx_vl f :: r) n' tb' cs')
  | _ => false
noncomputable def sx_bs (op : sx_Op) (st : List sx_V) (n : Nat) (tb : sx_T) (cs : List sx_F) (k : List sx_V → Nat → sx_T → List sx_F → Bool) : Bool := match st with
  | .inl y :: .inr (.inl x) :: r => op x y n tb cs (fun f n' tb' cs' => k (sx_vl f :: r) n' tb' cs')
  | _ => false
noncomputable def sx_cI (lv : Nat) (lo hi : Int) (st : List sx_V) (n : Nat) (tb : sx_T) (cs : List sx_F) (k : List sx_V → Nat → sx_T → List sx_F → Bool) : Bool := match st with
  | .inl x :: r => sx_ft lv sx_sr lo hi n tb cs x (fun f n' tb' cs' => k (sx_vi f :: r) n' tb' cs')
  | _ => false
noncomputable def sx_cL (lv : Nat) (st : List sx_V) (n : Nat) (tb : sx_T) (cs : List sx_F) (k : List sx_V → Nat → sx_T → List sx_F → Bool) : Bool := match st with
  | .inr (.inl x) :: r => sx_ft lv sx_sr (-2147483648) 2147483647 n tb cs x (fun f n' tb' cs' => k (sx_vi f :: r) n' tb' cs')
  | _ => false
noncomputable def sx_gf (a b : Nat) (st : List sx_V) (n : Nat) (tb : sx_T) (cs : List sx_F) (hp : sx_Hp) (k : List sx_V → Nat → sx_T → List sx_F → Bool) : Bool := match st with
  | .inr (.inr (.inr (k0 :: kt))) :: r => sx_oks a b (sx_fld.get (k0 * 128 + b)) (k0 :: kt) && Nat.blt b (sx_nfl.get a) && (match sx_fld.get (k0 * 128 + b) with
    | (0, lo, hi, _) => match kt with
      | [] => Bool.rec (motive := fun _ => Bool) (sx_fr lo hi n tb cs (fun f n' tb' cs' => k (sx_vi f :: r) n' tb' cs')) (k (sx_vi (sx_hg hp (k0 * 128 + b)) :: r) n tb cs) (sx_cell.get k0).2.1
      | _ => sx_fr lo hi n tb cs (fun f n' tb' cs' => k (sx_vi f :: r) n' tb' cs')
    | (1, lo, hi, _) => match kt with
      | [] => Bool.rec (motive := fun _ => Bool) (sx_fr lo hi n tb cs (fun f n' tb' cs' => k (sx_vi f :: r) n' tb' cs')) (k (sx_vi (sx_hg hp (k0 * 128 + b)) :: r) n tb cs) (sx_cell.get k0).2.1
      | _ => sx_fr lo hi n tb cs (fun f n' tb' cs' => k (sx_vi f :: r) n' tb' cs')
    | (2, lo, hi, _) => match kt with
      | [] => Bool.rec (motive := fun _ => Bool) (sx_fr lo hi n tb cs (fun f n' tb' cs' => k (sx_vl f :: r) n' tb' cs')) (k (sx_vl (sx_hg hp (k0 * 128 + b)) :: r) n tb cs) (sx_cell.get k0).2.1
      | _ => sx_fr lo hi n tb cs (fun f n' tb' cs' => k (sx_vl f :: r) n' tb' cs')
    | (_, _, _, qs) => k (sx_vr qs :: r) n tb cs)
  | _ => false
/-- behind a store into a field: followed only in one cell that is followed -/
noncomputable def sx_pu (k0 : Nat) (kt : List Nat) (b : Nat) (f : sx_F) (hp : sx_Hp) (k : sx_Hp → Bool) : Bool := match kt with
  | [] => Bool.rec (motive := fun _ => Bool) (k hp) (rv_fN (k0 * 128 + b) (fun c => sx_hs hp c f k)) (sx_cell.get k0).2.1
  | _ => (k0 :: kt).all (fun q => !(sx_cell.get q).2.1) && k hp
noncomputable def sx_pf (lv a b d : Nat) (st : List sx_V) (tb : sx_T) (cs : List sx_F) (hp : sx_Hp) (k : List sx_V → sx_Hp → Bool) : Bool := match st with
  | v :: .inr (.inr (.inr (k0 :: kt))) :: r => sx_oks a b (sx_fld.get (k0 * 128 + b)) (k0 :: kt) && Nat.blt b (sx_nfl.get a) && (match sx_fld.get (k0 * 128 + b) with
    | (ty, lo, hi, qs) => ty.beq d && (match d, v with
      | 0, .inl f => sx_in lv tb cs lo hi f && sx_pu k0 kt b f hp (fun hp' => k r hp')
      | 1, .inl f => sx_in lv tb cs 0 1 f && sx_in lv tb cs lo hi f && sx_pu k0 kt b f hp (fun hp' => k r hp')
      | 2, .inr (.inl f) => sx_in lv tb cs lo hi f && sx_pu k0 kt b f hp (fun hp' => k r hp')
      | 3, .inr (.inr (.inr ks)) => sx_sub ks qs && k r hp
      | _, _ => false))
  | _ => false
def sx_one (kt : List Nat) : Bool := match kt with
  | [] => true
  | _ => false
def sx_rfr (q : Nat) : Bool := match sx_rl.get q with
  | [] => true
  | _ => false
noncomputable def sx_rk (g : sx_F) (k : Nat → Bool) : Bool := match g with
  | (c, []) => rv_fN c.toNat k
  | _ => false
/-- a condition, at some methods a difference taken in two -/
noncomputable def sx_cdn (lv : Nat) (tb : sx_T) (cs : List sx_F) (c : ClassFile.Cond) (f : sx_F) (k : sx_KT) : Bool := Bool.rec (motive := fun _ => Bool) (sx_cd sx_sr tb cs c f k) (match c with
  | .ne => sx_cd sx_sr tb cs .gt f k && sx_cd sx_sr tb cs .lt f k
  | c => sx_cd sx_sr tb cs c f k) (Nat.ble 40 lv)
/-- a load: p = 0 ints, 1 longs, 2 bytes and booleans, 3 references -/
noncomputable def sx_ald (lv p : Nat) (st : List sx_V) (n : Nat) (tb : sx_T) (cs : List sx_F) (hp : sx_Hp) (k : List sx_V → sx_Kx) : Bool := match st with
  | .inl i :: .inr (.inr (.inr (k0 :: kt))) :: r => match sx_cell.get k0 with
    | (t, _, len, lo, hi, qs) => sx_oka (sx_cell.get k0) (k0 :: kt) && sx_in lv tb cs 0 (Int.ofNat len - 1) i && (match p with
      | 0 => t.beq 100 && sx_fr lo hi n tb cs (fun f n' tb' cs' => match kt with
        | [] => sx_gld lv k0 i f n' tb' cs' hp (fun g n2 tb2 cs2 hp2 => k (sx_vi g :: r) n2 tb2 cs2 hp2)
        | _ => k (sx_vi f :: r) n' tb' cs' hp)
      | 1 => t.beq 101 && sx_fr lo hi n tb cs (fun f n' tb' cs' => match kt with
        | [] => sx_gld lv k0 i f n' tb' cs' hp (fun g n2 tb2 cs2 hp2 => k (sx_vl g :: r) n2 tb2 cs2 hp2)
        | _ => k (sx_vl f :: r) n' tb' cs' hp)
      | 2 => (t.beq 102 || t.beq 103) && sx_fr lo hi n tb cs (fun f n' tb' cs' => match kt with
        | [] => sx_gld lv k0 i f n' tb' cs' hp (fun g n2 tb2 cs2 hp2 => k (sx_vi g :: r) n2 tb2 cs2 hp2)
        | _ => k (sx_vi f :: r) n' tb' cs' hp)
      | _ => (t.beq 104 || t.beq 105) && Bool.rec (motive := fun _ => Bool) (qs.all (fun q => sx_p (Int.ofNat q - lo) && sx_p (hi - Int.ofNat q) && Nat.blt q 143) && sx_one kt && sx_fr lo hi n tb cs (fun f n' tb' cs' => sx_gld lv k0 i f n' tb' cs' hp (fun g n2 tb2 cs2 hp2 => sx_rk g (fun c => k (sx_vr [c] :: r) n2 tb2 cs2 hp2)))) (k (sx_vr qs :: r) n tb cs hp) (sx_rfr k0))
  | _ => false
noncomputable def sx_ast (lv p : Nat) (st : List sx_V) (n : Nat) (tb : sx_T) (cs : List sx_F) (hp : sx_Hp) (k : List sx_V → sx_Kx) : Bool := match st with
  | v :: .inl i :: .inr (.inr (.inr (k0 :: kt))) :: r => match sx_cell.get k0 with
    | (t, _, len, lo, hi, qs) => sx_oka (sx_cell.get k0) (k0 :: kt) && sx_in lv tb cs 0 (Int.ofNat len - 1) i && (match p, v with
      | 0, .inl f => t.beq 100 && sx_in lv tb cs lo hi f && (match kt with
        | [] => sx_gst lv k0 i f n tb cs hp (fun n' tb' cs' hp' => k r n' tb' cs' hp')
        | _ => (k0 :: kt).all sx_gfr && k r n tb cs hp)
      | 1, .inr (.inl f) => t.beq 101 && sx_in lv tb cs lo hi f && (match kt with
        | [] => sx_gst lv k0 i f n tb cs hp (fun n' tb' cs' hp' => k r n' tb' cs' hp')
        | _ => (k0 :: kt).all sx_gfr && k r n tb cs hp)
      | 2, .inl f => (t.beq 102 && sx_p (-128 - lo) && sx_p (hi - 127) || t.beq 103 && sx_in lv tb cs 0 1 f && sx_in lv tb cs lo hi f) && Bool.rec (motive := fun _ => Bool) (sx_one kt && sx_fr lo hi n tb cs (fun g n' tb' cs' => sx_gst lv k0 i g n' tb' cs' hp (fun n2 tb2 cs2 hp2 => k r n2 tb2 cs2 hp2))) (k r n tb cs hp) ((k0 :: kt).all sx_gfr)
      | 3, .inr (.inr (.inr ks)) => (t.beq 104 && ks.all (fun q => Nat.blt q 143 && (sx_cell.get q).1.beq 7) || t.beq 105 && ks.all (fun q => Nat.blt q 143 && (sx_cell.get q).1.beq 8)) && sx_sub ks qs && (k0 :: kt).all sx_gfr && k r n tb cs hp
      | _, _ => false)
  | _ => false
noncomputable def sx_cpy (lv : Nat) (st : List sx_V) (tb : sx_T) (cs : List sx_F) (k : List sx_V → Bool) : Bool := match st with
  | .inl m :: .inl dp :: .inr (.inr (.inr (k1 :: kt1))) :: .inl sp :: .inr (.inr (.inr (k0 :: kt0))) :: r => match sx_cell.get k0, sx_cell.get k1 with
    | (t0, _, l0, _, _, _), (t1, _, l1, lo, hi, _) => sx_oka (sx_cell.get k0) (k0 :: kt0) && sx_oka (sx_cell.get k1) (k1 :: kt1) && t0.beq 101 && t1.beq 101 && sx_p (-9223372036854775808 - lo) && sx_p (hi - 9223372036854775807) && sx_ge lv sx_sr tb cs m && sx_ge lv sx_sr tb cs dp && sx_ge lv sx_sr tb cs sp && sx_ad 1 sp m (fun e => sx_in lv tb cs 0 (Int.ofNat l0) e) && sx_ad 1 dp m (fun e => sx_in lv tb cs 0 (Int.ofNat l1) e) && Nat.ble (sx_wd r) 8 && (k1 :: kt1).all sx_gfr && k r
  | _ => false
noncomputable def sx_cmp (lv : Nat) (c : ClassFile.Cond) (f : sx_F) (n : Nat) (tb : sx_T) (cs : List sx_F) (hp : sx_Hp) (kt kf : sx_Kx) : Bool := sx_cdn lv tb cs c f (fun tb' cs' => kt n tb' cs' hp) && sx_cdn lv tb cs (match c with
  | .eq => .ne
  | .ne => .eq
  | .lt => .ge
  | .ge => .lt
  | .gt => .le
  | .le => .gt) f (fun tb' cs' => kf n tb' cs' hp)
/-- the cases of a switch: the place j of them and on -/
noncomputable def sx_tsw (x : sx_F) (n : Nat) (tb : sx_T) (cs : List sx_F) (hp : sx_Hp) (k : Nat → sx_Kx) (dflt : Nat) (tt : List Nat) : Int → Bool := List.rec (motive := fun _ => Int → Bool) (fun j => sx_ad (-1) x (j, []) (fun g => sx_cd sx_sr tb cs .ge g (fun tb' cs' => k dflt n tb' cs' hp))) (fun t _ ih j => sx_ad (-1) x (j, []) (fun g => sx_cd sx_sr tb cs .eq g (fun tb' cs' => k t n tb' cs' hp)) && sx_fI (j + 1) ih) tt
noncomputable def sx_arg (m : Nat) : List sx_V → List sx_V → (List sx_V → List sx_V → Bool) → Bool := Nat.rec (motive := fun _ => List sx_V → List sx_V → (List sx_V → List sx_V → Bool) → Bool) (fun acc st k => k acc st) (fun _ ih acc st k => match st with
  | v :: r => ih (v :: acc) r k
  | [] => false) m
/-- the first argument is one of b, or a string constant -/
noncomputable def sx_rcv (b : Nat) (as : List sx_V) : Bool := match as with
  | .inr (.inr (.inr ks)) :: _ => Nat.blt b 100 && Bool.rec (motive := fun _ => Bool) (ks.all (fun q => Nat.blt q 143 && (sx_cell.get q).1.beq b)) (ks.all (fun q => Nat.ble 100000 q && Nat.blt q 100009)) (b.beq 99)
  | _ => false
abbrev sx_Kc : Type := Nat → List sx_V → sx_Kr → sx_Kx
noncomputable def sx_inv (cal : sx_Kc) (ok : List sx_V → Bool) (mi d : Nat) (st : List sx_V) (k : List sx_V → sx_Kx) : sx_Kx := fun n tb cs hp => sx_arg d [] st (fun as r => Nat.ble (sx_wd r) 8 && ok as && cal mi as (fun rv n' tb' cs' hp' => k (rv.toList ++ r) n' tb' cs' hp') n tb cs hp)
abbrev sx_mn : Int := -2147483648
abbrev sx_mx : Int := 2147483647
abbrev sx_Ln : Int := -9223372036854775808
abbrev sx_Lx : Int := 9223372036854775807
/-- ONE INSTRUCTION -/
noncomputable def sx_stp (lv : Nat) (cal : sx_Kc) (ret : sx_Kr) (body : List rv_I) (nL rt : Nat) (ih : sx_Kw) : sx_Kw := fun code ls st n tb cs hp => match code with
  | [] => false
  | (_, i, _, a, b, d, ts) :: rest => match i with
    | .iconst _ => Nat.blt a 4294967296 && ih rest ls (sx_vi (sx_w32 a, []) :: st) n tb cs hp
    | .bipush _ => Nat.blt a 4294967296 && ih rest ls (sx_vi (sx_w32 a, []) :: st) n tb cs hp
    | .sipush _ => Nat.blt a 4294967296 && ih rest ls (sx_vi (sx_w32 a, []) :: st) n tb cs hp
    | .lconst _ => Nat.blt a 18446744073709551616 && ih rest ls (sx_vl (sx_w64 a, []) :: st) n tb cs hp
    | .ldc _ => Nat.rec (motive := fun _ => Bool) (Nat.blt a 4294967296 && ih rest ls (sx_vi (sx_w32 a, []) :: st) n tb cs hp) (fun _ _ => ih rest ls (sx_vr [100000 + a] :: st) n tb cs hp) d
    | .ldc_w _ => Nat.rec (motive := fun _ => Bool) (Nat.blt a 4294967296 && ih rest ls (sx_vi (sx_w32 a, []) :: st) n tb cs hp) (fun _ _ => ih rest ls (sx_vr [100000 + a] :: st) n tb cs hp) d
    | .ldc2_w _ => Nat.blt a 18446744073709551616 && ih rest ls (sx_vl (sx_w64 a, []) :: st) n tb cs hp
    | .iload_n _ => sx_ld 0 ls a (fun v => ih rest ls (v :: st) n tb cs hp)
    | .iload _ => sx_ld 0 ls a (fun v => ih rest ls (v :: st) n tb cs hp)
    | .lload_n _ => sx_ld 1 ls a (fun v => ih rest ls (v :: st) n tb cs hp)
    | .lload _ => sx_ld 1 ls a (fun v => ih rest ls (v :: st) n tb cs hp)
    | .aload_n _ => sx_ld 2 ls a (fun v => ih rest ls (v :: st) n tb cs hp)
    | .aload _ => sx_ld 2 ls a (fun v => ih rest ls (v :: st) n tb cs hp)
    | .istore_n _ => sx_st1 0 nL ls a st (fun ls' r => ih rest ls' r n tb cs hp)
    | .istore _ => sx_st1 0 nL ls a st (fun ls' r => ih rest ls' r n tb cs hp)
    | .lstore_n _ => sx_st1 1 nL ls a st (fun ls' r => ih rest ls' r n tb cs hp)
    | .lstore _ => sx_st1 1 nL ls a st (fun ls' r => ih rest ls' r n tb cs hp)
    | .astore_n _ => sx_st1 2 nL ls a st (fun ls' r => ih rest ls' r n tb cs hp)
    | .astore _ => sx_st1 2 nL ls a st (fun ls' r => ih rest ls' r n tb cs hp)
    | .iinc q x => sx_ld 0 ls q (fun v => match v with
      | .inl f => sx_sum lv sx_sr sx_mn sx_mx 1 f (x, []) n tb cs (fun g n' tb' cs' => sx_st1 0 nL ls q (sx_vi g :: st) (fun ls' r => ih rest ls' r n' tb' cs' hp))
      | _ => false) && sx_p (x - sx_mn) && sx_p (sx_mx - x)
    | .iadd => sx_bi (fun x y => sx_sum lv sx_sr sx_mn sx_mx 1 x y) st n tb cs (fun r n' tb' cs' => ih rest ls r n' tb' cs' hp)
    | .isub => sx_bi (fun x y => sx_sum lv sx_sr sx_mn sx_mx (-1) x y) st n tb cs (fun r n' tb' cs' => ih rest ls r n' tb' cs' hp)
    | .imul => sx_bi (fun x y => sx_mul lv sx_sr sx_mn sx_mx x y) st n tb cs (fun r n' tb' cs' => ih rest ls r n' tb' cs' hp)
    | .iand => match st with
      | .inl y :: .inl x :: r => sx_anh lv x y n tb cs hp (fun f n' tb' cs' hp' => ih rest ls (sx_vi f :: r) n' tb' cs' hp') (sx_fo (fun x y => x &&& y) (fun x y => sx_any lv x y) x y n tb cs (fun f n' tb' cs' => ih rest ls (sx_vi f :: r) n' tb' cs' hp))
      | _ => false
    | .ior => sx_bi (sx_fo (fun x y => x ||| y) (fun x y => sx_or sx_sr sx_mn sx_mx 31 true x y)) st n tb cs (fun r n' tb' cs' => ih rest ls r n' tb' cs' hp)
    | .ixor => sx_bi (sx_fo (fun x y => x ^^^ y) (fun x y => sx_xo lv x y)) st n tb cs (fun r n' tb' cs' => ih rest ls r n' tb' cs' hp)
    | .ishl => sx_bi (fun x y => sx_shl lv sx_sr sx_mn sx_mx 32 x y) st n tb cs (fun r n' tb' cs' => ih rest ls r n' tb' cs' hp)
    | .ishr => sx_bi (sx_fo (fun x y => x >>> (y &&& 31)) (fun x y => sx_shr (Nat.ble 10 lv) sx_sr sx_mn sx_mx 32 x y)) st n tb cs (fun r n' tb' cs' => ih rest ls r n' tb' cs' hp)
    | .iushr => sx_bi (sx_fo (fun x y => (x.toUInt32 >>> (y.toUInt32 &&& Int32.toUInt32 31)).toInt32) (fun x y => sx_shr (Nat.ble 10 lv) sx_sr sx_mn sx_mx 32 x y)) st n tb cs (fun r n' tb' cs' => ih rest ls r n' tb' cs' hp)
    | .ladd => sx_bl (fun x y => sx_sum lv sx_sr sx_Ln sx_Lx 1 x y) st n tb cs (fun r n' tb' cs' => ih rest ls r n' tb' cs' hp)
    | .lsub => sx_bl (fun x y => sx_sum lv sx_sr sx_Ln sx_Lx (-1) x y) st n tb cs (fun r n' tb' cs' => ih rest ls r n' tb' cs' hp)
    | .lmul => sx_bl (fun x y => sx_mul lv sx_sr sx_Ln sx_Lx x y) st n tb cs (fun r n' tb' cs' => ih rest ls r n' tb' cs' hp)
    | .land => match st with
      | .inr (.inl y) :: .inr (.inl x) :: r => sx_anq lv 31 sx_rmo x y n tb cs hp (fun f n' tb' cs' hp' => ih rest ls (sx_vl f :: r) n' tb' cs' hp') (sx_and (Nat.ble 10 lv) sx_sr sx_Ln sx_Lx x y n tb cs (fun f n' tb' cs' => ih rest ls (sx_vl f :: r) n' tb' cs' hp))
      | _ => false
    | .lor => sx_bl (sx_foL (fun x y => x ||| y) (fun x y => sx_or sx_sr sx_Ln sx_Lx 63 true x y)) st n tb cs (fun r n' tb' cs' => ih rest ls r n' tb' cs' hp)
    | .lshl => sx_bs (fun x y => sx_shl lv sx_sr sx_Ln sx_Lx 64 x y) st n tb cs (fun r n' tb' cs' => ih rest ls r n' tb' cs' hp)
    | .lshr => match st with
      | .inl y :: .inr (.inl x) :: r => sx_anq lv 5 sx_rdi x y n tb cs hp (fun f n' tb' cs' hp' => ih rest ls (sx_vl f :: r) n' tb' cs' hp') (sx_shr (Nat.ble 10 lv) sx_sr sx_Ln sx_Lx 64 x y n tb cs (fun f n' tb' cs' => ih rest ls (sx_vl f :: r) n' tb' cs' hp))
      | _ => false
    | .lushr => sx_bs (fun x y => sx_shr (Nat.ble 10 lv) sx_sr sx_Ln sx_Lx 64 x y) st n tb cs (fun r n' tb' cs' => ih rest ls r n' tb' cs' hp)
    | .i2l => match st with
      | .inl f :: r => ih rest ls (sx_vl f :: r) n tb cs hp
      | _ => false
    | .l2i => sx_cL lv st n tb cs (fun r n' tb' cs' => ih rest ls r n' tb' cs' hp)
    | .i2b => sx_cI lv (-128) 127 st n tb cs (fun r n' tb' cs' => ih rest ls r n' tb' cs' hp)
    | .i2s => sx_cI lv (-32768) 32767 st n tb cs (fun r n' tb' cs' => ih rest ls r n' tb' cs' hp)
    | .lcmp => match st with
      | .inr (.inl y) :: .inr (.inl x) :: r => sx_ad (-1) x y (fun f => ih rest ls (sx_vc f :: r) n tb cs hp)
      | _ => false
    | .dup => match st with
      | v :: r => !(sx_isL v) && ih rest ls (v :: v :: r) n tb cs hp
      | _ => false
    | .dup2 => match st with
      | v :: w :: r => !(sx_isL v) && !(sx_isL w) && ih rest ls (v :: w :: v :: w :: r) n tb cs hp
      | _ => false
    | .ifCond c _ => match st with
      | .inl f :: r => sx_cmp lv c f n tb cs hp (ih (rv_drop a body) ls r) (ih rest ls r)
      | .inr (.inr (.inl f)) :: r => sx_cmp lv c f n tb cs hp (ih (rv_drop a body) ls r) (ih rest ls r)
      | _ => false
    | .if_icmp c _ => match st with
      | .inl y :: .inl x :: r => sx_ad (-1) x y (fun f => sx_cmp lv c f n tb cs hp (ih (rv_drop a body) ls r) (ih rest ls r))
      | _ => false
    | .goto _ => ih (rv_drop a body) ls st n tb cs hp
    | .tableswitch _ lo _ _ => match st with
      | .inl x :: r => match ts with
        | t0 :: tt => sx_ad (-1) x (lo, []) (fun g => sx_cd sx_sr tb cs .lt g (fun tb' cs' => ih (rv_drop t0 body) ls r n tb' cs' hp)) && sx_tsw x n tb cs hp (fun q => ih (rv_drop q body) ls r) t0 tt lo
        | _ => false
      | _ => false
    | .getfield _ => sx_gf a b st n tb cs hp (fun r n' tb' cs' => ih rest ls r n' tb' cs' hp)
    | .putfield _ => sx_pf lv a b d st tb cs hp (fun r hp' => ih rest ls r n tb cs hp')
    | .iaload => sx_ald lv 0 st n tb cs hp (fun r => ih rest ls r)
    | .laload => sx_ald lv 1 st n tb cs hp (fun r => ih rest ls r)
    | .baload => sx_ald lv 2 st n tb cs hp (fun r => ih rest ls r)
    | .aaload => sx_ald lv 3 st n tb cs hp (fun r => ih rest ls r)
    | .iastore => sx_ast lv 0 st n tb cs hp (fun r => ih rest ls r)
    | .lastore => sx_ast lv 1 st n tb cs hp (fun r => ih rest ls r)
    | .bastore => sx_ast lv 2 st n tb cs hp (fun r => ih rest ls r)
    | .aastore => sx_ast lv 3 st n tb cs hp (fun r => ih rest ls r)
    | .invokevirtual _ => sx_inv cal (sx_rcv b) a d st (fun r => ih rest ls r) n tb cs hp
    | .invokestatic _ => Bool.rec (motive := fun _ => Bool) (sx_inv cal (fun _ => true) a d st (fun r => ih rest ls r) n tb cs hp) (sx_cpy lv st tb cs (fun r => ih rest ls r n tb cs hp)) (b.beq 77)
    | .ireturn => match st with
      | [.inl f] => match rt with
        | 0 => ret (some (sx_vi f)) n tb cs hp
        | 1 => sx_in lv tb cs 0 1 f && ret (some (sx_vi f)) n tb cs hp
        | _ => false
      | _ => false
    | .lreturn => match st with
      | [.inr (.inl f)] => rt.beq 2 && ret (some (sx_vl f)) n tb cs hp
      | _ => false
    | .return_ => match st with
      | [] => rt.beq 4 && ret none n tb cs hp
      | _ => false
    | _ => false
/-- THE WALK. hd: what is to be done at the head of a loop -/
noncomputable def sx_wk (lv : Nat) (cal : sx_Kc) (ret : sx_Kr) (hd : sx_Kw → sx_Kw) (body : List rv_I) (nL rt : Nat) (m : Nat) : sx_Kw := Nat.rec (motive := fun _ => sx_Kw) (fun _ _ _ _ _ _ _ => false) (fun _ ih => hd (sx_stp lv cal ret body nL rt ih)) m
noncomputable def sx_loc (as : List sx_V) : Nat → sx_Ls := List.rec (motive := fun _ => Nat → sx_Ls) (fun _ => []) (fun a _ ih i => (i, a) :: ih (Bool.rec (motive := fun _ => Nat) (i + 1) (i + 2) (sx_isL a))) as
