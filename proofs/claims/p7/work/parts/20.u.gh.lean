/-! WHAT ELSE is known of the heap: numbers of its own (codes 18432 to 18999), by which arrays are bound; rules say what a load or a store does to them -/
abbrev sx_Hp : Type := List (Nat × sx_F)
/-- a field's form: what was laid there last, or its own symbol -/
noncomputable def sx_hg (hp : sx_Hp) (c : Nat) : sx_F := List.rec (motive := fun _ => sx_F) (0, [(c, 1)]) (fun q _ ih => Bool.rec (motive := fun _ => sx_F) ih q.2 (q.1.beq c)) hp
noncomputable def sx_hs {β : Type} (hp : sx_Hp) (c : Nat) (f : sx_F) : (sx_Hp → β) → β := List.rec (motive := fun _ => (sx_Hp → β) → β) (fun k => k [(c, f)]) (fun q t ih k => Bool.rec (motive := fun _ => β) (ih (fun t' => k (q :: t'))) (k ((c, f) :: t)) (q.1.beq c)) hp
/-- is lo ≤ f ≤ hi sure? -/
noncomputable def sx_in (lv : Nat) (tb : sx_T) (cs : List sx_F) (lo hi : Int) (f : sx_F) : Bool := sx_ad (-1) f (lo, []) (fun g => sx_ge lv sx_sr tb cs g) && sx_ad (-1) (hi, []) f (fun g => sx_ge lv sx_sr tb cs g)
noncomputable def sx_frs (fs : List (Nat × Int × Int)) : Nat → sx_T → (Nat → sx_T → Bool) → Bool := List.rec (motive := fun _ => Nat → sx_T → (Nat → sx_T → Bool) → Bool) (fun n tb k => k n tb) (fun q _ ih n tb k => rv_fN (n + 1) (fun m => ih m ((n, q.2.1, q.2.2) :: tb) k)) fs
noncomputable def sx_asl (θ : Nat → sx_F) (l : List sx_F) : sx_T → List sx_F → sx_KT → Bool := List.rec (motive := fun _ => sx_T → List sx_F → sx_KT → Bool) (fun tb cs k => k tb cs) (fun f _ ih tb cs k => sx_sb θ f (fun g => sx_asm sx_sr tb cs g (fun tb' cs' => ih tb' cs' k))) l
noncomputable def sx_mds (θ : Nat → sx_F) (l : List (Nat × sx_F)) : sx_Hp → (sx_Hp → Bool) → Bool := List.rec (motive := fun _ => sx_Hp → (sx_Hp → Bool) → Bool) (fun hp k => k hp) (fun q _ ih hp k => ih hp (fun hp' => sx_sb θ q.2 (fun g => sx_hs hp' q.1 g k))) l
/-- one of the ways a rule goes: new symbols (19002 and on), forms that are not below 0, the numbers' new forms, a form of what was loaded -/
abbrev sx_Al : Type := List (Nat × Int × Int) × List sx_F × List (Nat × sx_F) × List sx_F
/-- a rule: forms that must not be below 0 (19000 the place, 19001 what is loaded or stored), its ways -/
abbrev sx_Ru : Type := List sx_F × List sx_Al
noncomputable def sx_gt (hp : sx_Hp) (i v : sx_F) (n s : Nat) : sx_F := Bool.rec (motive := fun _ => sx_F) (Bool.rec (motive := fun _ => sx_F) (Bool.rec (motive := fun _ => sx_F) (0, [(n + (s - 19002), 1)]) v (s.beq 19001)) i (s.beq 19000)) (sx_hg hp s) (Nat.blt s 19000)
abbrev sx_Kg : Type := sx_F → Nat → sx_T → List sx_F → sx_Hp → Bool
noncomputable def sx_alt (lv : Nat) (i v : sx_F) (n : Nat) (tb : sx_T) (cs : List sx_F) (hp : sx_Hp) (k : sx_Kg) (a : sx_Al) : Bool := sx_frs a.1 n tb (fun n' tb' => sx_asl (sx_gt hp i v n) a.2.1 tb' cs (fun tb2 cs2 => a.2.2.1.all (fun q => Nat.ble 18432 q.1 && Nat.blt q.1 19000 && sx_sb (sx_gt hp i v n) q.2 (fun g => sx_in lv tb2 cs2 (sx_sr q.1).1 (sx_sr q.1).2 g)) && sx_mds (sx_gt hp i v n) a.2.2.1 hp (fun hp' => match a.2.2.2 with
  | [] => k v n' tb2 cs2 hp'
  | e :: _ => sx_sb (sx_gt hp i v n) e (fun g => k g n' tb2 cs2 hp'))))
noncomputable def sx_run (lv : Nat) (i v : sx_F) (n : Nat) (tb : sx_T) (cs : List sx_F) (hp : sx_Hp) (k : sx_Kg) (dflt : Bool) (rs : List sx_Ru) : Bool := List.rec (motive := fun _ => Bool) dflt (fun r _ ih => Bool.rec (motive := fun _ => Bool) ih (r.2.all (fun a => sx_alt lv i v n tb cs hp k a)) (r.1.all (fun f => sx_sb (sx_gt hp i v n) f (fun g => sx_ge lv sx_sr tb cs g)))) rs
