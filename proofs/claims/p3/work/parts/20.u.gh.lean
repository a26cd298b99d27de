/-! WHAT ELSE is known of the heap: numbers of its own, by which arrays are bound -/
def sx_Gh (_ : Nat → Int) (_ : List rv_C) : Prop := True
/-- behind a load of r out of place i of cell q -/
noncomputable def sx_gld (_ : Nat) (_ _ : sx_F) (_ : List (Nat × sx_F)) (tb : sx_T) (cs : List sx_F) (k : sx_KT) : Bool := k tb cs
/-- ahead of a store of v into place i of cell q -/
noncomputable def sx_gst (_ : Nat) (_ _ : sx_F) (n : Nat) (tb : sx_T) (cs : List sx_F) (hp : List (Nat × sx_F)) (k : Nat → sx_T → List sx_F → List (Nat × sx_F) → Bool) : Bool := k n tb cs hp
/-- does a store into cell q leave them as they are? -/
def sx_gfr (_ : Nat) : Bool := true
