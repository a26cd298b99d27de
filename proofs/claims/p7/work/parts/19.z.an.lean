/-! WHAT TWO NUMBERS HAVE IN COMMON -/
theorem sx_anx : ∀ a : Nat, a < 256 → ∀ b : Nat, b < 256 → ((Int32.ofInt (a : Int)) &&& (Int32.ofInt (-1 - (b : Int)))).toInt = (a : Int) - ((a &&& b : Nat) : Int) := by decide +kernel
