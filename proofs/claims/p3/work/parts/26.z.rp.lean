/-! THE RULES HOLD -/
theorem sx_rl_ok (q : Nat) (hq : q < 143) (r : sx_Ru) (hr : r ∈ sx_rl.get q) : sx_okr sx_GG false q r := by sorry
theorem sx_rs_ok (q : Nat) (hq : q < 143) (r : sx_Ru) (hr : r ∈ sx_rs.get q) : sx_okr sx_GG true q r := by sorry
theorem sx_mv_ok (r : sx_Ru) (hr : r ∈ sx_mv) : sx_okm sx_GG r := by sorry
theorem sx_rn_ok (r : sx_Ru) (hr : r ∈ sx_ran) : sx_okn sx_GG r := by sorry
