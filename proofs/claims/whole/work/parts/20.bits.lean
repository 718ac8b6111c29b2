/-! Bits of small numbers -/
theorem jor_s : ∀ a, a < 64 → ∀ b, b < 64 → jor ((a : Nat) : Int) ((b : Nat) : Int) = ((a ||| b : Nat) : Int) := by decide +kernel
theorem jshl_s : ∀ i, i < 7 → jshl 1 ((i : Nat) : Int) = ((2 ^ i : Nat) : Int) := by decide +kernel
theorem jbit_s : ∀ a, a < 64 → ∀ i, i < 6 → jand (jshr ((a : Nat) : Int) ((i : Nat) : Int)) 1 = if a.testBit i then 1 else 0 := by decide +kernel
theorem or_b {a b : Nat} (ha : a < 64) (hb : b < 64) : a ||| b < 64 := Nat.or_lt_two_pow (n := 6) ha hb
theorem pw_b {i : Nat} (h : i < 6) : 2 ^ i < 64 := show 2 ^ i < 2 ^ 6 from Nat.pow_lt_pow_right (by decide) h
