/-! Bits of small numbers -/
theorem jor_s : ∀ a, a < 64 → ∀ b, b < 64 → jor ((a : Nat) : Int) ((b : Nat) : Int) = ((a ||| b : Nat) : Int) := by decide +kernel
theorem jshl_s : ∀ i, i < 7 → jshl 1 ((i : Nat) : Int) = ((2 ^ i : Nat) : Int) := by decide +kernel
theorem jbit_s : ∀ a, a < 64 → ∀ i, i < 6 → jand (jshr ((a : Nat) : Int) ((i : Nat) : Int)) 1 = if a.testBit i then 1 else 0 := by decide +kernel
theorem or_b {a b : Nat} (ha : a < 64) (hb : b < 64) : a ||| b < 64 := Nat.or_lt_two_pow (n := 6) ha hb
theorem pw_b {i : Nat} (h : i < 6) : 2 ^ i < 64 := show 2 ^ i < 2 ^ 6 from Nat.pow_lt_pow_right (by decide) h
theorem am_l01 : ((0 : Int) = 1) = False := by decide
theorem am_l02 : ((0 : Int) = 2) = False := by decide
theorem am_l03 : ((0 : Int) = 3) = False := by decide
theorem am_l04 : ((0 : Int) = 4) = False := by decide
theorem am_l05 : ((0 : Int) = 5) = False := by decide
theorem am_l10 : ((1 : Int) = 0) = False := by decide
theorem am_l12 : ((1 : Int) = 2) = False := by decide
theorem am_l13 : ((1 : Int) = 3) = False := by decide
theorem am_l14 : ((1 : Int) = 4) = False := by decide
theorem am_l15 : ((1 : Int) = 5) = False := by decide
theorem am_l20 : ((2 : Int) = 0) = False := by decide
theorem am_l21 : ((2 : Int) = 1) = False := by decide
theorem am_l23 : ((2 : Int) = 3) = False := by decide
theorem am_l24 : ((2 : Int) = 4) = False := by decide
theorem am_l25 : ((2 : Int) = 5) = False := by decide
theorem am_l30 : ((3 : Int) = 0) = False := by decide
theorem am_l31 : ((3 : Int) = 1) = False := by decide
theorem am_l32 : ((3 : Int) = 2) = False := by decide
theorem am_l34 : ((3 : Int) = 4) = False := by decide
theorem am_l35 : ((3 : Int) = 5) = False := by decide
theorem am_l40 : ((4 : Int) = 0) = False := by decide
theorem am_l41 : ((4 : Int) = 1) = False := by decide
theorem am_l42 : ((4 : Int) = 2) = False := by decide
theorem am_l43 : ((4 : Int) = 3) = False := by decide
theorem am_l45 : ((4 : Int) = 5) = False := by decide
theorem am_l50 : ((5 : Int) = 0) = False := by decide
theorem am_l51 : ((5 : Int) = 1) = False := by decide
theorem am_l52 : ((5 : Int) = 2) = False := by decide
theorem am_l53 : ((5 : Int) = 3) = False := by decide
theorem am_l54 : ((5 : Int) = 4) = False := by decide
