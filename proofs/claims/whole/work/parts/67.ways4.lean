/-! the sorted row -/
theorem dig_idn : ∀ k, k < 7 → ∀ j, j < k → dig (idn k) j = (j : Int) := by decide +kernel
theorem sort_oe {k : Nat} {w : Nat → Int} (hk : k < 7) (hs : ∀ a b, a < b → b < k → w a < w b) : OE k w (dig (idn k)) := by
  intro a b ha hb
  rw [dig_idn k hk a ha, dig_idn k hk b hb]
  constructor
  · intro z
    by_cases q : a < b
    · omega
    · by_cases r : a = b
      · subst r; omega
      · have := hs b a (by omega) ha
        omega
  · intro z
    exact hs a b (by omega) hb
theorem sort_end {k : Nat} {w : Nat → Int} (hk : k ≤ 6) (hs : ∀ a b, a < b → b < k → w a < w b) : wend k 720 w := by
  have H := sort_oe (show k < 7 by omega) hs
  have : k = 0 ∨ k = 1 ∨ k = 2 ∨ k = 3 ∨ k = 4 ∨ k = 5 ∨ k = 6 := by omega
  rcases this with z | z | z | z | z | z | z <;> subst z
  · exact tz_wend 720 _ w H tz_0
  · exact tz_wend 720 _ w H tz_1
  · exact tz_wend 720 _ w H tz_2
  · exact tz_wend 720 _ w H tz_3
  · exact tz_wend 720 _ w H tz_4
  · exact tz_wend 720 _ w H tz_5
  · exact tz_wend 720 _ w H tz_6
