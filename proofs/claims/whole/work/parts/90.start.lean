/-! From the small machine's law to the claim -/
def am_h0 (L : Nat) (f : Nat → Int) : am_H := (fun a => if a = 0 then cI 9 L f else cI 8 0 (fun _ => 0), 1, 0)
theorem law_ok (L : Nat) (f : Nat → Int) (hL : L ≤ 2560) (hf : ∀ j, -2147483648 ≤ f j ∧ f j < 2147483648) : ∃ h' : am_H, gv mLaw_law 0 [vR 0, vU, vU, vU] [] (am_h0 L f) = some (some (vI 1), h') ∧ h'.2.1 ≤ 1000 ∧ h'.2.2 ≤ 10000 := sorry
