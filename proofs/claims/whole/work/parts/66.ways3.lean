/-! a sorted row ends within 720 ways -/
def wend (k f : Nat) (w : Nat → Int) : Prop := match f with
  | 0 => False
  | f + 1 => match nxt k w with
    | none => True
    | some g => wend k f g
theorem enc_lt {f : Nat → Int} (hf : ∀ j, 0 ≤ f j ∧ f j < 8) (k : Nat) : enc k f < 8 ^ k := by
  induction k with
  | zero => exact Nat.zero_lt_succ _
  | succ k ih =>
    have h1 := hf k
    have h2 : (f k).toNat ≤ 7 := by omega
    have h3 : (f k).toNat * 8 ^ k ≤ 7 * 8 ^ k := Nat.mul_le_mul_right _ h2
    unfold enc
    rw [Nat.pow_succ]
    omega
theorem dig_enc {f : Nat → Int} (hf : ∀ j, 0 ≤ f j ∧ f j < 8) : ∀ k j, j < k → dig (enc k f) j = f j := by
  intro k
  induction k with
  | zero => intro j hj; omega
  | succ k ih =>
    intro j hj
    have h1 := hf j
    have lt := enc_lt hf k
    have e : enc (k + 1) f = enc k f + (f k).toNat * 8 ^ k := rfl
    unfold dig
    rw [e]
    by_cases q : j = k
    · subst q
      rw [Nat.add_mul_div_right _ _ (Nat.pow_pos (by omega)), Nat.div_eq_of_lt lt]
      omega
    · have r := ih j (by omega)
      unfold dig at r
      obtain ⟨d, hd⟩ : ∃ d, k = j + (d + 1) := ⟨k - j - 1, by omega⟩
      have e2 : (f k).toNat * 8 ^ k = 8 ^ j * (8 * ((f k).toNat * 8 ^ d)) := by
        rw [hd, Nat.pow_add, Nat.pow_succ, ← hd]
        rw [Nat.mul_left_comm, Nat.mul_comm (8 ^ d) 8, Nat.mul_left_comm (f k).toNat 8]
      rw [e2, Nat.add_mul_div_left _ _ (Nat.pow_pos (by omega)), Nat.add_mul_mod_self_left]
      exact r
theorem rv_val : ∀ (f a b : Nat) (w : Nat → Int) (j : Nat), ∃ i, rv w a b f j = w i := by
  intro f
  induction f with
  | zero => intro a b w j; exact ⟨j, rfl⟩
  | succ f ih =>
    intro a b w j
    unfold rv
    by_cases q : a < b
    · rw [if_pos q]
      obtain ⟨i, hi⟩ := ih (a + 1) (b - 1) (sw w a b) j
      rw [sw_at] at hi
      exact ⟨_, hi⟩
    · rw [if_neg q]
      exact ⟨j, rfl⟩
theorem nxt_val {k : Nat} {w g : Nat → Int} (e : nxt k w = some g) (j : Nat) : ∃ i, g j = w i := by
  unfold nxt at e
  cases h : pv w (k - 1) with
  | zero => rw [h] at e; exact absurd e (by simp)
  | succ i =>
    rw [h] at e
    simp only [Option.some.injEq] at e
    rw [← e]
    obtain ⟨x, hx⟩ := rv_val 6 (i + 1) (k - 1) (sw w i (pq w (w i) (k - 1))) j
    rw [sw_at] at hx
    exact ⟨_, hx⟩
theorem dig_r (x j : Nat) : 0 ≤ dig x j ∧ dig x j < 8 := by
  unfold dig
  have := Nat.mod_lt (x / 8 ^ j) (show 8 > 0 by omega)
  omega
theorem tz_wend {k : Nat} : ∀ (f x : Nat) (w : Nat → Int), OE k w (dig x) → tz k f x = true → wend k f w := by
  intro f
  induction f with
  | zero => intro x w H t; exact absurd t (by unfold tz; decide)
  | succ f ih =>
    intro x w H t
    unfold tz at t
    unfold wend
    rcases nxt_oe H with ⟨a, b⟩ | ⟨g, g', a, b, H'⟩
    · rw [a]; trivial
    · rw [a]
      rw [b] at t
      have vr : ∀ j, 0 ≤ g' j ∧ g' j < 8 := fun j => by
        obtain ⟨i, hi⟩ := nxt_val b j
        rw [hi]
        exact dig_r x i
      refine ih (enc k g') g (fun p q hp hq => ?_) t
      rw [dig_enc vr k p hp, dig_enc vr k q hq]
      exact H' p q hp hq
