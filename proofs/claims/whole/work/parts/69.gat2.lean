/-! as many cells as men -/
theorem gc_A {n : Nat} {ce A : Nat → Int} (h : ce n = -9) : ∀ k, (gc (n + 1) ce A k).1 = (gc n ce A k).1 := by
  intro k
  induction k with
  | zero => rfl
  | succ k ih =>
    have e : who (n + 1) ce (k : Int) = who n ce (k : Int) := by
      show (if ce n = (k : Int) then (n : Int) else who n ce (k : Int)) = who n ce (k : Int)
      rw [if_neg (by omega)]
    unfold gc
    rw [e]
    by_cases q : who n ce (k : Int) = -9
    · rw [if_pos q, if_pos q]; exact ih
    · rw [if_neg q, if_neg q]; simp only; omega
theorem gc_B {n : Nat} {ce A : Nat → Int} {x : Nat} (h : ce n = (x : Int)) (hx : who n ce (x : Int) = -9) : ∀ k, (gc (n + 1) ce A k).1 = (gc n ce A k).1 + (if x < k then 1 else 0) := by
  intro k
  induction k with
  | zero => rfl
  | succ k ih =>
    have e : who (n + 1) ce (k : Int) = if ce n = (k : Int) then (n : Int) else who n ce (k : Int) := rfl
    unfold gc
    rw [e]
    by_cases r : x = k
    · subst r
      rw [if_pos h, if_neg (by omega), if_pos hx, if_pos (by omega)]
      simp only
      rw [ih, if_neg (by omega)]
    · have e' : (if ce n = (k : Int) then (n : Int) else who n ce (k : Int)) = who n ce (k : Int) := if_neg (by omega)
      rw [e']
      by_cases q : who n ce (k : Int) = -9
      · rw [if_pos q, if_pos q, ih]
        by_cases s : x < k
        · rw [if_pos s, if_pos (by omega)]
        · rw [if_neg s, if_neg (by omega)]
      · rw [if_neg q, if_neg q]
        show (gc (n + 1) ce A k).1 + 1 = (gc n ce A k).1 + 1 + _
        rw [ih]
        by_cases s : x < k
        · rw [if_pos s, if_pos (by omega)]
        · rw [if_neg s, if_neg (by omega)]
theorem gc_gm {N c : Nat} {ce A B : Nat → Int} (hr : ∀ j, j < N → ce j = -9 ∨ 0 ≤ ce j ∧ ce j < c) (hi : ∀ i j, i < N → j < N → ce i = ce j → ¬ ce i = -9 → i = j) : ∀ n, n ≤ N → (gc n ce A c).1 = (gm ce B n).1 := by
  intro n
  induction n with
  | zero =>
    intro _
    have : ∀ k, (gc 0 ce A k).1 = 0 := by
      intro k
      induction k with
      | zero => rfl
      | succ k ih =>
        unfold gc
        rw [if_pos (show who 0 ce (k : Int) = -9 from rfl)]
        exact ih
    exact this c
  | succ n ih =>
    intro hn
    have r := hr n (by omega)
    have eg : gm ce B (n + 1) = if ce n = -9 then gm ce B n else ((gm ce B n).1 + 1, fun j => if j = (gm ce B n).1 then (n : Int) else (gm ce B n).2 j) := rfl
    by_cases q : ce n = -9
    · rw [gc_A q, ih (by omega), eg, if_pos q]
    · obtain ⟨x, hx⟩ : ∃ x : Nat, ce n = (x : Int) := ⟨(ce n).toNat, by omega⟩
      have hw : who n ce (x : Int) = -9 := who_no (fun j hj e => by
        have := hi j n (by omega) (by omega) (by omega) (by omega)
        omega)
      rw [gc_B hx hw, ih (by omega), eg, if_neg q, if_pos (by omega)]
theorem gc_ext {n c : Nat} {ce A : Nat → Int} (hr : ∀ j, j < n → ce j = -9 ∨ 0 ≤ ce j ∧ ce j < c) : ∀ d, gc n ce A (c + d) = gc n ce A c := by
  intro d
  induction d with
  | zero => rfl
  | succ d ih =>
    show (if who n ce ((c + d : Nat) : Int) = -9 then gc n ce A (c + d) else _) = _
    rw [if_pos (who_no (fun j hj e => by have := hr j hj; omega)), ih]
theorem gc_mono (n : Nat) (ce A : Nat → Int) (k : Nat) : ∀ d, (gc n ce A k).1 ≤ (gc n ce A (k + d)).1 := by
  intro d
  induction d with
  | zero => exact Nat.le_refl _
  | succ d ih =>
    have e : gc n ce A (k + (d + 1)) = if who n ce ((k + d : Nat) : Int) = -9 then gc n ce A (k + d) else ((gc n ce A (k + d)).1 + 1, fun j => if j = (gc n ce A (k + d)).1 then ((k + d : Nat) : Int) else (gc n ce A (k + d)).2 j) := rfl
    rw [e]
    by_cases q : who n ce ((k + d : Nat) : Int) = -9
    · rw [if_pos q]; exact ih
    · rw [if_neg q]; simp only; omega
