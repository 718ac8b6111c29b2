/-! those IN, and the cells taken -/
def gm (ce : Nat → Int) (A : Nat → Int) (k : Nat) : Nat × (Nat → Int) := match k with
  | 0 => (0, A)
  | k + 1 => if ce k = -9 then gm ce A k else ((gm ce A k).1 + 1, fun j => if j = (gm ce A k).1 then (k : Int) else (gm ce A k).2 j)
def gc (n : Nat) (ce : Nat → Int) (A : Nat → Int) (k : Nat) : Nat × (Nat → Int) := match k with
  | 0 => (0, A)
  | k + 1 => if who n ce (k : Int) = -9 then gc n ce A k else ((gc n ce A k).1 + 1, fun j => if j = (gc n ce A k).1 then (k : Int) else (gc n ce A k).2 j)
theorem gm_le (ce A : Nat → Int) (k : Nat) : (gm ce A k).1 ≤ k := by
  induction k with
  | zero => exact Nat.le_refl 0
  | succ k ih =>
    unfold gm
    by_cases q : ce k = -9
    · rw [if_pos q]; omega
    · rw [if_neg q]; simp only; omega
theorem gm_ok (ce A : Nat → Int) (k : Nat) : ∀ i, i < (gm ce A k).1 → ∃ m : Nat, m < k ∧ (gm ce A k).2 i = (m : Int) ∧ ¬ ce m = -9 := by
  induction k with
  | zero => intro i hi; exact absurd hi (Nat.not_lt_zero _)
  | succ k ih =>
    unfold gm
    by_cases q : ce k = -9
    · rw [if_pos q]
      intro i hi
      obtain ⟨m, a, b, c⟩ := ih i hi
      exact ⟨m, by omega, b, c⟩
    · rw [if_neg q]
      intro i hi
      simp only at hi ⊢
      by_cases r : i = (gm ce A k).1
      · exact ⟨k, by omega, by rw [if_pos r], q⟩
      · obtain ⟨m, a, b, c⟩ := ih i (by omega)
        exact ⟨m, by omega, by rw [if_neg r]; exact b, c⟩
theorem gm_up (ce A : Nat → Int) (k : Nat) : ∀ i j, i < j → j < (gm ce A k).1 → (gm ce A k).2 i < (gm ce A k).2 j := by
  induction k with
  | zero => intro i j hij hj; exact absurd hj (Nat.not_lt_zero _)
  | succ k ih =>
    have ok := gm_ok ce A k
    unfold gm
    by_cases q : ce k = -9
    · rw [if_pos q]; exact ih
    · rw [if_neg q]
      intro i j hij hj
      simp only at hj ⊢
      rw [if_neg (by omega)]
      by_cases r : j = (gm ce A k).1
      · rw [if_pos r]
        obtain ⟨m, a, b, c⟩ := ok i (by omega)
        rw [b]; omega
      · rw [if_neg r]
        exact ih i j hij (by omega)
theorem gm_all (ce A : Nat → Int) (k : Nat) : ∀ m, m < k → ¬ ce m = -9 → ∃ i, i < (gm ce A k).1 ∧ (gm ce A k).2 i = (m : Int) := by
  induction k with
  | zero => intro m hm; omega
  | succ k ih =>
    unfold gm
    by_cases q : ce k = -9
    · rw [if_pos q]
      intro m hm hi
      by_cases r : m = k
      · subst r; exact absurd q hi
      · exact ih m (by omega) hi
    · rw [if_neg q]
      intro m hm hi
      simp only
      by_cases r : m = k
      · exact ⟨(gm ce A k).1, by omega, by rw [if_pos rfl, r]⟩
      · obtain ⟨i, a, b⟩ := ih m (by omega) hi
        exact ⟨i, by omega, by rw [if_neg (by omega)]; exact b⟩
theorem gc_le (n : Nat) (ce A : Nat → Int) (k : Nat) : (gc n ce A k).1 ≤ k := by
  induction k with
  | zero => exact Nat.le_refl 0
  | succ k ih =>
    unfold gc
    by_cases q : who n ce (k : Int) = -9
    · rw [if_pos q]; omega
    · rw [if_neg q]; simp only; omega
theorem gc_ok (n : Nat) (ce A : Nat → Int) (k : Nat) : ∀ i, i < (gc n ce A k).1 → ∃ x : Nat, x < k ∧ (gc n ce A k).2 i = (x : Int) ∧ ¬ who n ce (x : Int) = -9 := by
  induction k with
  | zero => intro i hi; exact absurd hi (Nat.not_lt_zero _)
  | succ k ih =>
    unfold gc
    by_cases q : who n ce (k : Int) = -9
    · rw [if_pos q]
      intro i hi
      obtain ⟨m, a, b, c⟩ := ih i hi
      exact ⟨m, by omega, b, c⟩
    · rw [if_neg q]
      intro i hi
      simp only at hi ⊢
      by_cases r : i = (gc n ce A k).1
      · exact ⟨k, by omega, by rw [if_pos r], q⟩
      · obtain ⟨m, a, b, c⟩ := ih i (by omega)
        exact ⟨m, by omega, by rw [if_neg r]; exact b, c⟩
theorem gc_up (n : Nat) (ce A : Nat → Int) (k : Nat) : ∀ i j, i < j → j < (gc n ce A k).1 → (gc n ce A k).2 i < (gc n ce A k).2 j := by
  induction k with
  | zero => intro i j hij hj; exact absurd hj (Nat.not_lt_zero _)
  | succ k ih =>
    have ok := gc_ok n ce A k
    unfold gc
    by_cases q : who n ce (k : Int) = -9
    · rw [if_pos q]; exact ih
    · rw [if_neg q]
      intro i j hij hj
      simp only at hj ⊢
      rw [if_neg (by omega)]
      by_cases r : j = (gc n ce A k).1
      · rw [if_pos r]
        obtain ⟨m, a, b, c⟩ := ok i (by omega)
        rw [b]; omega
      · rw [if_neg r]
        exact ih i j hij (by omega)
theorem gc_all (n : Nat) (ce A : Nat → Int) (k : Nat) : ∀ x : Nat, x < k → ¬ who n ce (x : Int) = -9 → ∃ i, i < (gc n ce A k).1 ∧ (gc n ce A k).2 i = (x : Int) := by
  induction k with
  | zero => intro m hm; omega
  | succ k ih =>
    unfold gc
    by_cases q : who n ce (k : Int) = -9
    · rw [if_pos q]
      intro m hm hi
      by_cases r : m = k
      · subst r; exact absurd q hi
      · exact ih m (by omega) hi
    · rw [if_neg q]
      intro m hm hi
      simp only
      by_cases r : m = k
      · exact ⟨(gc n ce A k).1, by omega, by rw [if_pos rfl, r]⟩
      · obtain ⟨i, a, b⟩ := ih m (by omega) hi
        exact ⟨i, by omega, by rw [if_neg (by omega)]; exact b⟩
