/-! how many ways -/
def OE (k : Nat) (w u : Nat → Int) : Prop := ∀ a b, a < k → b < k → (w a < w b ↔ u a < u b)
theorem pv_oe {k : Nat} {w u : Nat → Int} (H : OE k w u) : ∀ p, p < k → pv w p = pv u p := by
  intro p
  induction p with
  | zero => intro _; rfl
  | succ p ih =>
    intro hp
    have q := H (p + 1) p hp (by omega)
    unfold pv
    rw [ih (by omega)]
    by_cases r : w (p + 1) < w p
    · rw [if_pos r, if_pos (q.mp r)]
    · rw [if_neg r, if_neg (fun z => r (q.mpr z))]
theorem pq_oe {k : Nat} {w u : Nat → Int} (H : OE k w u) {i : Nat} (hi : i < k) : ∀ p, p < k → pq w (w i) p = pq u (u i) p := by
  intro p
  induction p with
  | zero => intro _; rfl
  | succ p ih =>
    intro hp
    have q := H (p + 1) i hp hi
    unfold pq
    rw [ih (by omega)]
    by_cases r : w (p + 1) < w i
    · rw [if_pos r, if_pos (q.mp r)]
    · rw [if_neg r, if_neg (fun z => r (q.mpr z))]
theorem sw_at (w : Nat → Int) (a b j : Nat) : sw w a b j = w (if j = b then a else if j = a then b else j) := by
  unfold sw
  by_cases q : j = b
  · rw [if_pos q, if_pos q]
  · rw [if_neg q, if_neg q]
    by_cases r : j = a
    · rw [if_pos r, if_pos r]
    · rw [if_neg r, if_neg r]
theorem sw_oe {k : Nat} {w u : Nat → Int} (H : OE k w u) {a b : Nat} (ha : a < k) (hb : b < k) : OE k (sw w a b) (sw u a b) := by
  intro x y hx hy
  rw [sw_at, sw_at, sw_at, sw_at]
  refine H _ _ ?_ ?_
  · split
    · exact ha
    · split
      · exact hb
      · exact hx
  · split
    · exact ha
    · split
      · exact hb
      · exact hy
theorem rv_oe {k : Nat} : ∀ (f a b : Nat) (w u : Nat → Int), OE k w u → b < k → OE k (rv w a b f) (rv u a b f) := by
  intro f
  induction f with
  | zero => intro a b w u H _; exact H
  | succ f ih =>
    intro a b w u H hb
    unfold rv
    by_cases q : a < b
    · rw [if_pos q, if_pos q]
      exact ih _ _ _ _ (sw_oe H (by omega) hb) (by omega)
    · rw [if_neg q, if_neg q]
      exact H
theorem nxt_oe {k : Nat} {w u : Nat → Int} (H : OE k w u) : (nxt k w = none ∧ nxt k u = none) ∨ ∃ g g', nxt k w = some g ∧ nxt k u = some g' ∧ OE k g g' := by
  unfold nxt
  by_cases z : k = 0
  · subst z
    exact Or.inl ⟨rfl, rfl⟩
  · rw [pv_oe H (k - 1) (by omega)]
    have pl := pv_le u (k - 1)
    cases e : pv u (k - 1) with
    | zero => exact Or.inl ⟨rfl, rfl⟩
    | succ i =>
      rw [e] at pl
      have at' := pv_at u (k - 1) i e
      have pr := pq_r u i at' (k - 1 - (i + 1))
      rw [show i + 1 + (k - 1 - (i + 1)) = k - 1 by omega] at pr
      refine Or.inr ⟨_, _, rfl, rfl, ?_⟩
      rw [pq_oe H (show i < k by omega) (k - 1) (by omega)]
      exact rv_oe _ _ _ _ _ (sw_oe H (by omega) (by omega)) (by omega)
