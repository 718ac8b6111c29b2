/-! Mathematics of the gaol: who is in a cell, figures, years behind a month -/
def who (n : Nat) (ce : Nat → Int) (x : Int) : Int := match n with
  | 0 => -9
  | k + 1 => if ce k = x then (k : Int) else who k ce x
def fig (a s : Int) : Int := if s = 0 then 0 else if s = 1 then a + 1 else if s = 2 then a - 3 else if s = 3 then -1 else a - 1
def cl (y : Int) : Int := if y < 0 then 0 else if 60 < y then 60 else y
def ffr (n : Nat) (ce ha : Nat → Int) (x s : Int) : Int := if who n ce x = -9 then 0 else fig (ha (who n ce x).toNat) s
def aft (n : Nat) (ce so ha ye : Nat → Int) (m : Nat) : Int := cl (ye m - 1 + ffr n ce ha (ce m - 1) (so m) + ffr n ce ha (ce m + 1) (so m))
def Wf (n c : Nat) (ce so ha ye : Nat → Int) : Prop := n ≤ 6 ∧ 2 ≤ c ∧ c ≤ 9 ∧ (∀ j, j < n → (ce j = -9 ∧ ye j = 0 ∨ 0 ≤ ce j ∧ ce j < c) ∧ 0 ≤ so j ∧ so j ≤ 4 ∧ 0 ≤ ha j ∧ ha j ≤ 3 ∧ 0 ≤ ye j ∧ ye j ≤ 60) ∧ ∀ i j, i < n → j < n → ce i = ce j → ¬ ce i = -9 → i = j
theorem who_range (n : Nat) (ce : Nat → Int) (x : Int) : who n ce x = -9 ∧ (∀ j, j < n → ¬ ce j = x) ∨ ∃ j, j < n ∧ who n ce x = (j : Int) ∧ ce j = x := by
  induction n with
  | zero => exact Or.inl ⟨rfl, fun j hj => by omega⟩
  | succ n ih =>
    unfold who
    by_cases hc : ce n = x
    · rw [if_pos hc]; exact Or.inr ⟨n, by omega, rfl, hc⟩
    · rw [if_neg hc]
      rcases ih with ⟨h1, h2⟩ | ⟨j, h1, h2, h3⟩
      · refine Or.inl ⟨h1, fun j hj => ?_⟩
        by_cases q : j = n
        · rw [q]; exact hc
        · exact h2 j (by omega)
      · exact Or.inr ⟨j, by omega, h2, h3⟩
theorem who_b (n : Nat) (ce : Nat → Int) (x : Int) : -9 ≤ who n ce x ∧ who n ce x < n ∨ who n ce x = -9 ∧ n = 0 := by
  rcases who_range n ce x with ⟨h1, -⟩ | ⟨j, h1, h2, -⟩
  · rcases Nat.eq_zero_or_pos n with q | q
    · exact Or.inr ⟨h1, q⟩
    · exact Or.inl (by omega)
  · exact Or.inl (by omega)
theorem who_s (n : Nat) (ce : Nat → Int) (x : Int) : who n ce x = -9 ∨ 0 ≤ who n ce x := by
  rcases who_range n ce x with ⟨h1, -⟩ | ⟨j, -, h2, -⟩
  · exact Or.inl h1
  · exact Or.inr (by omega)
theorem who_at {n : Nat} {ce : Nat → Int} {x : Int} {j : Nat} (hj : j < n) (hx : ce j = x) (hi : ∀ i, i < n → ce i = x → i = j) : who n ce x = (j : Int) := by
  rcases who_range n ce x with ⟨-, h2⟩ | ⟨i, h1, h2, h3⟩
  · exact absurd hx (h2 j hj)
  · rw [h2, hi i h1 h3]
theorem who_no {n : Nat} {ce : Nat → Int} {x : Int} (h : ∀ j, j < n → ¬ ce j = x) : who n ce x = -9 := by
  rcases who_range n ce x with ⟨h1, -⟩ | ⟨j, h1, -, h3⟩
  · exact h1
  · exact absurd h3 (h j h1)
theorem who_congr {n : Nat} {ce ce' : Nat → Int} {x : Int} (h : ∀ j, j < n → ce j = ce' j) : who n ce x = who n ce' x := by
  induction n with
  | zero => rfl
  | succ n ih =>
    unfold who
    rw [h n (by omega), ih (fun j hj => h j (by omega))]
theorem fig_b {a s : Int} (ha : 0 ≤ a ∧ a ≤ 3) : -3 ≤ fig a s ∧ fig a s ≤ 4 := by
  unfold fig
  repeat' split
  all_goals omega
theorem ffr_b {n c : Nat} {ce so ha ye : Nat → Int} (hw : Wf n c ce so ha ye) (x s : Int) : -3 ≤ ffr n ce ha x s ∧ ffr n ce ha x s ≤ 4 := by
  unfold ffr
  rcases who_range n ce x with ⟨h1, -⟩ | ⟨j, h1, h2, -⟩
  · rw [if_pos h1]; omega
  · rw [if_neg (by omega), h2]
    have := hw.2.2.2.1 j h1
    exact fig_b (by simp only [Int.toNat_natCast]; omega)
theorem cl_b (y : Int) : 0 ≤ cl y ∧ cl y ≤ 60 := by
  unfold cl
  repeat' split
  all_goals omega
theorem aft_b (n : Nat) (ce so ha ye : Nat → Int) (m : Nat) : 0 ≤ aft n ce so ha ye m ∧ aft n ce so ha ye m ≤ 60 := cl_b _
/-- nothing outside of [b, e) has changed, nothing was made -/
def Fr (b e : Nat) (h h' : am_H) : Prop := h'.2 = h.2 ∧ ∀ a, a < b ∨ e ≤ a → h'.1 a = h.1 a
theorem Fr.rf {b e : Nat} {h : am_H} : Fr b e h h := ⟨rfl, fun _ _ => rfl⟩
theorem Fr.tr {b e : Nat} {h h1 h2 : am_H} (a : Fr b e h h1) (c : Fr b e h1 h2) : Fr b e h h2 := ⟨c.1.trans a.1, fun x hx => (c.2 x hx).trans (a.2 x hx)⟩
theorem Fr.st {b e : Nat} {h : am_H} {a : Nat} {c : am_C} (ha : b ≤ a ∧ a < e) : Fr b e h (hS h a c) := ⟨rfl, fun x hx => hS_ne (by omega)⟩
theorem Fr.wd {b e b' e' : Nat} {h h' : am_H} (f : Fr b e h h') (q : b' ≤ b ∧ e ≤ e') : Fr b' e' h h' := ⟨f.1, fun x hx => f.2 x (by omega)⟩
theorem Fr.at {b e : Nat} {h h' : am_H} (f : Fr b e h h') {a : Nat} (q : a < b ∨ e ≤ a) : h'.1 a = h.1 a := f.2 a q
def ScAt (h : am_H) (b n c : Nat) (t : Int) (ce so ha ye ic : Nat → Int) : Prop :=
  h.1 b = cO 5 [vI (c : Int), vI (n : Int), vI t, vR (b + 1), vR (b + 2), vR (b + 3), vR (b + 4), vR (b + 5)] ∧ h.1 (b + 1) = cI 0 6 ce ∧ h.1 (b + 2) = cI 0 6 so ∧ h.1 (b + 3) = cI 0 6 ha ∧ h.1 (b + 4) = cI 0 6 ye ∧ h.1 (b + 5) = cI 0 9 ic
theorem ScAt.fr {h h' : am_H} {b n c : Nat} {t : Int} {ce so ha ye ic : Nat → Int} (S : ScAt h b n c t ce so ha ye ic) {b' e' : Nat} (f : Fr b' e' h h') (q : b + 6 ≤ b' ∨ e' ≤ b) : ScAt h' b n c t ce so ha ye ic := by
  obtain ⟨s0, s1, s2, s3, s4, s5⟩ := S
  exact ⟨by rw [f.at (by omega)]; exact s0, by rw [f.at (by omega)]; exact s1, by rw [f.at (by omega)]; exact s2, by rw [f.at (by omega)]; exact s3, by rw [f.at (by omega)]; exact s4, by rw [f.at (by omega)]; exact s5⟩
theorem am_ans {x y : Int} {h : am_H} (e : x = y) : (some (some (vI x), h) : Option am_R) = some (some (vI y), h) := by rw [e]
