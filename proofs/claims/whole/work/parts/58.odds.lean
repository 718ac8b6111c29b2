/-! odds: the mathematics, and the class's helpers -/
def soB (so : Nat → Int) (m s k : Nat) : Nat → Int := fun i => if i = m then (if s.testBit k = true then 1 else so m) else so i
def fbt (G : Gl) (T : Tm) (m s k : Nat) : (Nat → Int) × (Nat → Int) := match k with
  | 0 => (T.2.1, T.2.2.2)
  | k + 1 => (pce G.1 (fbt G T m s k).1 (soB T.2.2.1 m s k) G.2.2.2 (fbt G T m s k).2, pye G.1 (fbt G T m s k).1 (soB T.2.2.1 m s k) G.2.2.2 (fbt G T m s k).2)
def pwr (x : Int) (e : Nat) : Int := match e with
  | 0 => 1
  | e + 1 => pwr x e * x
def wtM (x : Int) (s k : Nat) : Int := match k with
  | 0 => 1
  | k + 1 => wtM x s k * (if s.testBit k = true then x else 10 - x)
def upS (G : Gl) (T : Tm) (m : Nat) (x : Int) (n s : Nat) : Int := match s with
  | 0 => 0
  | s + 1 => upS G T m x n s + (if (fbt G T m s n).1 m = -9 then wtM x s n else 0)
def gcF (f : Nat) (a b : Int) : Int := match f with
  | 0 => a
  | f + 1 => if b = 0 then a else gcF f b (a % b)
def gz (f : Nat) (a b : Int) : Prop := match f with
  | 0 => b = 0
  | f + 1 => b = 0 ∨ gz f b (a % b)
def aOdds (G : Gl) (T : Tm) (m x n w : Int) : Int := if (0 ≤ m ∧ m < G.1) ∧ (0 ≤ x ∧ x ≤ 10) ∧ (0 ≤ n ∧ n ≤ 6) ∧ (w = 0 ∨ w = 1) then (if w = 0 then upS G T m.toNat x n.toNat (2 ^ n.toNat) else pwr 10 n.toNat) / gcF 64 (upS G T m.toNat x n.toNat (2 ^ n.toNat)) (pwr 10 n.toNat) else -1
theorem gz_e : ∀ (e : Nat) (a b : Int), 0 ≤ a → 0 ≤ b → b < 2 ^ e → gz (2 * e) a b := by
  intro e
  induction e with
  | zero =>
    intro a b ha hb hl
    show b = 0
    simp only [Int.pow_zero] at hl
    omega
  | succ e ih =>
    intro a b ha hb hl
    show b = 0 ∨ (a % b = 0 ∨ gz (2 * e) (a % b) (b % (a % b)))
    by_cases q : b = 0
    · exact Or.inl q
    · refine Or.inr ?_
      by_cases r : a % b = 0
      · exact Or.inl r
      · refine Or.inr ?_
        have r0 := Int.emod_nonneg a q
        have r1 := Int.emod_lt_of_pos a (show 0 < b by omega)
        have s0 := Int.emod_nonneg b r
        have s1 := Int.emod_lt_of_pos b (show 0 < a % b by omega)
        have s2 := Int.emod_add_mul_ediv b (a % b)
        have s3 : 1 ≤ b / (a % b) := Int.le_ediv_of_mul_le (by omega) (by omega)
        have s4 : (a % b) * 1 ≤ (a % b) * (b / (a % b)) := Int.mul_le_mul_of_nonneg_left s3 r0
        rw [Int.pow_succ] at hl
        refine ih _ _ r0 s0 (by omega)
theorem gcF_b : ∀ (f : Nat) (a b M : Int), 0 ≤ a → 0 ≤ b → a ≤ M → b ≤ M → 0 < a ∨ 0 < b → gz f a b → 0 < gcF f a b ∧ gcF f a b ≤ M := by
  intro f
  induction f with
  | zero =>
    intro a b M ha hb h1 h2 h3 hz
    have : b = 0 := hz
    show 0 < a ∧ a ≤ M
    omega
  | succ f ih =>
    intro a b M ha hb h1 h2 h3 hz
    unfold gcF
    by_cases q : b = 0
    · rw [if_pos q]; omega
    · rw [if_neg q]
      have r0 := Int.emod_nonneg a q
      have r1 := Int.emod_lt_of_pos a (show 0 < b by omega)
      have hz' : b = 0 ∨ gz f b (a % b) := hz
      exact ih b (a % b) M hb r0 h2 (by omega) (Or.inl (by omega)) (hz'.resolve_left q)
theorem popk_n : ∀ n, n < 7 → ∀ s, s < 64 → s < 2 ^ n → popk s 6 = popk s n := by decide +kernel
theorem popk_le (s : Nat) : ∀ k, popk s k ≤ k := by
  intro k
  induction k with
  | zero => exact Nat.le_refl 0
  | succ k ih => unfold popk; split <;> omega
theorem wt_eq (x : Int) (s : Nat) : ∀ k, pwr x (popk s k) * pwr (10 - x) (k - popk s k) = wtM x s k := by
  intro k
  induction k with
  | zero => rfl
  | succ k ih =>
    have hp := popk_le s k
    have e : popk s (k + 1) = popk s k + if s.testBit k then 1 else 0 := rfl
    have e2 : wtM x s (k + 1) = wtM x s k * (if s.testBit k = true then x else 10 - x) := rfl
    rw [e, e2, ← ih]
    by_cases q : s.testBit k = true
    · rw [if_pos q, if_pos q, show k + 1 - (popk s k + 1) = k - popk s k by omega]
      have e3 : pwr x (popk s k + 1) = pwr x (popk s k) * x := rfl
      rw [e3, Int.mul_assoc, Int.mul_assoc, Int.mul_comm x]
    · rw [if_neg q, if_neg q, show k + 1 - (popk s k + 0) = (k - popk s k) + 1 by omega]
      have e3 : pwr (10 - x) (k - popk s k + 1) = pwr (10 - x) (k - popk s k) * (10 - x) := rfl
      rw [e3, Nat.add_zero, Int.mul_assoc]
theorem wtM_b {x : Int} (hx : 0 ≤ x ∧ x ≤ 10) (s : Nat) : ∀ k, 0 ≤ wtM x s k ∧ wtM x s k ≤ pwr 10 k := by
  intro k
  induction k with
  | zero => exact ⟨by show (0 : Int) ≤ 1; omega, Int.le_refl _⟩
  | succ k ih =>
    have e2 : wtM x s (k + 1) = wtM x s k * (if s.testBit k = true then x else 10 - x) := rfl
    have e3 : pwr 10 (k + 1) = pwr 10 k * 10 := rfl
    rw [e2, e3]
    have b : 0 ≤ (if s.testBit k = true then x else 10 - x) ∧ (if s.testBit k = true then x else 10 - x) ≤ 10 := by split <;> omega
    refine ⟨Int.mul_nonneg ih.1 b.1, ?_⟩
    exact Int.le_trans (Int.mul_le_mul_of_nonneg_right ih.2 b.1) (Int.mul_le_mul_of_nonneg_left b.2 (by omega))
theorem pwr_10 {n : Nat} (hn : n ≤ 6) : 1 ≤ pwr 10 n ∧ pwr 10 n ≤ 1000000 := by
  have : n = 0 ∨ n = 1 ∨ n = 2 ∨ n = 3 ∨ n = 4 ∨ n = 5 ∨ n = 6 := by omega
  rcases this with z | z | z | z | z | z | z <;> subst z <;> decide
theorem upS_b (G : Gl) (T : Tm) (m : Nat) {x : Int} (hx : 0 ≤ x ∧ x ≤ 10) {n : Nat} (hn : n ≤ 6) : ∀ s : Nat, 0 ≤ upS G T m x n s ∧ upS G T m x n s ≤ 1000000 * s := by
  intro s
  have p := pwr_10 hn
  induction s with
  | zero => exact ⟨Int.le_refl 0, by show (0 : Int) ≤ 1000000 * 0; omega⟩
  | succ s ih =>
    have w := wtM_b hx s n
    unfold upS
    by_cases q : (fbt G T m s n).1 m = -9
    · rw [if_pos q]; omega
    · rw [if_neg q]; omega
theorem soB_r {n c : Nat} {ce so ha ye : Nat → Int} {so0 : Nat → Int} (hw : Wf n c ce so ha ye) (h0 : ∀ j, j < n → 0 ≤ so0 j ∧ so0 j ≤ 4) {m : Nat} (hm : m < n) (s k : Nat) : Wf n c ce (soB so0 m s k) ha ye := by
  obtain ⟨a, b, d, e, f⟩ := hw
  refine ⟨a, b, d, fun j hj => ?_, f⟩
  have z := e j hj
  have y := h0 j hj
  unfold soB
  by_cases q : j = m
  · rw [if_pos q]; rw [q] at y; split <;> omega
  · rw [if_neg q]; omega
theorem fbt_w {G : Gl} {T : Tm} (hw : WT G T) {m : Nat} (hm : m < G.1) (s : Nat) : ∀ k, Wf G.1 G.2.1 (fbt G T m s k).1 T.2.2.1 G.2.2.2 (fbt G T m s k).2 := by
  intro k
  induction k with
  | zero => exact hw
  | succ k ih =>
    have h0 : ∀ j, j < G.1 → 0 ≤ T.2.2.1 j ∧ T.2.2.1 j ≤ 4 := fun j hj => by have := hw.2.2.2.1 j hj; omega
    have w1 := Wf.pass (soB_r ih h0 hm s k)
    obtain ⟨a, b, d, e, f⟩ := w1
    refine ⟨a, b, d, fun j hj => ?_, f⟩
    have z := e j hj
    have y := h0 j hj
    exact ⟨z.1, y.1, y.2, z.2.2.2⟩
theorem fbt_out {G : Gl} {T : Tm} (hw : WT G T) {m : Nat} (hm : m < G.1) (s k : Nat) (h9 : (fbt G T m s k).1 m = -9) : ∀ d, (fbt G T m s (k + d)).1 m = -9 := by
  intro d
  induction d with
  | zero => exact h9
  | succ d ih =>
    have w := (fbt_w hw hm s (k + d)).2.2.2.1 m hm
    show pce G.1 (fbt G T m s (k + d)).1 (soB T.2.2.1 m s (k + d)) G.2.2.2 (fbt G T m s (k + d)).2 m = -9
    unfold pce pye
    rw [if_pos ih]
    rw [if_pos (by omega)]
section Odds
variable {h : am_H}
theorem l_power {x : Int} {e : Nat} (he : e ≤ 6) : ∀ (d k : Nat), k + d = e → gv mCell_power 4 [vI x, vI (e : Int), vI (pwr x k), vI (k : Int)] [] h = some (some (vI (pwr x e)), h) := by
  intro d
  induction d with
  | zero =>
    intro k hk
    have : k = e := by omega
    subst this
    rw [e_Cell_power_4]
    simp (disch := omega) only [e_Cell_power_0, e_Cell_power_1, e_Cell_power_2, e_Cell_power_3, e_Cell_power_5, e_Cell_power_6, e_Cell_power_9, e_Cell_power_10, e_Cell_power_11, e_Cell_power_12, e_Cell_power_13, e_Cell_power_16, e_Cell_power_19, e_Cell_power_20]
    rw [if_neg (by omega)]
  | succ d ih =>
    intro k hk
    have e1 := ih (k + 1) (by omega)
    rw [e_Cell_power_4, ← e1]
    simp (disch := omega) only [e_Cell_power_0, e_Cell_power_1, e_Cell_power_2, e_Cell_power_3, e_Cell_power_5, e_Cell_power_6, e_Cell_power_9, e_Cell_power_10, e_Cell_power_11, e_Cell_power_12, e_Cell_power_13, e_Cell_power_16, e_Cell_power_19, e_Cell_power_20]
    rw [if_pos (by omega)]; rfl
theorem c_power {x : Int} {e : Nat} (he : e ≤ 6) : ev mCell_power [vI x, vI (e : Int)] h = some (some (vI (pwr x e)), h) := by
  rw [ev_Cell_power, e_Cell_power_0, e_Cell_power_1, e_Cell_power_2, e_Cell_power_3]
  exact l_power he e 0 (by omega)
theorem c_weight {x : Int} {n s : Nat} (hn : n ≤ 6) (hs : s < 2 ^ n) (h64 : s < 64) : ev mCell_weight [vI x, vI (n : Int), vI ((popk s 6 : Nat) : Int)] h = some (some (vI (wtM x s n)), h) := by
  have hp := popk_le s n
  rw [popk_n n (by omega) s h64 hs, ← wt_eq x s n]
  have c1 := c_power (h := h) (x := x) (e := popk s n) (by omega)
  have c2 := c_power (h := h) (x := 10 - x) (e := n - popk s n) (by omega)
  rw [show ((n - popk s n : Nat) : Int) = (n : Int) - ((popk s n : Nat) : Int) by omega] at c2
  rw [ev_Cell_weight]
  simp (disch := omega) only [e_Cell_weight_0, e_Cell_weight_1, e_Cell_weight_2, e_Cell_weight_5, e_Cell_weight_7, e_Cell_weight_8, e_Cell_weight_9, e_Cell_weight_10, e_Cell_weight_11, e_Cell_weight_12, e_Cell_weight_15, e_Cell_weight_16, alk_in, ask_in, blk_in, bsk_in, qlk_in, ack_in, rcv_in, rcA_in, bk_i, bk_l, bk_v, hS_same, hS_ne, hS_hS, hS_2, am_10, am_01, am_00, if_true, if_false, c1, c2]
theorem l_comDiv {x0 x1 : am_V} : ∀ (f i : Nat) (a b : Int) (x5 : am_V), i + f = 64 → (0 ≤ a ∧ a < 2147483648) → (0 ≤ b ∧ b < 2147483648) → gz f a b → gv mCell_commonDivisor 7 [x0, x1, vI a, vI b, vI (i : Int), x5] [] h = some (some (vI (gcF f a b)), h) := by
  intro f
  induction f with
  | zero =>
    intro i a b x5 hi ha hb hz
    have : i = 64 := by omega
    subst this
    rw [e_Cell_commonDivisor_7]
    simp (disch := omega) only [e_Cell_commonDivisor_0, e_Cell_commonDivisor_1, e_Cell_commonDivisor_2, e_Cell_commonDivisor_3, e_Cell_commonDivisor_4, e_Cell_commonDivisor_5, e_Cell_commonDivisor_9, e_Cell_commonDivisor_11, e_Cell_commonDivisor_14, e_Cell_commonDivisor_15, e_Cell_commonDivisor_15b, e_Cell_commonDivisor_19, e_Cell_commonDivisor_20, e_Cell_commonDivisor_21, e_Cell_commonDivisor_23, e_Cell_commonDivisor_24, e_Cell_commonDivisor_25, e_Cell_commonDivisor_27, e_Cell_commonDivisor_28, e_Cell_commonDivisor_31, e_Cell_commonDivisor_34, e_Cell_commonDivisor_35]
    rw [if_neg (by omega)]; rfl
  | succ f ih =>
    intro i a b x5 hi ha hb hz
    have hz' : b = 0 ∨ gz f b (a % b) := hz
    have ef : gcF (f + 1) a b = if b = 0 then a else gcF f b (a % b) := rfl
    rw [e_Cell_commonDivisor_7, ef]
    by_cases q : b = 0
    · rw [if_pos q]
      simp (disch := omega) only [e_Cell_commonDivisor_0, e_Cell_commonDivisor_1, e_Cell_commonDivisor_2, e_Cell_commonDivisor_3, e_Cell_commonDivisor_4, e_Cell_commonDivisor_5, e_Cell_commonDivisor_9, e_Cell_commonDivisor_11, e_Cell_commonDivisor_14, e_Cell_commonDivisor_15, e_Cell_commonDivisor_15b, e_Cell_commonDivisor_19, e_Cell_commonDivisor_20, e_Cell_commonDivisor_21, e_Cell_commonDivisor_23, e_Cell_commonDivisor_24, e_Cell_commonDivisor_25, e_Cell_commonDivisor_27, e_Cell_commonDivisor_28, e_Cell_commonDivisor_31, e_Cell_commonDivisor_34, e_Cell_commonDivisor_35]
      rw [if_pos (by omega), if_pos q]
    · rw [if_neg q]
      have r0 := Int.emod_nonneg a q
      have r1 := Int.emod_lt_of_pos a (show 0 < b by omega)
      have e1 := ih (i + 1) b (a % b) (vI (a % b)) (by omega) hb (by omega) (hz'.resolve_left q)
      rw [← e1]
      simp (disch := omega) only [e_Cell_commonDivisor_0, e_Cell_commonDivisor_1, e_Cell_commonDivisor_2, e_Cell_commonDivisor_3, e_Cell_commonDivisor_4, e_Cell_commonDivisor_5, e_Cell_commonDivisor_9, e_Cell_commonDivisor_11, e_Cell_commonDivisor_14, e_Cell_commonDivisor_15, e_Cell_commonDivisor_15b, e_Cell_commonDivisor_18, e_Cell_commonDivisor_19, e_Cell_commonDivisor_20, e_Cell_commonDivisor_21, e_Cell_commonDivisor_23, e_Cell_commonDivisor_24, e_Cell_commonDivisor_25, e_Cell_commonDivisor_27, e_Cell_commonDivisor_28, e_Cell_commonDivisor_31, e_Cell_commonDivisor_34, e_Cell_commonDivisor_35]
      rw [if_pos (by omega), if_neg q]; rfl
theorem c_comDiv {a b : Int} (ha : 0 ≤ a ∧ a < 2147483648) (hb : 0 ≤ b ∧ b < 2147483648) : ev mCell_commonDivisor [vI a, vI b] h = some (some (vI (gcF 64 a b)), h) := by
  have e := l_comDiv (h := h) (x0 := vI a) (x1 := vI b) 64 0 a b vU (by omega) ha hb (gz_e 32 a b ha.1 hb.1 (by omega))
  rw [ev_Cell_commonDivisor]
  simp (disch := omega) only [e_Cell_commonDivisor_0, e_Cell_commonDivisor_1, e_Cell_commonDivisor_2, e_Cell_commonDivisor_3, e_Cell_commonDivisor_4, e_Cell_commonDivisor_5, e_Cell_commonDivisor_9, e_Cell_commonDivisor_11, e_Cell_commonDivisor_14, e_Cell_commonDivisor_15, e_Cell_commonDivisor_15b, e_Cell_commonDivisor_18, e_Cell_commonDivisor_19, e_Cell_commonDivisor_20, e_Cell_commonDivisor_21, e_Cell_commonDivisor_23, e_Cell_commonDivisor_24, e_Cell_commonDivisor_25, e_Cell_commonDivisor_27, e_Cell_commonDivisor_28, e_Cell_commonDivisor_31, e_Cell_commonDivisor_34, e_Cell_commonDivisor_35]
  exact e
end Odds
