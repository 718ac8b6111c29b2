/-! the next way: class and model -/
def pv (w : Nat → Int) (p : Nat) : Nat := match p with
  | 0 => 0
  | i + 1 => if w (i + 1) < w i then pv w i else i + 1
def pq (w : Nat → Int) (v : Int) (p : Nat) : Nat := match p with
  | 0 => 0
  | j + 1 => if w (j + 1) < v then pq w v j else j + 1
def sw (w : Nat → Int) (a b : Nat) : Nat → Int := fun j => if j = b then w a else if j = a then w b else w j
def rv (w : Nat → Int) (a b f : Nat) : Nat → Int := match f with
  | 0 => w
  | f + 1 => if a < b then rv (sw w a b) (a + 1) (b - 1) f else w
def nxt (k : Nat) (w : Nat → Int) : Option (Nat → Int) := match pv w (k - 1) with
  | 0 => none
  | i + 1 => some (rv (sw w i (pq w (w i) (k - 1))) (i + 1) (k - 1) 6)
theorem pv_le (w : Nat → Int) (p : Nat) : pv w p ≤ p := by
  induction p with
  | zero => exact Nat.le_refl 0
  | succ p ih => unfold pv; split <;> omega
theorem pv_at (w : Nat → Int) (p i : Nat) (h : pv w p = i + 1) : ¬ w (i + 1) < w i := by
  induction p with
  | zero => exact absurd h (by unfold pv; omega)
  | succ p ih =>
    unfold pv at h
    by_cases q : w (p + 1) < w p
    · rw [if_pos q] at h; exact ih h
    · rw [if_neg q] at h
      have : p = i := by omega
      subst this
      exact q
theorem pq_r (w : Nat → Int) (i : Nat) (hi : ¬ w (i + 1) < w i) : ∀ d, i + 1 ≤ pq w (w i) (i + 1 + d) ∧ pq w (w i) (i + 1 + d) ≤ i + 1 + d := by
  intro d
  induction d with
  | zero =>
    have : pq w (w i) (i + 1 + 0) = i + 1 := by
      show (if w (i + 1) < w i then pq w (w i) i else i + 1) = i + 1
      rw [if_neg hi]
    rw [this]; omega
  | succ d ih =>
    show i + 1 ≤ (if w (i + 1 + d + 1) < w i then pq w (w i) (i + 1 + d) else i + 1 + d + 1) ∧ (if w (i + 1 + d + 1) < w i then pq w (w i) (i + 1 + d) else i + 1 + d + 1) ≤ i + 1 + (d + 1)
    split <;> omega
section Nxt
variable {h : am_H} {k : Nat} {w : Nat → Int} {ly is : am_V}
def LiO (h : am_H) (ly is : am_V) (k : Nat) : Prop := h.1 28 = cO 2 [ly, vR 29, is, vI (k : Int), vR 35, vR 36, vR 37, vR 38, vR 39]
theorem c_swap (O : LiO h ly is k) (W : h.1 36 = cI 0 6 w) {a b : Nat} (ha : a < 6) (hb : b < 6) : ev mLie_swap [vR 28, vI (a : Int), vI (b : Int)] h = some (none, hS h 36 (cI 0 6 (sw w a b))) := by
  unfold LiO at O
  rw [ev_Lie_swap]
  simp (disch := omega) only [e_Lie_swap_0, e_Lie_swap_1, e_Lie_swap_4, e_Lie_swap_5, e_Lie_swap_6, e_Lie_swap_7, e_Lie_swap_8, e_Lie_swap_11, e_Lie_swap_12, e_Lie_swap_13, e_Lie_swap_16, e_Lie_swap_17, e_Lie_swap_18, e_Lie_swap_19, e_Lie_swap_20, e_Lie_swap_23, e_Lie_swap_24, e_Lie_swap_25, e_Lie_swap_26, alk_in, ask_in, blk_in, bsk_in, qlk_in, ack_in, rcv_in, rcA_in, bk_i, bk_l, bk_v, hS_same, hS_ne, hS_hS, hS_2, am_10, am_01, am_00, if_true, if_false, gf_2_0, pf_2_0, gf_2_1, pf_2_1, gf_2_2, pf_2_2, gf_2_3, pf_2_3, gf_2_4, pf_2_4, gf_2_5, pf_2_5, gf_2_6, pf_2_6, gf_2_7, pf_2_7, gf_2_8, pf_2_8, O, W, Int.toNat_natCast]
  rfl
theorem lk_piv (O : LiO h ly is k) (W : h.1 36 = cI 0 6 w) (hw : ∀ j, j < 6 → -100 ≤ w j ∧ w j ≤ 100) {l2 l3 l4 : am_V} : ∀ p : Nat, p ≤ 5 → gv mLie_turnsToNextWay 7 [vR 28, vI ((p : Int) - 1), l2, l3, l4] [] h = gv mLie_turnsToNextWay 34 [vR 28, vI (((pv w p : Nat) : Int) - 1), l2, l3, l4] [] h := by
  unfold LiO at O
  intro p
  induction p with
  | zero =>
    intro _
    rw [e_Lie_turnsToNextWay_7]
    simp (disch := omega) only [e_Lie_turnsToNextWay_0, e_Lie_turnsToNextWay_1, e_Lie_turnsToNextWay_4, e_Lie_turnsToNextWay_5, e_Lie_turnsToNextWay_6, e_Lie_turnsToNextWay_8, e_Lie_turnsToNextWay_11, e_Lie_turnsToNextWay_12, e_Lie_turnsToNextWay_15, e_Lie_turnsToNextWay_16, e_Lie_turnsToNextWay_17, e_Lie_turnsToNextWay_18, e_Lie_turnsToNextWay_21, e_Lie_turnsToNextWay_22, e_Lie_turnsToNextWay_23, e_Lie_turnsToNextWay_24, e_Lie_turnsToNextWay_25, e_Lie_turnsToNextWay_28, e_Lie_turnsToNextWay_31, e_Lie_turnsToNextWay_35, e_Lie_turnsToNextWay_38, e_Lie_turnsToNextWay_39, e_Lie_turnsToNextWay_40, e_Lie_turnsToNextWay_41, e_Lie_turnsToNextWay_44, e_Lie_turnsToNextWay_45, e_Lie_turnsToNextWay_46, e_Lie_turnsToNextWay_48, e_Lie_turnsToNextWay_49, e_Lie_turnsToNextWay_52, e_Lie_turnsToNextWay_53, e_Lie_turnsToNextWay_56, e_Lie_turnsToNextWay_57, e_Lie_turnsToNextWay_58, e_Lie_turnsToNextWay_59, e_Lie_turnsToNextWay_62, e_Lie_turnsToNextWay_63, e_Lie_turnsToNextWay_64, e_Lie_turnsToNextWay_67, e_Lie_turnsToNextWay_70, e_Lie_turnsToNextWay_73, e_Lie_turnsToNextWay_74, e_Lie_turnsToNextWay_75, e_Lie_turnsToNextWay_76, e_Lie_turnsToNextWay_79, e_Lie_turnsToNextWay_80, e_Lie_turnsToNextWay_81, e_Lie_turnsToNextWay_82, e_Lie_turnsToNextWay_83, e_Lie_turnsToNextWay_84, e_Lie_turnsToNextWay_87, e_Lie_turnsToNextWay_88, e_Lie_turnsToNextWay_89, e_Lie_turnsToNextWay_92, e_Lie_turnsToNextWay_94, e_Lie_turnsToNextWay_97, e_Lie_turnsToNextWay_98, e_Lie_turnsToNextWay_99, e_Lie_turnsToNextWay_101, e_Lie_turnsToNextWay_104, e_Lie_turnsToNextWay_107, e_Lie_turnsToNextWay_110, e_Lie_turnsToNextWay_113, e_Lie_turnsToNextWay_114]
    rw [if_pos (by omega)]; rfl
  | succ p ih =>
    intro hp
    have e1 := ih (by omega)
    have t1 : (((p + 1 : Nat) : Int) - 1).toNat = p := by omega
    have t2 : (((p + 1 : Nat) : Int) - 1 + 1).toNat = p + 1 := by omega
    have t3 : ((p + 1 : Nat) : Int) - 1 + -1 = (p : Int) - 1 := by omega
    have r1 := hw p (by omega)
    have r2 := hw (p + 1) (by omega)
    have ep : pv w (p + 1) = if w (p + 1) < w p then pv w p else p + 1 := rfl
    rw [e_Lie_turnsToNextWay_7, ep]
    simp (disch := omega) only [e_Lie_turnsToNextWay_0, e_Lie_turnsToNextWay_1, e_Lie_turnsToNextWay_4, e_Lie_turnsToNextWay_5, e_Lie_turnsToNextWay_6, e_Lie_turnsToNextWay_8, e_Lie_turnsToNextWay_11, e_Lie_turnsToNextWay_12, e_Lie_turnsToNextWay_15, e_Lie_turnsToNextWay_16, e_Lie_turnsToNextWay_17, e_Lie_turnsToNextWay_18, e_Lie_turnsToNextWay_21, e_Lie_turnsToNextWay_22, e_Lie_turnsToNextWay_23, e_Lie_turnsToNextWay_24, e_Lie_turnsToNextWay_25, e_Lie_turnsToNextWay_28, e_Lie_turnsToNextWay_31, e_Lie_turnsToNextWay_35, e_Lie_turnsToNextWay_38, e_Lie_turnsToNextWay_39, e_Lie_turnsToNextWay_40, e_Lie_turnsToNextWay_41, e_Lie_turnsToNextWay_44, e_Lie_turnsToNextWay_45, e_Lie_turnsToNextWay_46, e_Lie_turnsToNextWay_48, e_Lie_turnsToNextWay_49, e_Lie_turnsToNextWay_52, e_Lie_turnsToNextWay_53, e_Lie_turnsToNextWay_56, e_Lie_turnsToNextWay_57, e_Lie_turnsToNextWay_58, e_Lie_turnsToNextWay_59, e_Lie_turnsToNextWay_62, e_Lie_turnsToNextWay_63, e_Lie_turnsToNextWay_64, e_Lie_turnsToNextWay_67, e_Lie_turnsToNextWay_70, e_Lie_turnsToNextWay_73, e_Lie_turnsToNextWay_74, e_Lie_turnsToNextWay_75, e_Lie_turnsToNextWay_76, e_Lie_turnsToNextWay_79, e_Lie_turnsToNextWay_80, e_Lie_turnsToNextWay_81, e_Lie_turnsToNextWay_82, e_Lie_turnsToNextWay_83, e_Lie_turnsToNextWay_84, e_Lie_turnsToNextWay_87, e_Lie_turnsToNextWay_88, e_Lie_turnsToNextWay_89, e_Lie_turnsToNextWay_92, e_Lie_turnsToNextWay_94, e_Lie_turnsToNextWay_97, e_Lie_turnsToNextWay_98, e_Lie_turnsToNextWay_99, e_Lie_turnsToNextWay_101, e_Lie_turnsToNextWay_104, e_Lie_turnsToNextWay_107, e_Lie_turnsToNextWay_110, e_Lie_turnsToNextWay_113, e_Lie_turnsToNextWay_114, alk_in, ask_in, blk_in, bsk_in, qlk_in, ack_in, rcv_in, rcA_in, bk_i, bk_l, bk_v, hS_same, hS_ne, hS_hS, hS_2, am_10, am_01, am_00, if_true, if_false, gf_2_0, pf_2_0, gf_2_1, pf_2_1, gf_2_2, pf_2_2, gf_2_3, pf_2_3, gf_2_4, pf_2_4, gf_2_5, pf_2_5, gf_2_6, pf_2_6, gf_2_7, pf_2_7, gf_2_8, pf_2_8, O, W, t1, t2, t3]
    rw [if_neg (by omega)]
    by_cases q : w (p + 1) < w p
    · rw [if_pos q]
      first
      | rw [if_pos q]; exact e1
      | rw [if_neg (by omega)]; exact e1
    · rw [if_neg q]
      first
      | rw [if_neg q]
      | rw [if_pos (by omega)]
end Nxt
